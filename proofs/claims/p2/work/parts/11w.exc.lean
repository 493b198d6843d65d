/-! ===== Methods that may throw `stop`, and those that catch it ===== -/
abbrev ISE : String := "java/lang/IllegalStateException"
/-- how a method that may throw leaves by a throw -/
def XQ (D : va_G) (g : Nat → ClassId) (ad : Nat → Nat) (A : Nat → Prop) (sz uz : Nat) (PX : Ly → St → Nat → Nat → Prop) : String → State → State → Prop :=
  vx_X (fun u : Ly × St × Nat × Nat => PX u.1 u.2.1 u.2.2.1 u.2.2.2) (fun E u t => E = ISE ∧ QU D A (fun u : Ly × St × Nat × Nat => ws g ad u.1 u.2.1) sz uz (fun u => u.2.2.1) (fun u => u.2.2.2) u t) A
section XU
variable {p : Program} {l : Launch} {e : Env} {R : Room} {s : State} {m : MethodId} {args : Array Value} {below : List Frame} {meth : Method} {c : Code} {H : Heap} {locs : List Loc} {cells slots : Nat} {Q : State → Prop}
theorem vx_tight {g : JFrame} {k n q : Nat} (h1 : H.size ≤ s.heap.size + k) (h2 : us H ≤ us s.heap + n) (kk : vx_W p l e R s m args below meth c H locs k n Q g q) : vx_W p l e R s m args below meth c H locs cells slots Q g q := by
  intro T hT X
  refine kk T hT { X with same := ?_ }
  obtain ⟨x1, x2, x3, x4, x5, x6⟩ := X.same
  refine ⟨x1, x2, ?_, x4, ?_, x6⟩
  · show T.heap.size ≤ s.heap.size + k
    rw [hT]; exact h1
  · have h3 := us_stand X
    show ((T.heap.toList.drop s.heap.size).map (·.slots.size)).sum ≤ n
    rw [hT] at h3 ⊢
    omega
theorem vx_grown {g : JFrame} {q : Nat} (kk : H.size ≤ s.heap.size + cells → us H ≤ us s.heap + slots → vx_W p l e R s m args below meth c H locs cells slots Q g q) : vx_W p l e R s m args below meth c H locs cells slots Q g q := by
  intro T hT X
  have h1 := X.heapSize
  have h2 := us_le X
  rw [hT] at h1 h2
  exact kk h1 h2 T hT X
end XU
theorem ofGx {l : Launch} {y : MethodName} {b : ByteArray} {nL : Nat} {r : Option FieldType} {rm : Room} {g : Nat → ClassId} {D : va_G} {sl : List SL} {av : List Value} {sz uz : Nat} {ws : va_W} {Qc : Array Value → State → Outcome → State → Prop} {XC : String → State → State → Prop} {mc ms : Nat} (hy : plainName y.cls = true) (hn : (lg_sl av).length ≤ nL)
    (body : ∀ (p : Program) (e : Env) (s : State) (m : MethodId) (args : Array Value) (below : List Frame) (meth : Method) (c : Code) (ls : Array Slot), p.tables.exec = Jvm.exec → c.code = b → c.maxLocals = nL → meth.sig.returnType = r → meth.locks = false → (∀ w ∈ lw_ok, w.before args s = true) → s.vm.findClass y.cls = some m.cls → meth.name = y.name → s.heap.size = sz → us s.heap = uz → va_K D CL (TY g) s → NB s → SX sl (va_A ws sz) s s.heap → va_P D CL ws s.heap → va_D (va_A ws sz) ws → lv_has ls nL (lv_args 0 av) → (∀ x ∈ c.exceptionTable.toList, False) →
      W p l e rm s m args below meth c s.heap [] 0 0 (vx_MQ below Qc XC args s mc ms (va_A ws sz)) (F0 m 0 ls [])) :
    vx_Met l y (mw y b nL r) rm (PCu g D sl av sz uz ws) Qc XC mc ms (va_A ws sz) := by
  refine vx_ofW (cc := b) (maxL := nL) (ret := r) hy rfl ?_
  intro p e s m args below meth c s₁ B hml htab hv
  obtain ⟨hargs, ⟨hsz, hP, hK, hD, hN, hX⟩, huz⟩ := hv
  have hts := atoms_spec (ws := mw y b nL r) B.pre
  have hent : entryFrame m args nL = F0 m 0 ((lg_sl av ++ List.replicate (nL - (lg_sl av).length) Slot.unset).toArray) [] := by
    rw [hargs]; exact lg_entry_eq m av nL
  rw [hent]
  exact body p e s m args below meth c _ B.exec B.bytes hml B.returns B.notSynchronized (fun w hw => hts w (List.mem_cons_of_mem _ hw)) (findClass_of_methodNamed B.named) (name_of_methodNamed B.named B.method).1 hsz huz hK hN hX hP hD.self (lv_entry av hn) htab
theorem ofVx {l : Launch} {y : MethodName} {b : ByteArray} {nL : Nat} {rm : Room} {g : Nat → ClassId} {D : va_G} {sl : List SL} {av : List Value} {sz uz : Nat} {ad : Nat → Nat} {ws0 : va_W} {Post : Ly → St → Nat → Nat → Prop} {PX : Ly → St → Nat → Nat → Prop} {mc ms : Nat} (hy : plainName y.cls = true) (hn : (lg_sl av).length ≤ nL)
    (body : ∀ (p : Program) (e : Env) (s : State) (m : MethodId) (args : Array Value) (below : List Frame) (meth : Method) (c : Code) (A : Nat → Prop) (Q : State → Prop) (ls : Array Slot) (H : Heap) (locs : List Loc), GV l p s m args meth c y b nL (none) g D sl A → s.heap.size = sz → va_P D CL ws0 H → va_D A ws0 → va_S A s.heap H locs → lv_has ls nL (lv_args 0 av) →
      (∀ (u : Ly × St × Nat × Nat) (H : Heap) (locs : List Loc) (k n pc : Nat) (ls : Array Slot), Post u.1 u.2.1 u.2.2.1 u.2.2.2 → va_P D CL (ws g ad u.1 u.2.1) H → va_D A (ws g ad u.1 u.2.1) → va_S A s.heap H locs → k ≤ u.2.2.1 → n ≤ u.2.2.2 → u.2.2.1 ≤ mc → u.2.2.2 ≤ ms → decode b pc = .ok (.return_, 1) → W p l e rm s m args below meth c H locs k n Q (F0 m pc ls [])) →
      (∀ {y2 : Ly} {σ2 : St} {k n : Nat} {H : Heap} {locs : List Loc} {pc q : Nat} {ce : Cell} {ls : Array Slot} {rest : List Value}, PX y2 σ2 k n → va_P D CL (ws g ad y2 σ2) H → va_D A (ws g ad y2 σ2) → va_S A s.heap H locs → k ≤ mc → n ≤ ms → H[q]? = some ce → ce.vm = .none → s.vm.findClass ISE = some ce.cls → vx_W p l e rm s m args below meth c H locs k n Q (F0 m pc ls rest) q) →
      W p l e rm s m args below meth c H locs 0 0 Q (F0 m 0 ls [])) :
    vx_Met l y (mw y b nL (none)) rm (PCu g D sl av sz uz ws0) (va_Qv (fun u : Ly × St × Nat × Nat => Post u.1 u.2.1 u.2.2.1 u.2.2.2) (QU D (va_A ws0 sz) (fun u => ws g ad u.1 u.2.1) sz uz (fun u => u.2.2.1) (fun u => u.2.2.2)) (va_A ws0 sz)) (XQ D g ad (va_A ws0 sz) sz uz PX) mc ms (va_A ws0 sz) := by
  refine ofGx hy hn ?_
  intro p e s m args below meth c ls hx hb hml hr hlk ht hown hin hsz huz hK hN hX hP hD hl htab
  refine body p e s m args below meth c (va_A ws0 sz) _ ls s.heap [] ⟨hx, hb, hml, hr, hlk, ht, hown, hin, hK, hN, hX, fun q h => Or.inr (by rw [← hsz]; exact h)⟩ hsz hP hD va_S.rf hl ?_ ?_
  · intro u H locs k n pc ls hpost hP1 hD1 hS1 hk hn1 hmc hms hdg
    refine W.widen hk hn1 ?_
    refine W.grown (fun e1 e2 => ?_)
    refine W.widen hmc hms ?_
    refine vx_ret ?_
    exact W.vret hx hb hr (fun t ht hW => ⟨⟨u, rfl, hpost, ⟨by rw [ht]; exact hP1, hD1⟩, by rw [ht, ← hsz]; exact e1, by rw [ht, ← huz]; exact e2⟩, hS1.F ht⟩) hS1.2.2 hdg hlk
  · intro y2 σ2 k n H locs pc q ce ls rest hpx hP1 hD1 hS1 hk hn1 hce hcv hcl
    refine vx_grown (fun e1 e2 => ?_)
    refine vx_widen hk hn1 ?_
    exact vx_out (fun x hx => (htab x hx).elim) hlk hce hcv hcl (fun t ht hal => ⟨(y2, σ2, k, n), hpx, ⟨rfl, ⟨by rw [ht]; exact hP1, hD1⟩, by rw [ht, ← hsz]; exact e1, by rw [ht, ← huz]; exact e2⟩, hS1.F ht⟩) hS1.2.2 (Nat.le_refl _) (Nat.le_refl _)
theorem ofIx {l : Launch} {y : MethodName} {b : ByteArray} {nL : Nat} {rm : Room} {g : Nat → ClassId} {D : va_G} {sl : List SL} {av : List Value} {sz uz : Nat} {ad : Nat → Nat} {ws0 : va_W} {Post : Ly → St → Int32 → Nat → Nat → Prop} {PX : Ly → St → Nat → Nat → Prop} {mc ms : Nat} (hy : plainName y.cls = true) (hn : (lg_sl av).length ≤ nL)
    (body : ∀ (p : Program) (e : Env) (s : State) (m : MethodId) (args : Array Value) (below : List Frame) (meth : Method) (c : Code) (A : Nat → Prop) (Q : State → Prop) (ls : Array Slot) (H : Heap) (locs : List Loc), GV l p s m args meth c y b nL (some .int) g D sl A → s.heap.size = sz → va_P D CL ws0 H → va_D A ws0 → va_S A s.heap H locs → lv_has ls nL (lv_args 0 av) →
      (∀ (v : Int32) (u : Ly × St × Nat × Nat) (H : Heap) (locs : List Loc) (k n pc : Nat) (ls : Array Slot), Post u.1 u.2.1 v u.2.2.1 u.2.2.2 → va_P D CL (ws g ad u.1 u.2.1) H → va_D A (ws g ad u.1 u.2.1) → va_S A s.heap H locs → k ≤ u.2.2.1 → n ≤ u.2.2.2 → u.2.2.1 ≤ mc → u.2.2.2 ≤ ms → decode b pc = .ok (.ireturn, 1) → W p l e rm s m args below meth c H locs k n Q (F0 m pc ls [.int v])) →
      (∀ {y2 : Ly} {σ2 : St} {k n : Nat} {H : Heap} {locs : List Loc} {pc q : Nat} {ce : Cell} {ls : Array Slot} {rest : List Value}, PX y2 σ2 k n → va_P D CL (ws g ad y2 σ2) H → va_D A (ws g ad y2 σ2) → va_S A s.heap H locs → k ≤ mc → n ≤ ms → H[q]? = some ce → ce.vm = .none → s.vm.findClass ISE = some ce.cls → vx_W p l e rm s m args below meth c H locs k n Q (F0 m pc ls rest) q) →
      W p l e rm s m args below meth c H locs 0 0 Q (F0 m 0 ls [])) :
    vx_Met l y (mw y b nL (some .int)) rm (PCu g D sl av sz uz ws0) (va_Qi (fun (r : Int32) (u : Ly × St × Nat × Nat) => Post u.1 u.2.1 r u.2.2.1 u.2.2.2) (QU D (va_A ws0 sz) (fun u => ws g ad u.1 u.2.1) sz uz (fun u => u.2.2.1) (fun u => u.2.2.2)) (va_A ws0 sz)) (XQ D g ad (va_A ws0 sz) sz uz PX) mc ms (va_A ws0 sz) := by
  refine ofGx hy hn ?_
  intro p e s m args below meth c ls hx hb hml hr hlk ht hown hin hsz huz hK hN hX hP hD hl htab
  refine body p e s m args below meth c (va_A ws0 sz) _ ls s.heap [] ⟨hx, hb, hml, hr, hlk, ht, hown, hin, hK, hN, hX, fun q h => Or.inr (by rw [← hsz]; exact h)⟩ hsz hP hD va_S.rf hl ?_ ?_
  · intro v u H locs k n pc ls hpost hP1 hD1 hS1 hk hn1 hmc hms hdg
    refine W.widen hk hn1 ?_
    refine W.grown (fun e1 e2 => ?_)
    refine W.widen hmc hms ?_
    refine vx_ret ?_
    exact W.iret hx hb hr (fun t ht hW => ⟨⟨v, u, rfl, hpost, ⟨by rw [ht]; exact hP1, hD1⟩, by rw [ht, ← hsz]; exact e1, by rw [ht, ← huz]; exact e2⟩, hS1.F ht⟩) hS1.2.2 hdg hlk
  · intro y2 σ2 k n H locs pc q ce ls rest hpx hP1 hD1 hS1 hk hn1 hce hcv hcl
    refine vx_grown (fun e1 e2 => ?_)
    refine vx_widen hk hn1 ?_
    exact vx_out (fun x hx => (htab x hx).elim) hlk hce hcv hcl (fun t ht hal => ⟨(y2, σ2, k, n), hpx, ⟨rfl, ⟨by rw [ht]; exact hP1, hD1⟩, by rw [ht, ← hsz]; exact e1, by rw [ht, ← huz]; exact e2⟩, hS1.F ht⟩) hS1.2.2 (Nat.le_refl _) (Nat.le_refl _)
theorem ofZx {l : Launch} {y : MethodName} {b : ByteArray} {nL : Nat} {rm : Room} {g : Nat → ClassId} {D : va_G} {sl : List SL} {av : List Value} {sz uz : Nat} {ad : Nat → Nat} {ws0 : va_W} {Post : Ly → St → Int32 → Nat → Nat → Prop} {PX : Ly → St → Nat → Nat → Prop} {mc ms : Nat} {ty : FieldType} (hy : plainName y.cls = true) (hn : (lg_sl av).length ≤ nL)
    (body : ∀ (p : Program) (e : Env) (s : State) (m : MethodId) (args : Array Value) (below : List Frame) (meth : Method) (c : Code) (A : Nat → Prop) (Q : State → Prop) (ls : Array Slot) (H : Heap) (locs : List Loc), GV l p s m args meth c y b nL (some ty) g D sl A → s.heap.size = sz → va_P D CL ws0 H → va_D A ws0 → va_S A s.heap H locs → lv_has ls nL (lv_args 0 av) →
      (∀ (v : Int32) (u : Ly × St × Nat × Nat) (H : Heap) (locs : List Loc) (k n pc : Nat) (ls : Array Slot), narrow ty (.int v) = .int v → Post u.1 u.2.1 v u.2.2.1 u.2.2.2 → va_P D CL (ws g ad u.1 u.2.1) H → va_D A (ws g ad u.1 u.2.1) → va_S A s.heap H locs → k ≤ u.2.2.1 → n ≤ u.2.2.2 → u.2.2.1 ≤ mc → u.2.2.2 ≤ ms → decode b pc = .ok (.ireturn, 1) → W p l e rm s m args below meth c H locs k n Q (F0 m pc ls [.int v])) →
      (∀ {y2 : Ly} {σ2 : St} {k n : Nat} {H : Heap} {locs : List Loc} {pc q : Nat} {ce : Cell} {ls : Array Slot} {rest : List Value}, PX y2 σ2 k n → va_P D CL (ws g ad y2 σ2) H → va_D A (ws g ad y2 σ2) → va_S A s.heap H locs → k ≤ mc → n ≤ ms → H[q]? = some ce → ce.vm = .none → s.vm.findClass ISE = some ce.cls → vx_W p l e rm s m args below meth c H locs k n Q (F0 m pc ls rest) q) →
      W p l e rm s m args below meth c H locs 0 0 Q (F0 m 0 ls [])) :
    vx_Met l y (mw y b nL (some ty)) rm (PCu g D sl av sz uz ws0) (va_Qi (fun (r : Int32) (u : Ly × St × Nat × Nat) => Post u.1 u.2.1 r u.2.2.1 u.2.2.2) (QU D (va_A ws0 sz) (fun u => ws g ad u.1 u.2.1) sz uz (fun u => u.2.2.1) (fun u => u.2.2.2)) (va_A ws0 sz)) (XQ D g ad (va_A ws0 sz) sz uz PX) mc ms (va_A ws0 sz) := by
  refine ofGx hy hn ?_
  intro p e s m args below meth c ls hx hb hml hr hlk ht hown hin hsz huz hK hN hX hP hD hl htab
  refine body p e s m args below meth c (va_A ws0 sz) _ ls s.heap [] ⟨hx, hb, hml, hr, hlk, ht, hown, hin, hK, hN, hX, fun q h => Or.inr (by rw [← hsz]; exact h)⟩ hsz hP hD va_S.rf hl ?_ ?_
  · intro v u H locs k n pc ls hv9 hpost hP1 hD1 hS1 hk hn1 hmc hms hdg
    refine W.widen hk hn1 ?_
    refine W.grown (fun e1 e2 => ?_)
    refine W.widen hmc hms ?_
    refine vx_ret ?_
    exact W.zret hx hb hr hv9 (fun t ht hW => ⟨⟨v, u, rfl, hpost, ⟨by rw [ht]; exact hP1, hD1⟩, by rw [ht, ← hsz]; exact e1, by rw [ht, ← huz]; exact e2⟩, hS1.F ht⟩) hS1.2.2 hdg hlk
  · intro y2 σ2 k n H locs pc q ce ls rest hpx hP1 hD1 hS1 hk hn1 hce hcv hcl
    refine vx_grown (fun e1 e2 => ?_)
    refine vx_widen hk hn1 ?_
    exact vx_out (fun x hx => (htab x hx).elim) hlk hce hcv hcl (fun t ht hal => ⟨(y2, σ2, k, n), hpx, ⟨rfl, ⟨by rw [ht]; exact hP1, hD1⟩, by rw [ht, ← hsz]; exact e1, by rw [ht, ← huz]; exact e2⟩, hS1.F ht⟩) hS1.2.2 (Nat.le_refl _) (Nat.le_refl _)
theorem ofLx {l : Launch} {y : MethodName} {b : ByteArray} {nL : Nat} {rm : Room} {g : Nat → ClassId} {D : va_G} {sl : List SL} {av : List Value} {sz uz : Nat} {ad : Nat → Nat} {ws0 : va_W} {Post : Ly → St → Int64 → Nat → Nat → Prop} {PX : Ly → St → Nat → Nat → Prop} {mc ms : Nat} (hy : plainName y.cls = true) (hn : (lg_sl av).length ≤ nL)
    (body : ∀ (p : Program) (e : Env) (s : State) (m : MethodId) (args : Array Value) (below : List Frame) (meth : Method) (c : Code) (A : Nat → Prop) (Q : State → Prop) (ls : Array Slot) (H : Heap) (locs : List Loc), GV l p s m args meth c y b nL (some .long) g D sl A → s.heap.size = sz → va_P D CL ws0 H → va_D A ws0 → va_S A s.heap H locs → lv_has ls nL (lv_args 0 av) →
      (∀ (v : Int64) (u : Ly × St × Nat × Nat) (H : Heap) (locs : List Loc) (k n pc : Nat) (ls : Array Slot), Post u.1 u.2.1 v u.2.2.1 u.2.2.2 → va_P D CL (ws g ad u.1 u.2.1) H → va_D A (ws g ad u.1 u.2.1) → va_S A s.heap H locs → k ≤ u.2.2.1 → n ≤ u.2.2.2 → u.2.2.1 ≤ mc → u.2.2.2 ≤ ms → decode b pc = .ok (.lreturn, 1) → W p l e rm s m args below meth c H locs k n Q (F0 m pc ls [.long v])) →
      (∀ {y2 : Ly} {σ2 : St} {k n : Nat} {H : Heap} {locs : List Loc} {pc q : Nat} {ce : Cell} {ls : Array Slot} {rest : List Value}, PX y2 σ2 k n → va_P D CL (ws g ad y2 σ2) H → va_D A (ws g ad y2 σ2) → va_S A s.heap H locs → k ≤ mc → n ≤ ms → H[q]? = some ce → ce.vm = .none → s.vm.findClass ISE = some ce.cls → vx_W p l e rm s m args below meth c H locs k n Q (F0 m pc ls rest) q) →
      W p l e rm s m args below meth c H locs 0 0 Q (F0 m 0 ls [])) :
    vx_Met l y (mw y b nL (some .long)) rm (PCu g D sl av sz uz ws0) (va_Ql (fun (r : Int64) (u : Ly × St × Nat × Nat) => Post u.1 u.2.1 r u.2.2.1 u.2.2.2) (QU D (va_A ws0 sz) (fun u => ws g ad u.1 u.2.1) sz uz (fun u => u.2.2.1) (fun u => u.2.2.2)) (va_A ws0 sz)) (XQ D g ad (va_A ws0 sz) sz uz PX) mc ms (va_A ws0 sz) := by
  refine ofGx hy hn ?_
  intro p e s m args below meth c ls hx hb hml hr hlk ht hown hin hsz huz hK hN hX hP hD hl htab
  refine body p e s m args below meth c (va_A ws0 sz) _ ls s.heap [] ⟨hx, hb, hml, hr, hlk, ht, hown, hin, hK, hN, hX, fun q h => Or.inr (by rw [← hsz]; exact h)⟩ hsz hP hD va_S.rf hl ?_ ?_
  · intro v u H locs k n pc ls hpost hP1 hD1 hS1 hk hn1 hmc hms hdg
    refine W.widen hk hn1 ?_
    refine W.grown (fun e1 e2 => ?_)
    refine W.widen hmc hms ?_
    refine vx_ret ?_
    exact W.lret hx hb hr (fun t ht hW => ⟨⟨v, u, rfl, hpost, ⟨by rw [ht]; exact hP1, hD1⟩, by rw [ht, ← hsz]; exact e1, by rw [ht, ← huz]; exact e2⟩, hS1.F ht⟩) hS1.2.2 hdg hlk
  · intro y2 σ2 k n H locs pc q ce ls rest hpx hP1 hD1 hS1 hk hn1 hce hcv hcl
    refine vx_grown (fun e1 e2 => ?_)
    refine vx_widen hk hn1 ?_
    exact vx_out (fun x hx => (htab x hx).elim) hlk hce hcv hcl (fun t ht hal => ⟨(y2, σ2, k, n), hpx, ⟨rfl, ⟨by rw [ht]; exact hP1, hD1⟩, by rw [ht, ← hsz]; exact e1, by rw [ht, ← huz]; exact e2⟩, hS1.F ht⟩) hS1.2.2 (Nat.le_refl _) (Nat.le_refl _)
/-! a method with a table of its own, that catches: it returns -/
abbrev mww (y : MethodName) (b : ByteArray) (n : Nat) (r : Option FieldType) (hh : List (Nat × Nat × Nat × Nat)) : List Cond := Cond.codeWith y b n r hh :: lw_ok
theorem mww_good {y : MethodName} {b : ByteArray} {n : Nat} {r : Option FieldType} {hh : List (Nat × Nat × Nat × Nat)} (h : Cond.codeWith y b n r hh ∈ lw_ok) : GoodIn lw_ok (mww y b n r hh) := by
  intro w hw
  rcases List.mem_cons.mp hw with rfl | hw
  · exact ⟨h, good_of_word (lw_okgood h)⟩
  · exact ⟨hw, good_of_word (lw_okgood hw)⟩
theorem ofGuW {l : Launch} {y : MethodName} {b : ByteArray} {nL : Nat} {r : Option FieldType} {hh : List (Nat × Nat × Nat × Nat)} {rm : Room} {g : Nat → ClassId} {D : va_G} {sl : List SL} {av : List Value} {sz uz : Nat} {ws : va_W} {Qc : Array Value → State → Outcome → State → Prop} {mc ms : Nat} (hy : plainName y.cls = true) (hn : (lg_sl av).length ≤ nL)
    (body : ∀ (p : Program) (e : Env) (s : State) (m : MethodId) (args : Array Value) (below : List Frame) (meth : Method) (c : Code) (ls : Array Slot), p.tables.exec = Jvm.exec → c.code = b → c.maxLocals = nL → meth.sig.returnType = r → meth.locks = false → (∀ w ∈ lw_ok, w.before args s = true) → s.vm.findClass y.cls = some m.cls → meth.name = y.name → s.heap.size = sz → us s.heap = uz → va_K D CL (TY g) s → NB s → SX sl (va_A ws sz) s s.heap → va_P D CL ws s.heap → va_D (va_A ws sz) ws → lv_has ls nL (lv_args 0 av) → c.exceptionTable.toList = tableOf hh →
      W p l e rm s m args below meth c s.heap [] 0 0 (MQ below Qc args s mc ms (va_A ws sz)) (F0 m 0 ls [])) :
    Met l y (mww y b nL r hh) rm (PCu g D sl av sz uz ws) Qc mc ms (va_A ws sz) := by
  refine va_MetW (cc := b) (maxL := nL) (ret := r) (hh := hh) hy rfl ?_
  intro p e s m args below meth c s₁ B hml hv
  obtain ⟨hargs, ⟨hsz, hP, hK, hD, hN, hX⟩, huz⟩ := hv
  have hts := atoms_spec (ws := mww y b nL r hh) B.pre
  have hent : entryFrame m args nL = F0 m 0 ((lg_sl av ++ List.replicate (nL - (lg_sl av).length) Slot.unset).toArray) [] := by
    rw [hargs]; exact lg_entry_eq m av nL
  rw [hent]
  exact body p e s m args below meth c _ B.exec B.bytes hml B.returns B.notSynchronized (fun w hw => hts w (List.mem_cons_of_mem _ hw)) (findClass_of_methodNamed B.named) (name_of_methodNamed B.named B.method).1 hsz huz hK hN hX hP hD.self (lv_entry av hn) (vx_table (x := y) B (hts _ List.mem_cons_self))
theorem ofIuW {S : Type} {l : Launch} {y : MethodName} {b : ByteArray} {nL : Nat} {hh : List (Nat × Nat × Nat × Nat)} {rm : Room} {g : Nat → ClassId} {D : va_G} {sl : List SL} {av : List Value} {sz uz : Nat} {ws : va_W} {post : Int32 → S → Prop} {W' : S → va_W} {dc ds : S → Nat} {mc ms : Nat} (hy : plainName y.cls = true) (hn : (lg_sl av).length ≤ nL)
    (body : ∀ (p : Program) (e : Env) (s : State) (m : MethodId) (args : Array Value) (below : List Frame) (meth : Method) (c : Code) (A : Nat → Prop) (Q : State → Prop) (ls : Array Slot) (H : Heap) (locs : List Loc), GV l p s m args meth c y b nL (some .int) g D sl A → c.exceptionTable.toList = tableOf hh → s.heap.size = sz → va_P D CL ws H → va_D A ws → va_S A s.heap H locs → lv_has ls nL (lv_args 0 av) →
      (∀ (v : Int32) (u : S) (H : Heap) (locs : List Loc) (k n pc : Nat) (ls : Array Slot), post v u → va_P D CL (W' u) H → va_D A (W' u) → va_S A s.heap H locs → k ≤ dc u → n ≤ ds u → dc u ≤ mc → ds u ≤ ms → decode b pc = .ok (.ireturn, 1) → W p l e rm s m args below meth c H locs k n Q (F0 m pc ls [.int v])) →
      W p l e rm s m args below meth c H locs 0 0 Q (F0 m 0 ls [])) :
    Met l y (mww y b nL (some .int) hh) rm (PCu g D sl av sz uz ws) (va_Qi post (QU D (va_A ws sz) W' sz uz dc ds) (va_A ws sz)) mc ms (va_A ws sz) := by
  refine ofGuW hy hn ?_
  intro p e s m args below meth c ls hx hb hml hr hlk ht hown hin hsz huz hK hN hX hP hD hl htab
  refine body p e s m args below meth c (va_A ws sz) _ ls s.heap [] ⟨hx, hb, hml, hr, hlk, ht, hown, hin, hK, hN, hX, fun q h => Or.inr (by rw [← hsz]; exact h)⟩ htab hsz hP hD va_S.rf hl ?_
  intro v u H locs k n pc ls hpost hP1 hD1 hS1 hk hn1 hmc hms hdg
  refine W.widen hk hn1 ?_
  refine W.grown (fun e1 e2 => ?_)
  refine W.widen hmc hms ?_
  exact W.iret hx hb hr (fun t ht hW => ⟨⟨v, u, rfl, hpost, ⟨by rw [ht]; exact hP1, hD1⟩, by rw [ht, ← hsz]; exact e1, by rw [ht, ← huz]; exact e2⟩, hS1.F ht⟩) hS1.2.2 hdg hlk
theorem ofZuW {S : Type} {l : Launch} {y : MethodName} {b : ByteArray} {nL : Nat} {hh : List (Nat × Nat × Nat × Nat)} {rm : Room} {g : Nat → ClassId} {D : va_G} {sl : List SL} {av : List Value} {sz uz : Nat} {ws : va_W} {post : Int32 → S → Prop} {W' : S → va_W} {dc ds : S → Nat} {mc ms : Nat} {ty : FieldType} (hy : plainName y.cls = true) (hn : (lg_sl av).length ≤ nL)
    (body : ∀ (p : Program) (e : Env) (s : State) (m : MethodId) (args : Array Value) (below : List Frame) (meth : Method) (c : Code) (A : Nat → Prop) (Q : State → Prop) (ls : Array Slot) (H : Heap) (locs : List Loc), GV l p s m args meth c y b nL (some ty) g D sl A → c.exceptionTable.toList = tableOf hh → s.heap.size = sz → va_P D CL ws H → va_D A ws → va_S A s.heap H locs → lv_has ls nL (lv_args 0 av) →
      (∀ (v : Int32) (u : S) (H : Heap) (locs : List Loc) (k n pc : Nat) (ls : Array Slot), narrow ty (.int v) = .int v → post v u → va_P D CL (W' u) H → va_D A (W' u) → va_S A s.heap H locs → k ≤ dc u → n ≤ ds u → dc u ≤ mc → ds u ≤ ms → decode b pc = .ok (.ireturn, 1) → W p l e rm s m args below meth c H locs k n Q (F0 m pc ls [.int v])) →
      W p l e rm s m args below meth c H locs 0 0 Q (F0 m 0 ls [])) :
    Met l y (mww y b nL (some ty) hh) rm (PCu g D sl av sz uz ws) (va_Qi post (QU D (va_A ws sz) W' sz uz dc ds) (va_A ws sz)) mc ms (va_A ws sz) := by
  refine ofGuW hy hn ?_
  intro p e s m args below meth c ls hx hb hml hr hlk ht hown hin hsz huz hK hN hX hP hD hl htab
  refine body p e s m args below meth c (va_A ws sz) _ ls s.heap [] ⟨hx, hb, hml, hr, hlk, ht, hown, hin, hK, hN, hX, fun q h => Or.inr (by rw [← hsz]; exact h)⟩ htab hsz hP hD va_S.rf hl ?_
  intro v u H locs k n pc ls hv9 hpost hP1 hD1 hS1 hk hn1 hmc hms hdg
  refine W.widen hk hn1 ?_
  refine W.grown (fun e1 e2 => ?_)
  refine W.widen hmc hms ?_
  exact W.zret hx hb hr hv9 (fun t ht hW => ⟨⟨v, u, rfl, hpost, ⟨by rw [ht]; exact hP1, hD1⟩, by rw [ht, ← hsz]; exact e1, by rw [ht, ← huz]; exact e2⟩, hS1.F ht⟩) hS1.2.2 hdg hlk
section XR
variable {p : Program} {l : Launch} {e : Env} {R : Room} {s : State} {m : MethodId} {args : Array Value} {below : List Frame} {meth : Method} {c : Code} {H : Heap} {locs : List Loc} {cells slots mc ms : Nat} {Q : State → Prop}
variable {cc : ByteArray} {pc nL : Nat} {ls : Array Slot} {rest st : List Value} {A0 : Nat → Prop} {y0 y1 : MethodName} {bytes : ByteArray} {maxL index : Nat} {ret r0 : Option FieldType} {rm : Room} {g : Nat → ClassId} {D : va_G} {sl sl' : List SL} {As : List Value} {ad : Nat → Nat} {y : Ly} {σ : St} {b ci : Nat} {q : vw_C}
theorem uathrow (G : GV l p s m args meth c y0 cc nL r0 g D sl A0) (hP : va_P D CL (ws g ad y σ) H) (hcl : cl b = 15) (hdg : decode cc pc = .ok (.athrow, 1))
    (kk : ∀ ce : Cell, H[ad b]? = some ce → ce.vm = .none → s.vm.findClass ISE = some ce.cls → vx_W p l e R s m args below meth c H locs cells slots Q (F0 m pc ls rest) (ad b)) : W p l e R s m args below meth c H locs cells slots Q (F0 m pc ls (.ref (ad b) :: rest)) := by
  obtain ⟨q0, -, he⟩ := ws_at (g := g) (ad := ad) (y := y) (σ := σ) (mem_obj (a := b) (by rw [hcl]; decide))
  rw [clv_o hcl] at he
  obtain ⟨z9, hz9, cell, h1, h2, h3, -⟩ := hP q0 _ he
  refine vx_athrow G.1 G.2.1 hdg (kk cell h1 h3 ?_)
  rw [h2]
  exact (G.2.2.2.2.2.2.2.2.1.1 15 _ rfl).2.1
theorem uxVv {n : Nat} {Post : Ly → St → Nat → Nat → Prop} {PX : Ly → St → Nat → Nat → Prop} (G : GV l p s m args meth c y0 cc nL r0 g D sl A0) (hP : va_P D CL (ws g ad y σ) H) (hD : va_D A0 (ws g ad y σ)) (hS : va_S A0 s.heap H locs)
    (hM : vx_Met l y1 (mw y1 bytes maxL ret) rm (PCu g D sl' (.ref (ad b) :: As) H.size (us H) (ws g ad y σ)) (va_Qv (fun u : Ly × St × Nat × Nat => Post u.1 u.2.1 u.2.2.1 u.2.2.2) (QU D (va_A (ws g ad y σ) H.size) (fun u => ws g ad u.1 u.2.1) H.size (us H) (fun u => u.2.2.1) (fun u => u.2.2.2)) (va_A (ws g ad y σ) H.size)) (XQ D g ad (va_A (ws g ad y σ) H.size) H.size (us H) PX) mc ms (va_A (ws g ad y σ) H.size)) (hsl : ∀ x ∈ sl', x ∈ sl)
    (w : CWv y1 bytes maxL ret n ∧ Cond.instanceMethod y1 ∈ lw_ok ∧ Cond.selects y1.cls y1 y1 ∈ lw_ok) (hl : Cond.methodLink y0.cls index y1 ∈ lw_ok) (hR : rm.frames + 1 ≤ R.frames ∧ 8 + (maxL + 11) + rm.locals ≤ R.locals) (hrc : rm.cells = mc) (hrs : rm.slots = ms) (hcl : cl b = ci) (hc : CL[ci]? = some q) (hqc : q.1 = y1.cls) (hsz : ls.size = nL) (hst : st = As.reverse ++ .ref (ad b) :: rest) (hroom : (rest.map fun v => v.category).sum ≤ 8) (hn : As.length = n) (hf : cells + mc ≤ R.cells ∧ slots + ms ≤ R.slots) (hdg : decode cc pc = .ok (.invokevirtual index, 3))
    (kx : ∀ (y2 : Ly) (σ1 : St) (d1 d2 : Nat) (H1 : Heap) (locs1 : List Loc) (q9 : Nat) (ce : Cell), PX y2 σ1 d1 d2 → va_P D CL (ws g ad y2 σ1) H1 → va_D A0 (ws g ad y2 σ1) → va_S A0 s.heap H1 locs1 → H1[q9]? = some ce → ce.vm = .none → s.vm.findClass ISE = some ce.cls → vx_W p l e R s m args below meth c H1 locs1 (cells + d1) (slots + d2) Q (F0 m pc ls rest) q9)
    (kk : ∀ (y2 : Ly) (σ1 : St) (d1 d2 : Nat) (H1 : Heap) (locs1 : List Loc), Post y2 σ1 d1 d2 → va_P D CL (ws g ad y2 σ1) H1 → va_D A0 (ws g ad y2 σ1) → va_S A0 s.heap H1 locs1 → W p l e R s m args below meth c H1 locs1 (cells + d1) (slots + d2) Q (F0 m (pc + 3) ls (rest))) : W p l e R s m args below meth c H locs cells slots Q (F0 m pc ls st) := by
  have h99 : cl b ≠ 99 := fun z => by rw [hcl] at z; subst z; simp at hc
  obtain ⟨q0, -, he⟩ := ws_at (g := g) (ad := ad) (y := y) (σ := σ) (mem_obj h99)
  rw [clv_o hcl] at he
  have hF := va_free hD hS G.2.2.2.2.2.2.2.2.2.2.2 (List.range cL.length) (ws_all (g := g) (ad := ad) (y := y) (σ := σ))
  obtain ⟨hx, hb, hml, hr, hlk, ht, hown, hin, hK, hN, hX, hA⟩ := G
  refine W.grown (fun e1 e2 => ?_)
  refine vx_callv (vx_runV (C := y1.cls) ⟨hx, hb, hml, hown, ht⟩ hM ⟨w.1.B ht hl hrc hrs hR, ht _ w.2.1, ht _ w.2.2⟩ ⟨PCu.blind, (by rw [← hqc]; exact va_recv hK hP hc he), PCu.give hK hN hX hsl hP hD hS hA (List.range cL.length) ws_all cL_nd⟩ rfl hn hsz hst (lv_room hroom) hdg hf) hS (fun q _ h => hF q h) hF (fun q _ h => hF q h) (fun E' ce q9 u t H1 locs1 ht1 hal hp hB hz hk hS1 hce hcv hcl9 => ?_) (fun u t H1 locs1 ht1 hvm hw hB hz hk hS1 => ?_)
  · obtain ⟨hE, ⟨hP1, hD1⟩, hg1, hg2⟩ := hB
    subst hE
    rw [ht1] at hP1 hg1 hg2
    have hg1 : H1.size ≤ H.size + u.2.2.1 := hg1
    have hg2 : us H1 ≤ us H + u.2.2.2 := hg2
    obtain ⟨hP2, hD2⟩ := va_join (wr := []) hP hD (List.range cL.length) [] (ws_all (g := g) (ad := ad) (y := y) (σ := σ)) rfl rfl (fun i hi => absurd hi List.not_mem_nil) hk hF hP1 hD1
    refine vx_tight (k := cells + u.2.2.1) (n := slots + u.2.2.2) (by omega) (by omega) ?_
    exact kx u.1 u.2.1 u.2.2.1 u.2.2.2 H1 locs1 q9 ce hp hP2 hD2 hS1 hce hcv hcl9
  · obtain ⟨⟨hP1, hD1⟩, hg1, hg2⟩ := hB
    rw [ht1] at hP1 hg1 hg2
    have hg1 : H1.size ≤ H.size + u.2.2.1 := hg1
    have hg2 : us H1 ≤ us H + u.2.2.2 := hg2
    obtain ⟨hP2, hD2⟩ := va_join (wr := []) hP hD (List.range cL.length) [] (ws_all (g := g) (ad := ad) (y := y) (σ := σ)) rfl rfl (fun i hi => absurd hi List.not_mem_nil) hk hF hP1 hD1
    refine W.tight (k := cells + u.2.2.1) (n := slots + u.2.2.2) (by omega) (by omega) ?_
    exact kk u.1 u.2.1 u.2.2.1 u.2.2.2 H1 locs1 hw hP2 hD2 hS1
theorem uxVi {n : Nat} {Post : Ly → St → Int32 → Nat → Nat → Prop} {PX : Ly → St → Nat → Nat → Prop} (G : GV l p s m args meth c y0 cc nL r0 g D sl A0) (hP : va_P D CL (ws g ad y σ) H) (hD : va_D A0 (ws g ad y σ)) (hS : va_S A0 s.heap H locs)
    (hM : vx_Met l y1 (mw y1 bytes maxL ret) rm (PCu g D sl' (.ref (ad b) :: As) H.size (us H) (ws g ad y σ)) (va_Qi (fun (r : Int32) (u : Ly × St × Nat × Nat) => Post u.1 u.2.1 r u.2.2.1 u.2.2.2) (QU D (va_A (ws g ad y σ) H.size) (fun u => ws g ad u.1 u.2.1) H.size (us H) (fun u => u.2.2.1) (fun u => u.2.2.2)) (va_A (ws g ad y σ) H.size)) (XQ D g ad (va_A (ws g ad y σ) H.size) H.size (us H) PX) mc ms (va_A (ws g ad y σ) H.size)) (hsl : ∀ x ∈ sl', x ∈ sl)
    (w : CWv y1 bytes maxL ret n ∧ Cond.instanceMethod y1 ∈ lw_ok ∧ Cond.selects y1.cls y1 y1 ∈ lw_ok) (hl : Cond.methodLink y0.cls index y1 ∈ lw_ok) (hR : rm.frames + 1 ≤ R.frames ∧ 8 + (maxL + 11) + rm.locals ≤ R.locals) (hrc : rm.cells = mc) (hrs : rm.slots = ms) (hcl : cl b = ci) (hc : CL[ci]? = some q) (hqc : q.1 = y1.cls) (hsz : ls.size = nL) (hst : st = As.reverse ++ .ref (ad b) :: rest) (hroom : (rest.map fun v => v.category).sum ≤ 8) (hn : As.length = n) (hf : cells + mc ≤ R.cells ∧ slots + ms ≤ R.slots) (hdg : decode cc pc = .ok (.invokevirtual index, 3))
    (kx : ∀ (y2 : Ly) (σ1 : St) (d1 d2 : Nat) (H1 : Heap) (locs1 : List Loc) (q9 : Nat) (ce : Cell), PX y2 σ1 d1 d2 → va_P D CL (ws g ad y2 σ1) H1 → va_D A0 (ws g ad y2 σ1) → va_S A0 s.heap H1 locs1 → H1[q9]? = some ce → ce.vm = .none → s.vm.findClass ISE = some ce.cls → vx_W p l e R s m args below meth c H1 locs1 (cells + d1) (slots + d2) Q (F0 m pc ls rest) q9)
    (kk : ∀ (r : Int32) (y2 : Ly) (σ1 : St) (d1 d2 : Nat) (H1 : Heap) (locs1 : List Loc), Post y2 σ1 r d1 d2 → va_P D CL (ws g ad y2 σ1) H1 → va_D A0 (ws g ad y2 σ1) → va_S A0 s.heap H1 locs1 → W p l e R s m args below meth c H1 locs1 (cells + d1) (slots + d2) Q (F0 m (pc + 3) ls (.int r :: rest))) : W p l e R s m args below meth c H locs cells slots Q (F0 m pc ls st) := by
  have h99 : cl b ≠ 99 := fun z => by rw [hcl] at z; subst z; simp at hc
  obtain ⟨q0, -, he⟩ := ws_at (g := g) (ad := ad) (y := y) (σ := σ) (mem_obj h99)
  rw [clv_o hcl] at he
  have hF := va_free hD hS G.2.2.2.2.2.2.2.2.2.2.2 (List.range cL.length) (ws_all (g := g) (ad := ad) (y := y) (σ := σ))
  obtain ⟨hx, hb, hml, hr, hlk, ht, hown, hin, hK, hN, hX, hA⟩ := G
  refine W.grown (fun e1 e2 => ?_)
  refine vx_calli (vx_runV (C := y1.cls) ⟨hx, hb, hml, hown, ht⟩ hM ⟨w.1.B ht hl hrc hrs hR, ht _ w.2.1, ht _ w.2.2⟩ ⟨PCu.blind, (by rw [← hqc]; exact va_recv hK hP hc he), PCu.give hK hN hX hsl hP hD hS hA (List.range cL.length) ws_all cL_nd⟩ rfl hn hsz hst (lv_room hroom) hdg hf) hS (fun q _ h => hF q h) hF (fun q _ h => hF q h) (fun E' ce q9 u t H1 locs1 ht1 hal hp hB hz hk hS1 hce hcv hcl9 => ?_) (fun r u t H1 locs1 ht1 hvm hw hB hz hk hS1 => ?_)
  · obtain ⟨hE, ⟨hP1, hD1⟩, hg1, hg2⟩ := hB
    subst hE
    rw [ht1] at hP1 hg1 hg2
    have hg1 : H1.size ≤ H.size + u.2.2.1 := hg1
    have hg2 : us H1 ≤ us H + u.2.2.2 := hg2
    obtain ⟨hP2, hD2⟩ := va_join (wr := []) hP hD (List.range cL.length) [] (ws_all (g := g) (ad := ad) (y := y) (σ := σ)) rfl rfl (fun i hi => absurd hi List.not_mem_nil) hk hF hP1 hD1
    refine vx_tight (k := cells + u.2.2.1) (n := slots + u.2.2.2) (by omega) (by omega) ?_
    exact kx u.1 u.2.1 u.2.2.1 u.2.2.2 H1 locs1 q9 ce hp hP2 hD2 hS1 hce hcv hcl9
  · obtain ⟨⟨hP1, hD1⟩, hg1, hg2⟩ := hB
    rw [ht1] at hP1 hg1 hg2
    have hg1 : H1.size ≤ H.size + u.2.2.1 := hg1
    have hg2 : us H1 ≤ us H + u.2.2.2 := hg2
    obtain ⟨hP2, hD2⟩ := va_join (wr := []) hP hD (List.range cL.length) [] (ws_all (g := g) (ad := ad) (y := y) (σ := σ)) rfl rfl (fun i hi => absurd hi List.not_mem_nil) hk hF hP1 hD1
    refine W.tight (k := cells + u.2.2.1) (n := slots + u.2.2.2) (by omega) (by omega) ?_
    exact kk r u.1 u.2.1 u.2.2.1 u.2.2.2 H1 locs1 hw hP2 hD2 hS1
theorem uxVl {n : Nat} {Post : Ly → St → Int64 → Nat → Nat → Prop} {PX : Ly → St → Nat → Nat → Prop} (G : GV l p s m args meth c y0 cc nL r0 g D sl A0) (hP : va_P D CL (ws g ad y σ) H) (hD : va_D A0 (ws g ad y σ)) (hS : va_S A0 s.heap H locs)
    (hM : vx_Met l y1 (mw y1 bytes maxL ret) rm (PCu g D sl' (.ref (ad b) :: As) H.size (us H) (ws g ad y σ)) (va_Ql (fun (r : Int64) (u : Ly × St × Nat × Nat) => Post u.1 u.2.1 r u.2.2.1 u.2.2.2) (QU D (va_A (ws g ad y σ) H.size) (fun u => ws g ad u.1 u.2.1) H.size (us H) (fun u => u.2.2.1) (fun u => u.2.2.2)) (va_A (ws g ad y σ) H.size)) (XQ D g ad (va_A (ws g ad y σ) H.size) H.size (us H) PX) mc ms (va_A (ws g ad y σ) H.size)) (hsl : ∀ x ∈ sl', x ∈ sl)
    (w : CWv y1 bytes maxL ret n ∧ Cond.instanceMethod y1 ∈ lw_ok ∧ Cond.selects y1.cls y1 y1 ∈ lw_ok) (hl : Cond.methodLink y0.cls index y1 ∈ lw_ok) (hR : rm.frames + 1 ≤ R.frames ∧ 8 + (maxL + 11) + rm.locals ≤ R.locals) (hrc : rm.cells = mc) (hrs : rm.slots = ms) (hcl : cl b = ci) (hc : CL[ci]? = some q) (hqc : q.1 = y1.cls) (hsz : ls.size = nL) (hst : st = As.reverse ++ .ref (ad b) :: rest) (hroom : (rest.map fun v => v.category).sum ≤ 8) (hn : As.length = n) (hf : cells + mc ≤ R.cells ∧ slots + ms ≤ R.slots) (hdg : decode cc pc = .ok (.invokevirtual index, 3))
    (kx : ∀ (y2 : Ly) (σ1 : St) (d1 d2 : Nat) (H1 : Heap) (locs1 : List Loc) (q9 : Nat) (ce : Cell), PX y2 σ1 d1 d2 → va_P D CL (ws g ad y2 σ1) H1 → va_D A0 (ws g ad y2 σ1) → va_S A0 s.heap H1 locs1 → H1[q9]? = some ce → ce.vm = .none → s.vm.findClass ISE = some ce.cls → vx_W p l e R s m args below meth c H1 locs1 (cells + d1) (slots + d2) Q (F0 m pc ls rest) q9)
    (kk : ∀ (r : Int64) (y2 : Ly) (σ1 : St) (d1 d2 : Nat) (H1 : Heap) (locs1 : List Loc), Post y2 σ1 r d1 d2 → va_P D CL (ws g ad y2 σ1) H1 → va_D A0 (ws g ad y2 σ1) → va_S A0 s.heap H1 locs1 → W p l e R s m args below meth c H1 locs1 (cells + d1) (slots + d2) Q (F0 m (pc + 3) ls (.long r :: rest))) : W p l e R s m args below meth c H locs cells slots Q (F0 m pc ls st) := by
  have h99 : cl b ≠ 99 := fun z => by rw [hcl] at z; subst z; simp at hc
  obtain ⟨q0, -, he⟩ := ws_at (g := g) (ad := ad) (y := y) (σ := σ) (mem_obj h99)
  rw [clv_o hcl] at he
  have hF := va_free hD hS G.2.2.2.2.2.2.2.2.2.2.2 (List.range cL.length) (ws_all (g := g) (ad := ad) (y := y) (σ := σ))
  obtain ⟨hx, hb, hml, hr, hlk, ht, hown, hin, hK, hN, hX, hA⟩ := G
  refine W.grown (fun e1 e2 => ?_)
  refine vx_calll (vx_runV (C := y1.cls) ⟨hx, hb, hml, hown, ht⟩ hM ⟨w.1.B ht hl hrc hrs hR, ht _ w.2.1, ht _ w.2.2⟩ ⟨PCu.blind, (by rw [← hqc]; exact va_recv hK hP hc he), PCu.give hK hN hX hsl hP hD hS hA (List.range cL.length) ws_all cL_nd⟩ rfl hn hsz hst (lv_room hroom) hdg hf) hS (fun q _ h => hF q h) hF (fun q _ h => hF q h) (fun E' ce q9 u t H1 locs1 ht1 hal hp hB hz hk hS1 hce hcv hcl9 => ?_) (fun r u t H1 locs1 ht1 hvm hw hB hz hk hS1 => ?_)
  · obtain ⟨hE, ⟨hP1, hD1⟩, hg1, hg2⟩ := hB
    subst hE
    rw [ht1] at hP1 hg1 hg2
    have hg1 : H1.size ≤ H.size + u.2.2.1 := hg1
    have hg2 : us H1 ≤ us H + u.2.2.2 := hg2
    obtain ⟨hP2, hD2⟩ := va_join (wr := []) hP hD (List.range cL.length) [] (ws_all (g := g) (ad := ad) (y := y) (σ := σ)) rfl rfl (fun i hi => absurd hi List.not_mem_nil) hk hF hP1 hD1
    refine vx_tight (k := cells + u.2.2.1) (n := slots + u.2.2.2) (by omega) (by omega) ?_
    exact kx u.1 u.2.1 u.2.2.1 u.2.2.2 H1 locs1 q9 ce hp hP2 hD2 hS1 hce hcv hcl9
  · obtain ⟨⟨hP1, hD1⟩, hg1, hg2⟩ := hB
    rw [ht1] at hP1 hg1 hg2
    have hg1 : H1.size ≤ H.size + u.2.2.1 := hg1
    have hg2 : us H1 ≤ us H + u.2.2.2 := hg2
    obtain ⟨hP2, hD2⟩ := va_join (wr := []) hP hD (List.range cL.length) [] (ws_all (g := g) (ad := ad) (y := y) (σ := σ)) rfl rfl (fun i hi => absurd hi List.not_mem_nil) hk hF hP1 hD1
    refine W.tight (k := cells + u.2.2.1) (n := slots + u.2.2.2) (by omega) (by omega) ?_
    exact kk r u.1 u.2.1 u.2.2.1 u.2.2.2 H1 locs1 hw hP2 hD2 hS1
/-- a call of a method that has a table of its own, and returns -/
theorem kVWu {n : Nat} {ws wc : va_W} {fs : List Value} {hh : List (Nat × Nat × Nat × Nat)} {Qc : Array Value → State → Outcome → State → Prop} {b : Nat} (G : GV l p s m args meth c y0 cc nL r0 g D sl A0) (hP : va_P D CL ws H) (hD : va_D A0 ws) (hS : va_S A0 s.heap H locs) (isC : List Nat) (hC : isC.map (fun i => ws[i]?) = wc.map some) (hnd : va_nd isC = true)
    (hM : Met l y1 (mww y1 bytes maxL ret hh) rm (PCu g D sl' (.ref b :: As) H.size (us H) wc) Qc mc ms (va_A wc H.size)) (w : (Cond.codeWith y1 bytes maxL ret hh ∈ lw_ok ∧ Cond.initialized y1.cls ∈ lw_ok ∧ y1.cls ≠ "java/lang/invoke/MethodHandle" ∧ y1.cls ≠ "java/lang/invoke/VarHandle" ∧ (parseMethodDescriptor y1.desc).map (fun d => d.parameters.length) = some n) ∧ Cond.instanceMethod y1 ∈ lw_ok ∧ Cond.selects y1.cls y1 y1 ∈ lw_ok) (hl : Cond.methodLink y0.cls index y1 ∈ lw_ok) (hrc : rm.cells = mc) (hrs : rm.slots = ms) (hR : rm.frames + 1 ≤ R.frames ∧ 8 + (maxL + 11) + rm.locals ≤ R.locals) (hsl : ∀ x ∈ sl', x ∈ sl)
    (q0 : Nat) (hc : CL[ci]? = some q) (hqc : q.1 = y1.cls) (he : ws[q0]? = some (b, .inr (ci, fs))) (hsz : ls.size = nL) (hst : st = As.reverse ++ .ref b :: rest) (hroom : (rest.map fun v => v.category).sum ≤ 8) (hn : As.length = n) (hf : cells + mc ≤ R.cells ∧ slots + ms ≤ R.slots) (hdg : decode cc pc = .ok (.invokevirtual index, 3)) :
    va_Run p l e R s m args below meth c H locs cells slots mc ms (F0 m pc ls st) rest (Qc (Value.ref b :: As).toArray) (va_A wc H.size) := by
  obtain ⟨hx, hb, hml, hr, hlk, ht, hown, hin, hK, hN, hX, hA⟩ := G
  refine vx_runVW (C := y1.cls) ⟨hx, hb, hml, hown, ht⟩ hM ⟨⟨hrc, hrs, hR.1, hR.2, pay_in ht (mww_good w.1.1), List.mem_cons_self⟩, ht _ w.1.1, ht _ w.1.2.1, ⟨w.1.2.2.1, w.1.2.2.2.1⟩, (fun sig h => ?_), ht _ hl, ht _ w.2.1, ht _ w.2.2⟩ ⟨PCu.blind, ?_, PCu.give hK hN hX hsl hP hD hS hA isC hC hnd⟩ rfl hn hsz hst (lv_room hroom) hdg hf
  · have h2 := w.1.2.2.2.2
    rw [h] at h2
    exact (Option.some.inj h2).symm
  · rw [← hqc]; exact va_recv hK hP hc he
theorem uwVi {n : Nat} {hh : List (Nat × Nat × Nat × Nat)} {Post : Ly → St → Int32 → Nat → Nat → Prop} (G : GV l p s m args meth c y0 cc nL r0 g D sl A0) (hP : va_P D CL (ws g ad y σ) H) (hD : va_D A0 (ws g ad y σ)) (hS : va_S A0 s.heap H locs)
    (hM : Met l y1 (mww y1 bytes maxL ret hh) rm (PCu g D sl' (.ref (ad b) :: As) H.size (us H) (ws g ad y σ)) (va_Qi (fun (r : Int32) (u : Ly × St × Nat × Nat) => Post u.1 u.2.1 r u.2.2.1 u.2.2.2) (QU D (va_A (ws g ad y σ) H.size) (fun u => ws g ad u.1 u.2.1) H.size (us H) (fun u => u.2.2.1) (fun u => u.2.2.2)) (va_A (ws g ad y σ) H.size)) mc ms (va_A (ws g ad y σ) H.size)) (hsl : ∀ x ∈ sl', x ∈ sl)
    (w : (Cond.codeWith y1 bytes maxL ret hh ∈ lw_ok ∧ Cond.initialized y1.cls ∈ lw_ok ∧ y1.cls ≠ "java/lang/invoke/MethodHandle" ∧ y1.cls ≠ "java/lang/invoke/VarHandle" ∧ (parseMethodDescriptor y1.desc).map (fun d => d.parameters.length) = some n) ∧ Cond.instanceMethod y1 ∈ lw_ok ∧ Cond.selects y1.cls y1 y1 ∈ lw_ok) (hl : Cond.methodLink y0.cls index y1 ∈ lw_ok) (hR : rm.frames + 1 ≤ R.frames ∧ 8 + (maxL + 11) + rm.locals ≤ R.locals) (hrc : rm.cells = mc) (hrs : rm.slots = ms) (hcl : cl b = ci) (hc : CL[ci]? = some q) (hqc : q.1 = y1.cls) (hsz : ls.size = nL) (hst : st = As.reverse ++ .ref (ad b) :: rest) (hroom : (rest.map fun v => v.category).sum ≤ 8) (hn : As.length = n) (hf : cells + mc ≤ R.cells ∧ slots + ms ≤ R.slots) (hdg : decode cc pc = .ok (.invokevirtual index, 3))
    (kk : ∀ (r : Int32) (y2 : Ly) (σ1 : St) (d1 d2 : Nat) (H1 : Heap) (locs1 : List Loc), Post y2 σ1 r d1 d2 → va_P D CL (ws g ad y2 σ1) H1 → va_D A0 (ws g ad y2 σ1) → va_S A0 s.heap H1 locs1 → W p l e R s m args below meth c H1 locs1 (cells + d1) (slots + d2) Q (F0 m (pc + 3) ls (.int r :: rest))) : W p l e R s m args below meth c H locs cells slots Q (F0 m pc ls st) := by
  have h99 : cl b ≠ 99 := fun z => by rw [hcl] at z; subst z; simp at hc
  obtain ⟨q0, -, he⟩ := ws_at (g := g) (ad := ad) (y := y) (σ := σ) (mem_obj h99)
  rw [clv_o hcl] at he
  refine kEiu (wr := []) G (kVWu (As := As) (rest := rest) G hP hD hS (List.range cL.length) ws_all cL_nd hM w hl hrc hrs hR hsl q0 hc hqc he hsz hst hroom hn hf hdg) hP hD hS (List.range cL.length) [] ws_all rfl rfl rfl (fun r u H1 locs1 hw hP1 hD1 hS1 hz => ?_)
  exact kk r u.1 u.2.1 u.2.2.1 u.2.2.2 H1 locs1 hw hP1 hD1 hS1
end XR
