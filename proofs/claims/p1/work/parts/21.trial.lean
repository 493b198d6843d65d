abbrev mww (y : MethodName) (b : ByteArray) (n : Nat) (r : Option FieldType) (hh : List (Nat × Nat × Nat × Nat)) : List Cond := Cond.codeWith y b n r hh :: lw_ok
theorem mww_good {y : MethodName} {b : ByteArray} {n : Nat} {r : Option FieldType} {hh : List (Nat × Nat × Nat × Nat)} (h : Cond.codeWith y b n r hh ∈ lw_ok) : GoodIn lw_ok (mww y b n r hh) := by
  intro w hw
  rcases List.mem_cons.mp hw with rfl | hw
  · exact ⟨h, good_of_word (lw_okgood h)⟩
  · exact ⟨hw, good_of_word (lw_okgood hw)⟩
theorem ofIW {S : Type} {l : Launch} {y : MethodName} {b : ByteArray} {nL : Nat} {hh : List (Nat × Nat × Nat × Nat)} {rm : Room} {g : Nat → ClassId} {D : va_G} {sl : List SL} {av : List Value} {sz : Nat} {ws : va_W} {post : Int32 → S → Prop} {W' : S → va_W} {mc ms : Nat} (hy : plainName y.cls = true) (hn : (lg_sl av).length ≤ nL)
    (body : ∀ (p : Program) (e : Env) (s : State) (m : MethodId) (args : Array Value) (below : List Frame) (meth : Method) (c : Code) (A : Nat → Prop) (Q : State → Prop) (ls : Array Slot) (H : Heap) (locs : List Loc), GV l p s m args meth c y b nL (some .int) g D sl A → c.exceptionTable.toList = tableOf hh → s.heap.size = sz → va_P D CL ws H → va_D A ws → va_S A s.heap H locs → lv_has ls nL (lv_args 0 av) →
      (∀ (v : Int32) (u : S) (H : Heap) (locs : List Loc) (k n pc : Nat) (ls : Array Slot), post v u → va_P D CL (W' u) H → va_D A (W' u) → va_S A s.heap H locs → k ≤ mc → n ≤ ms → decode b pc = .ok (.ireturn, 1) → W p l e rm s m args below meth c H locs k n Q (F0 m pc ls [.int v])) →
      W p l e rm s m args below meth c H locs 0 0 Q (F0 m 0 ls [])) :
    Met l y (mww y b nL (some .int) hh) rm (PC g D sl av sz ws) (va_Qi post (QW D (va_A ws sz) W') (va_A ws sz)) mc ms (va_A ws sz) := by
  refine va_MetW (cc := b) (maxL := nL) (ret := some .int) (hh := hh) hy rfl ?_
  intro p e s m args below meth c s₁ B hml hv
  obtain ⟨hargs, hsz, hP, hK, hD, hN, hX⟩ := hv
  have hts := atoms_spec (ws := mww y b nL (some .int) hh) B.pre
  have hent : entryFrame m args nL = F0 m 0 ((lg_sl av ++ List.replicate (nL - (lg_sl av).length) Slot.unset).toArray) [] := by
    rw [hargs]; exact lg_entry_eq m av nL
  rw [hent]
  refine body p e s m args below meth c (va_A ws sz) _ _ s.heap [] ⟨B.exec, B.bytes, hml, B.returns, B.notSynchronized, (fun w hw => hts w (List.mem_cons_of_mem _ hw)), findClass_of_methodNamed B.named, (name_of_methodNamed B.named B.method).1, hK, hN, hX, fun q h => Or.inr (by rw [← hsz]; exact h)⟩ (vx_table (x := y) B (hts _ List.mem_cons_self)) hsz hP hD.self va_S.rf (lv_entry av hn) ?_
  intro v u H locs k n pc ls hpost hP1 hD1 hS1 hk hn1 hdg
  refine W.widen hk hn1 ?_
  exact W.iret B.exec B.bytes B.returns (fun t ht hW => ⟨⟨v, u, rfl, hpost, by rw [ht]; exact hP1, hD1⟩, hS1.F ht⟩) hS1.2.2 hdg B.notSynchronized
/-- a method that throws, always -/
theorem ofT {l : Launch} {y : MethodName} {b : ByteArray} {nL : Nat} {r : Option FieldType} {rm : Room} {g : Nat → ClassId} {D : va_G} {sl : List SL} {av : List Value} {sz : Nat} {ws W' : va_W} {E : String} {mc ms : Nat} (hy : plainName y.cls = true) (hn : (lg_sl av).length ≤ nL)
    (body : ∀ (p : Program) (e : Env) (s : State) (m : MethodId) (args : Array Value) (below : List Frame) (meth : Method) (c : Code) (A : Nat → Prop) (Q : State → Prop) (ls : Array Slot) (H : Heap) (locs : List Loc), GV l p s m args meth c y b nL r g D sl A → s.heap.size = sz → va_P D CL ws H → va_D A ws → va_S A s.heap H locs → lv_has ls nL (lv_args 0 av) →
      (∀ (H : Heap) (locs : List Loc) (k n pc j ci q : Nat) (z : vw_C) (fs : List Value) (ls : Array Slot) (rest : List Value), va_P D CL W' H → va_D A W' → va_S A s.heap H locs → k ≤ mc → n ≤ ms → W'[j]? = some (q, .inr (ci, fs)) → CL[ci]? = some z → z.1 = E → vx_W p l e rm s m args below meth c H locs k n Q (F0 m pc ls rest) q) →
      W p l e rm s m args below meth c H locs 0 0 Q (F0 m 0 ls [])) :
    vx_Met l y (mw y b nL r) rm (PC g D sl av sz ws) (va_Qv (fun _ : Unit => False) (fun _ _ => True) (va_A ws sz)) (vx_X (fun _ : Unit => True) (fun E' _ t => E' = E ∧ va_P D CL W' t.heap ∧ va_D (va_A ws sz) W') (va_A ws sz)) mc ms (va_A ws sz) := by
  refine vx_ofW (cc := b) (maxL := nL) (ret := r) hy rfl ?_
  intro p e s m args below meth c s₁ B hml htab hv
  obtain ⟨hargs, hsz, hP, hK, hD, hN, hX⟩ := hv
  have hts := atoms_spec (ws := mw y b nL r) B.pre
  have hent : entryFrame m args nL = F0 m 0 ((lg_sl av ++ List.replicate (nL - (lg_sl av).length) Slot.unset).toArray) [] := by
    rw [hargs]; exact lg_entry_eq m av nL
  rw [hent]
  refine body p e s m args below meth c (va_A ws sz) _ _ s.heap [] ⟨B.exec, B.bytes, hml, B.returns, B.notSynchronized, (fun w hw => hts w (List.mem_cons_of_mem _ hw)), findClass_of_methodNamed B.named, (name_of_methodNamed B.named B.method).1, hK, hN, hX, fun q h => Or.inr (by rw [← hsz]; exact h)⟩ hsz hP hD.self va_S.rf (lv_entry av hn) ?_
  intro H locs k n pc j ci q z fs ls rest hP1 hD1 hS1 hk hn1 hj hc hz
  obtain ⟨z9, hz9, cell, h1, h2, h3, -⟩ := hP1 j _ hj
  have hcl : s.vm.findClass E = some cell.cls := by
    rw [h2, ← hz]; exact (hK.1 ci _ hc).2.1
  refine vx_widen hk hn1 ?_
  exact vx_out (fun x hx => (htab x hx).elim) B.notSynchronized h1 h3 hcl (fun t ht hal => ⟨(), trivial, ⟨rfl, by rw [ht]; exact hP1, hD1⟩, hS1.F ht⟩) hS1.2.2 (Nat.le_refl _) (Nat.le_refl _)
section KT
variable {p : Program} {l : Launch} {e : Env} {R : Room} {s : State} {m : MethodId} {args : Array Value} {below : List Frame} {meth : Method} {c : Code} {H : Heap} {locs : List Loc} {cells slots : Nat} {Q : State → Prop}
variable {cc : ByteArray} {pc nL : Nat} {ls : Array Slot} {rest st : List Value} {A0 : Nat → Prop} {y y0 : MethodName} {bytes : ByteArray} {maxL index mc ms : Nat} {ret r0 : Option FieldType} {rm : Room} {g : Nat → ClassId} {D : va_G} {sl sl' : List SL} {b : Nat} {As : List Value} {ws wc wr W' : va_W} {own C E : String} {Qc : Array Value → State → Outcome → State → Prop}
theorem kT {n : Nat} (G : GV l p s m args meth c y0 cc nL r0 g D sl A0) (hP : va_P D CL ws H) (hD : va_D A0 ws) (hS : va_S A0 s.heap H locs) (isC isR : List Nat) (hC : isC.map (fun i => ws[i]?) = wc.map some) (hnd : va_nd isC = true) (hRr : isR.map (fun i => ws[i]?) = wr.map some) (hnR : va_nd isR = true) (hdis : isR.all (fun i => !isC.contains i) = true)
    (hM : vx_Met l y (mw y bytes maxL ret) rm (PC g D sl' (.ref b :: As) H.size wc) (va_Qv (fun _ : Unit => False) (fun _ _ => True) (va_A wc H.size)) (vx_X (fun _ : Unit => True) (fun E' _ t => E' = E ∧ va_P D CL W' t.heap ∧ va_D (va_A wc H.size) W') (va_A wc H.size)) mc ms (va_A wc H.size)) (w : CWv y bytes maxL ret n ∧ Cond.instanceMethod y ∈ lw_ok ∧ Cond.selects y.cls y y ∈ lw_ok) (hl : Cond.methodLink y0.cls index y ∈ lw_ok) (hrc : rm.cells = mc) (hrs : rm.slots = ms) (hR : rm.frames + 1 ≤ R.frames ∧ 8 + (maxL + 11) + rm.locals ≤ R.locals) (hsl : ∀ x ∈ sl', x ∈ sl)
    (q0 : Nat) {ci : Nat} {q : vw_C} {fs : List Value} (hc : CL[ci]? = some q) (hqc : q.1 = y.cls) (he : ws[q0]? = some (b, .inr (ci, fs))) (hsz : ls.size = nL) (hst : st = As.reverse ++ .ref b :: rest) (hroom : (rest.map fun v => v.category).sum ≤ 8) (hn : As.length = n) (hf : cells + mc ≤ R.cells ∧ slots + ms ≤ R.slots) (hdg : decode cc pc = .ok (.invokevirtual index, 3))
    (kx : ∀ (H1 : Heap) (locs1 : List Loc) (q9 : Nat) (ce : Cell), va_P D CL (wr ++ W') H1 → va_D A0 (wr ++ W') → va_S A0 s.heap H1 locs1 → H1[q9]? = some ce → ce.vm = .none → s.vm.findClass E = some ce.cls → vx_W p l e R s m args below meth c H1 locs1 (cells + mc) (slots + ms) Q (F0 m pc ls rest) q9) :
    W p l e R s m args below meth c H locs cells slots Q (F0 m pc ls st) := by
  have hF := va_free hD hS G.2.2.2.2.2.2.2.2.2.2.2 isC hC
  obtain ⟨hx, hb, hml, hr, hlk, ht, hown, hin, hK, hN, hX, hA⟩ := G
  refine vx_callv (vx_runV (C := y.cls) ⟨hx, hb, hml, hown, ht⟩ hM ⟨w.1.B ht hl hrc hrs hR, ht _ w.2.1, ht _ w.2.2⟩ ⟨PC.blind, (by rw [← hqc]; exact va_recv hK hP hc he), PC.give hK hN hX hsl hP hD hS hA isC hC hnd⟩ rfl hn hsz hst (lv_room hroom) hdg hf) hS (fun q _ h => hF q h) hF (fun q _ h => hF q h) (fun E' ce q9 u t H1 locs1 ht1 hal hp hB hz hk hS1 hce hcv hcl => ?_) (fun u t H1 locs1 _ _ hp _ _ _ _ => hp.elim)
  obtain ⟨hE, hP1, hD1⟩ := hB
  subst hE
  rw [ht1] at hP1
  have hdis' : ∀ i ∈ isR, i ∉ isC := fun i hi hc => by
    have h1 := List.all_eq_true.mp hdis i hi
    rw [List.contains_iff_mem.mpr hc] at h1
    exact absurd h1 (by decide)
  obtain ⟨hP2, hD2⟩ := va_join hP hD isC isR hC hRr hnR hdis' hk hF hP1 hD1
  exact kx H1 locs1 q9 ce hP2 hD2 hS1 hce hcv hcl
/-- a call of a method that has a table of its own, and returns -/
theorem kVW {n : Nat} {hh : List (Nat × Nat × Nat × Nat)} (G : GV l p s m args meth c y0 cc nL r0 g D sl A0) (hP : va_P D CL ws H) (hD : va_D A0 ws) (hS : va_S A0 s.heap H locs) (isC : List Nat) (hC : isC.map (fun i => ws[i]?) = wc.map some) (hnd : va_nd isC = true)
    (hM : Met l y (mww y bytes maxL ret hh) rm (PC g D sl' (.ref b :: As) H.size wc) Qc mc ms (va_A wc H.size)) (w : (Cond.codeWith y bytes maxL ret hh ∈ lw_ok ∧ Cond.initialized y.cls ∈ lw_ok ∧ y.cls ≠ "java/lang/invoke/MethodHandle" ∧ y.cls ≠ "java/lang/invoke/VarHandle" ∧ (parseMethodDescriptor y.desc).map (fun d => d.parameters.length) = some n) ∧ Cond.instanceMethod y ∈ lw_ok ∧ Cond.selects y.cls y y ∈ lw_ok) (hl : Cond.methodLink y0.cls index y ∈ lw_ok) (hrc : rm.cells = mc) (hrs : rm.slots = ms) (hR : rm.frames + 1 ≤ R.frames ∧ 8 + (maxL + 11) + rm.locals ≤ R.locals) (hsl : ∀ x ∈ sl', x ∈ sl)
    (q0 : Nat) {ci : Nat} {q : vw_C} {fs : List Value} (hc : CL[ci]? = some q) (hqc : q.1 = y.cls) (he : ws[q0]? = some (b, .inr (ci, fs))) (hsz : ls.size = nL) (hst : st = As.reverse ++ .ref b :: rest) (hroom : (rest.map fun v => v.category).sum ≤ 8) (hn : As.length = n) (hf : cells + mc ≤ R.cells ∧ slots + ms ≤ R.slots) (hdg : decode cc pc = .ok (.invokevirtual index, 3)) :
    va_Run p l e R s m args below meth c H locs cells slots mc ms (F0 m pc ls st) rest (Qc (Value.ref b :: As).toArray) (va_A wc H.size) := by
  obtain ⟨hx, hb, hml, hr, hlk, ht, hown, hin, hK, hN, hX, hA⟩ := G
  refine vx_runVW (C := y.cls) ⟨hx, hb, hml, hown, ht⟩ hM ⟨⟨hrc, hrs, hR.1, hR.2, pay_in ht (mww_good w.1.1), List.mem_cons_self⟩, ht _ w.1.1, ht _ w.1.2.1, ⟨w.1.2.2.1, w.1.2.2.2.1⟩, (fun sig h => ?_), ht _ hl, ht _ w.2.1, ht _ w.2.2⟩ ⟨PC.blind, ?_, PC.give hK hN hX hsl hP hD hS hA isC hC hnd⟩ rfl hn hsz hst (lv_room hroom) hdg hf
  · have h2 := w.1.2.2.2.2
    rw [h] at h2
    exact (Option.some.inj h2).symm
  · rw [← hqc]; exact va_recv hK hP hc he
end KT

def y_Mo_addWord : MethodName := ⟨"ClassWorksModel", "addWord", "(III)V"⟩
abbrev b_Mo_addWord : ByteArray := prog_14_method_11_code
theorem q3106 : Cond.fieldLink "ClassWorksModel" 95 "ClassWorksModel" "words" "I" ∈ lw_ok := lw_okmem (List.mem_of_getElem? (i := 3106) (by decide +kernel)) rfl
theorem d_Mo_addWord_0 : decode b_Mo_addWord 0 = .ok (.aload_n 0, 1) := by decide +kernel
theorem d_Mo_addWord_1 : decode b_Mo_addWord 1 = .ok (.getfield 92, 3) := by decide +kernel
theorem d_Mo_addWord_4 : decode b_Mo_addWord 4 = .ok (.aload_n 0, 1) := by decide +kernel
theorem d_Mo_addWord_5 : decode b_Mo_addWord 5 = .ok (.getfield 95, 3) := by decide +kernel
theorem d_Mo_addWord_8 : decode b_Mo_addWord 8 = .ok (.iload_n 1, 1) := by decide +kernel
theorem d_Mo_addWord_9 : decode b_Mo_addWord 9 = .ok (.i2b, 1) := by decide +kernel
theorem d_Mo_addWord_10 : decode b_Mo_addWord 10 = .ok (.bastore, 1) := by decide +kernel
theorem d_Mo_addWord_11 : decode b_Mo_addWord 11 = .ok (.aload_n 0, 1) := by decide +kernel
theorem d_Mo_addWord_12 : decode b_Mo_addWord 12 = .ok (.getfield 98, 3) := by decide +kernel
theorem d_Mo_addWord_15 : decode b_Mo_addWord 15 = .ok (.aload_n 0, 1) := by decide +kernel
theorem d_Mo_addWord_16 : decode b_Mo_addWord 16 = .ok (.getfield 95, 3) := by decide +kernel
theorem d_Mo_addWord_19 : decode b_Mo_addWord 19 = .ok (.iload_n 2, 1) := by decide +kernel
theorem d_Mo_addWord_20 : decode b_Mo_addWord 20 = .ok (.iastore, 1) := by decide +kernel
theorem d_Mo_addWord_21 : decode b_Mo_addWord 21 = .ok (.aload_n 0, 1) := by decide +kernel
theorem d_Mo_addWord_22 : decode b_Mo_addWord 22 = .ok (.getfield 101, 3) := by decide +kernel
theorem d_Mo_addWord_25 : decode b_Mo_addWord 25 = .ok (.aload_n 0, 1) := by decide +kernel
theorem d_Mo_addWord_26 : decode b_Mo_addWord 26 = .ok (.getfield 95, 3) := by decide +kernel
theorem d_Mo_addWord_29 : decode b_Mo_addWord 29 = .ok (.iload_n 3, 1) := by decide +kernel
theorem d_Mo_addWord_30 : decode b_Mo_addWord 30 = .ok (.iastore, 1) := by decide +kernel
theorem d_Mo_addWord_31 : decode b_Mo_addWord 31 = .ok (.aload_n 0, 1) := by decide +kernel
theorem d_Mo_addWord_32 : decode b_Mo_addWord 32 = .ok (.dup, 1) := by decide +kernel
theorem d_Mo_addWord_33 : decode b_Mo_addWord 33 = .ok (.getfield 95, 3) := by decide +kernel
theorem d_Mo_addWord_36 : decode b_Mo_addWord 36 = .ok (.iconst 1, 1) := by decide +kernel
theorem d_Mo_addWord_37 : decode b_Mo_addWord 37 = .ok (.iadd, 1) := by decide +kernel
theorem d_Mo_addWord_38 : decode b_Mo_addWord 38 = .ok (.putfield 95, 3) := by decide +kernel
theorem d_Mo_addWord_41 : decode b_Mo_addWord 41 = .ok (.return_, 1) := by decide +kernel
abbrev rm_Mo_addWord : Room := { frames := 0, cells := 0, slots := 0, locals := 0 }
set_option maxHeartbeats 4000000 in
set_option maxRecDepth 100000 in
/-- addWord: the first -/
theorem c_Mo_addWord (l : Launch) (D : va_G) (g : Nat → ClassId) (h0 : Nat) (kd : Int32) (va : Int32) (pl : Int32) (fs : List Value) (r_owordKinds : Nat) (r_owordValues : Nat) (r_owordPlaces : Nat) (fk : Nat → Int32) (fv : Nat → Int32) (fp : Nat → Int32) (sz : Nat) (glen : fs.length = 131) (gk0 : fs[42]? = some (.int (nI 0))) (gk1 : fs[39]? = some (.ref r_owordKinds)) (gk2 : fs[40]? = some (.ref r_owordValues)) (gk3 : fs[41]? = some (.ref r_owordPlaces))  : Met l y_Mo_addWord (mw y_Mo_addWord b_Mo_addWord 4 (none)) (rm_Mo_addWord) (PC g D [] [.ref h0, .int kd, .int va, .int pl] sz [(h0, .inr (14, fs)), (r_owordKinds, .inl (g 1, 6002, .inl fk)), (r_owordValues, .inl (g 0, 6002, .inl fv)), (r_owordPlaces, .inl (g 0, 6002, .inl fp))]) (va_Qv (fun u : (Nat → Int32) × (Nat → Int32) × (Nat → Int32) => True) (QW D (va_A [(h0, .inr (14, fs)), (r_owordKinds, .inl (g 1, 6002, .inl fk)), (r_owordValues, .inl (g 0, 6002, .inl fv)), (r_owordPlaces, .inl (g 0, 6002, .inl fp))] sz) (fun u : (Nat → Int32) × (Nat → Int32) × (Nat → Int32) => [(h0, .inr (14, (fs.set 42 (.int (nI 1))))), (r_owordKinds, .inl (g 1, 6002, .inl u.1)), (r_owordValues, .inl (g 0, 6002, .inl u.2.1)), (r_owordPlaces, .inl (g 0, 6002, .inl u.2.2))])) (va_A [(h0, .inr (14, fs)), (r_owordKinds, .inl (g 1, 6002, .inl fk)), (r_owordValues, .inl (g 0, 6002, .inl fv)), (r_owordPlaces, .inl (g 0, 6002, .inl fp))] sz)) 0 0 (va_A [(h0, .inr (14, fs)), (r_owordKinds, .inl (g 1, 6002, .inl fk)), (r_owordValues, .inl (g 0, 6002, .inl fv)), (r_owordPlaces, .inl (g 0, 6002, .inl fp))] sz) := by
  refine ofV (by decide +kernel) (Nat.le_of_ble_eq_true rfl) ?_
  intro p e s m args below meth c A Q ls H locs G hsz hP hD hS hl hret
  subst hsz
  have hl : lv_has ls 4 [(0, .ref h0), (1, .int kd), (2, .int va), (3, .int pl)] := hl
  refine lv_aload_n G.1 G.2.1 d_Mo_addWord_0 rfl (lv_at hl 0 rfl) ?_
  refine kg (ci := 14) (v := .ref r_owordKinds) G iMo hP 0 rfl rfl 39 (by decide) q3103 rfl gk1 d_Mo_addWord_1 ?_
  refine lv_aload_n G.1 G.2.1 d_Mo_addWord_4 rfl (lv_at hl 0 rfl) ?_
  refine kg (ci := 14) (v := .int (nI 0)) G iMo hP 0 rfl rfl 42 (by decide) q3106 rfl gk0 d_Mo_addWord_5 ?_
  refine lv_iload_n G.1 G.2.1 d_Mo_addWord_8 rfl (lv_at hl 1 rfl) ?_
  refine lv_i2b G.1 G.2.1 d_Mo_addWord_9 rfl ?_
  refine kbast G hP hD hS 1 1 rfl rfl (by omega) (by omega) d_Mo_addWord_10 (fun H locs hP hD hS => ?_)
  have hP : va_P D CL [(h0, .inr (14, fs)), (r_owordKinds, .inl (g 1, 6002, .inl (upd fk 0 (vp_nar .byte kd.toInt8.toInt32)))), (r_owordValues, .inl (g 0, 6002, .inl fv)), (r_owordPlaces, .inl (g 0, 6002, .inl fp))] H := hP
  have hD : va_D A [(h0, .inr (14, fs)), (r_owordKinds, .inl (g 1, 6002, .inl (upd fk 0 (vp_nar .byte kd.toInt8.toInt32)))), (r_owordValues, .inl (g 0, 6002, .inl fv)), (r_owordPlaces, .inl (g 0, 6002, .inl fp))] := hD
  refine lv_aload_n G.1 G.2.1 d_Mo_addWord_11 rfl (lv_at hl 0 rfl) ?_
  refine kg (ci := 14) (v := .ref r_owordValues) G iMo hP 0 rfl rfl 40 (by decide) q3104 rfl gk2 d_Mo_addWord_12 ?_
  refine lv_aload_n G.1 G.2.1 d_Mo_addWord_15 rfl (lv_at hl 0 rfl) ?_
  refine kg (ci := 14) (v := .int (nI 0)) G iMo hP 0 rfl rfl 42 (by decide) q3106 rfl gk0 d_Mo_addWord_16 ?_
  refine W.eq (g2 := F0 m 19 ls [.int (nI 0), .ref r_owordValues]) rfl ?_
  refine lv_iload_n G.1 G.2.1 d_Mo_addWord_19 rfl (lv_at hl 2 rfl) ?_
  refine kiast G hP hD hS 2 0 rfl rfl (by omega) (by omega) d_Mo_addWord_20 (fun H locs hP hD hS => ?_)
  have hP : va_P D CL [(h0, .inr (14, fs)), (r_owordKinds, .inl (g 1, 6002, .inl (upd fk 0 (vp_nar .byte kd.toInt8.toInt32)))), (r_owordValues, .inl (g 0, 6002, .inl (upd fv 0 va))), (r_owordPlaces, .inl (g 0, 6002, .inl fp))] H := hP
  have hD : va_D A [(h0, .inr (14, fs)), (r_owordKinds, .inl (g 1, 6002, .inl (upd fk 0 (vp_nar .byte kd.toInt8.toInt32)))), (r_owordValues, .inl (g 0, 6002, .inl (upd fv 0 va))), (r_owordPlaces, .inl (g 0, 6002, .inl fp))] := hD
  refine lv_aload_n G.1 G.2.1 d_Mo_addWord_21 rfl (lv_at hl 0 rfl) ?_
  refine kg (ci := 14) (v := .ref r_owordPlaces) G iMo hP 0 rfl rfl 41 (by decide) q3105 rfl gk3 d_Mo_addWord_22 ?_
  refine lv_aload_n G.1 G.2.1 d_Mo_addWord_25 rfl (lv_at hl 0 rfl) ?_
  refine kg (ci := 14) (v := .int (nI 0)) G iMo hP 0 rfl rfl 42 (by decide) q3106 rfl gk0 d_Mo_addWord_26 ?_
  refine lv_iload_n G.1 G.2.1 d_Mo_addWord_29 rfl (lv_at hl 3 rfl) ?_
  refine kiast G hP hD hS 3 0 rfl rfl (by omega) (by omega) d_Mo_addWord_30 (fun H locs hP hD hS => ?_)
  have hP : va_P D CL [(h0, .inr (14, fs)), (r_owordKinds, .inl (g 1, 6002, .inl (upd fk 0 (vp_nar .byte kd.toInt8.toInt32)))), (r_owordValues, .inl (g 0, 6002, .inl (upd fv 0 va))), (r_owordPlaces, .inl (g 0, 6002, .inl (upd fp 0 pl)))] H := hP
  have hD : va_D A [(h0, .inr (14, fs)), (r_owordKinds, .inl (g 1, 6002, .inl (upd fk 0 (vp_nar .byte kd.toInt8.toInt32)))), (r_owordValues, .inl (g 0, 6002, .inl (upd fv 0 va))), (r_owordPlaces, .inl (g 0, 6002, .inl (upd fp 0 pl)))] := hD
  refine lv_aload_n G.1 G.2.1 d_Mo_addWord_31 rfl (lv_at hl 0 rfl) ?_
  refine lv_dup G.1 G.2.1 d_Mo_addWord_32 rfl ?_
  refine kg (ci := 14) (v := .int (nI 0)) G iMo hP 0 rfl rfl 42 (by decide) q3106 rfl gk0 d_Mo_addWord_33 ?_
  refine lv_iconst (v := nI 1) G.1 G.2.1 d_Mo_addWord_36 (by decide) ?_
  refine W.eq (g2 := F0 m 37 ls [.int (nI 1), .int (nI 0), .ref h0]) rfl ?_
  refine lv_iadd G.1 G.2.1 d_Mo_addWord_37 ?_
  refine tpi (w := nI 1) (by decide) ?_
  refine kp (ci := 14) G iMo tMo tMo_ok nMo hP hD hS 0 rfl rfl 42 (by decide) q3106 rfl rfl rfl rfl (by rw [glen]; decide) d_Mo_addWord_38 (fun H locs hP hD hS => ?_)
  have hP : va_P D CL [(h0, .inr (14, (fs.set 42 (.int (nI 1))))), (r_owordKinds, .inl (g 1, 6002, .inl (upd fk 0 (vp_nar .byte kd.toInt8.toInt32)))), (r_owordValues, .inl (g 0, 6002, .inl (upd fv 0 va))), (r_owordPlaces, .inl (g 0, 6002, .inl (upd fp 0 pl)))] H := hP
  have hD : va_D A [(h0, .inr (14, (fs.set 42 (.int (nI 1))))), (r_owordKinds, .inl (g 1, 6002, .inl (upd fk 0 (vp_nar .byte kd.toInt8.toInt32)))), (r_owordValues, .inl (g 0, 6002, .inl (upd fv 0 va))), (r_owordPlaces, .inl (g 0, 6002, .inl (upd fp 0 pl)))] := hD
  refine hret (upd fk 0 (vp_nar .byte kd.toInt8.toInt32), upd fv 0 va, upd fp 0 pl) _ _ _ _ _ ls (show True from trivial) (hP.sub [0, 1, 2, 3] rfl) (hD.sub [0, 1, 2, 3] (by decide) rfl) hS (Nat.le_of_ble_eq_true rfl) (Nat.le_of_ble_eq_true rfl) d_Mo_addWord_41
def y_Mo_cutLine : MethodName := ⟨"ClassWorksModel", "cutLine", "([BII)Z"⟩
abbrev b_Mo_cutLine : ByteArray := prog_14_method_12_code
theorem q3107 : Cond.fieldLink "ClassWorksModel" 104 "ClassWorksModel" "t" "I" ∈ lw_ok := lw_okmem (List.mem_of_getElem? (i := 3107) (by decide +kernel)) rfl
theorem q3507 : Cond.code y_Mo_addWord b_Mo_addWord 4 (none) ∈ lw_ok := lw_okmem (List.mem_of_getElem? (i := 3507) (by decide +kernel)) rfl
theorem q3506 : Cond.instanceMethod y_Mo_addWord ∈ lw_ok := lw_okmem (List.mem_of_getElem? (i := 3506) (by decide +kernel)) rfl
theorem q180 : Cond.selects y_Mo_addWord.cls y_Mo_addWord y_Mo_addWord ∈ lw_ok := lw_okmem (List.mem_of_getElem? (i := 180) (by decide +kernel)) rfl
theorem w_Mo_addWord : CWv y_Mo_addWord b_Mo_addWord 4 (none) 3 ∧ Cond.instanceMethod y_Mo_addWord ∈ lw_ok ∧ Cond.selects y_Mo_addWord.cls y_Mo_addWord y_Mo_addWord ∈ lw_ok := ⟨⟨q3507, q348, by decide +kernel, by decide +kernel, by decide +kernel⟩, q3506, q180⟩
theorem q3504 : Cond.methodLink "ClassWorksModel" 114 y_Mo_addWord ∈ lw_ok := lw_okmem (List.mem_of_getElem? (i := 3504) (by decide +kernel)) rfl
theorem d_Mo_cutLine_0 : decode b_Mo_cutLine 0 = .ok (.aload_n 0, 1) := by decide +kernel
theorem d_Mo_cutLine_1 : decode b_Mo_cutLine 1 = .ok (.iconst 0, 1) := by decide +kernel
theorem d_Mo_cutLine_2 : decode b_Mo_cutLine 2 = .ok (.putfield 95, 3) := by decide +kernel
theorem d_Mo_cutLine_5 : decode b_Mo_cutLine 5 = .ok (.aload_n 0, 1) := by decide +kernel
theorem d_Mo_cutLine_6 : decode b_Mo_cutLine 6 = .ok (.iconst 0, 1) := by decide +kernel
theorem d_Mo_cutLine_7 : decode b_Mo_cutLine 7 = .ok (.putfield 104, 3) := by decide +kernel
theorem d_Mo_cutLine_10 : decode b_Mo_cutLine 10 = .ok (.iload_n 2, 1) := by decide +kernel
theorem d_Mo_cutLine_11 : decode b_Mo_cutLine 11 = .ok (.istore 4, 2) := by decide +kernel
theorem d_Mo_cutLine_13 : decode b_Mo_cutLine 13 = .ok (.iconst 1, 1) := by decide +kernel
theorem d_Mo_cutLine_14 : decode b_Mo_cutLine 14 = .ok (.istore 5, 2) := by decide +kernel
theorem d_Mo_cutLine_16 : decode b_Mo_cutLine 16 = .ok (.iload 5, 2) := by decide +kernel
theorem d_Mo_cutLine_18 : decode b_Mo_cutLine 18 = .ok (.ifCond .eq 365, 3) := by decide +kernel
theorem d_Mo_cutLine_21 : decode b_Mo_cutLine 21 = .ok (.iload 4, 2) := by decide +kernel
theorem d_Mo_cutLine_23 : decode b_Mo_cutLine 23 = .ok (.iload_n 3, 1) := by decide +kernel
theorem d_Mo_cutLine_24 : decode b_Mo_cutLine 24 = .ok (.if_icmp .ge 359, 3) := by decide +kernel
theorem d_Mo_cutLine_383 : decode b_Mo_cutLine 383 = .ok (.aload_n 0, 1) := by decide +kernel
theorem d_Mo_cutLine_384 : decode b_Mo_cutLine 384 = .ok (.getfield 95, 3) := by decide +kernel
theorem d_Mo_cutLine_387 : decode b_Mo_cutLine 387 = .ok (.ifCond .le 7, 3) := by decide +kernel
theorem d_Mo_cutLine_394 : decode b_Mo_cutLine 394 = .ok (.iconst 0, 1) := by decide +kernel
theorem d_Mo_cutLine_395 : decode b_Mo_cutLine 395 = .ok (.istore 6, 2) := by decide +kernel
theorem d_Mo_cutLine_397 : decode b_Mo_cutLine 397 = .ok (.aload_n 0, 1) := by decide +kernel
theorem d_Mo_cutLine_398 : decode b_Mo_cutLine 398 = .ok (.iconst 0, 1) := by decide +kernel
theorem d_Mo_cutLine_399 : decode b_Mo_cutLine 399 = .ok (.iconst 0, 1) := by decide +kernel
theorem d_Mo_cutLine_400 : decode b_Mo_cutLine 400 = .ok (.iload_n 3, 1) := by decide +kernel
theorem d_Mo_cutLine_401 : decode b_Mo_cutLine 401 = .ok (.invokevirtual 114, 3) := by decide +kernel
theorem d_Mo_cutLine_404 : decode b_Mo_cutLine 404 = .ok (.iload 6, 2) := by decide +kernel
theorem d_Mo_cutLine_406 : decode b_Mo_cutLine 406 = .ok (.ireturn, 1) := by decide +kernel
abbrev rm_Mo_cutLine : Room := { frames := 1, cells := 0, slots := 0, locals := 23 }
set_option maxHeartbeats 4000000 in
set_option maxRecDepth 100000 in
/-- cutLine of nothing -/
theorem c_Mo_cutLine (l : Launch) (D : va_G) (g : Nat → ClassId) (h0 : Nat) (tp : Nat) (fs : List Value) (r_owordKinds : Nat) (r_owordValues : Nat) (r_owordPlaces : Nat) (fk : Nat → Int32) (fv : Nat → Int32) (fp : Nat → Int32) (sz : Nat) (glen : fs.length = 131) (gk0 : fs[42]? = some (.int (nI 0))) (gk1 : fs[39]? = some (.ref r_owordKinds)) (gk2 : fs[40]? = some (.ref r_owordValues)) (gk3 : fs[41]? = some (.ref r_owordPlaces)) (gk4 : fs[43]? = some (.int (nI 0)))  : Met l y_Mo_cutLine (mw y_Mo_cutLine b_Mo_cutLine 8 (some (.boolean))) (rm_Mo_cutLine) (PC g D [] [.ref h0, .ref tp, .int (nI 0), .int (nI 0)] sz [(h0, .inr (14, fs)), (r_owordKinds, .inl (g 1, 6002, .inl fk)), (r_owordValues, .inl (g 0, 6002, .inl fv)), (r_owordPlaces, .inl (g 0, 6002, .inl fp))]) (va_Qi (fun (r : Int32) (u : (Nat → Int32) × (Nat → Int32) × (Nat → Int32)) => r = nI 0) (QW D (va_A [(h0, .inr (14, fs)), (r_owordKinds, .inl (g 1, 6002, .inl fk)), (r_owordValues, .inl (g 0, 6002, .inl fv)), (r_owordPlaces, .inl (g 0, 6002, .inl fp))] sz) (fun u : (Nat → Int32) × (Nat → Int32) × (Nat → Int32) => [(h0, .inr (14, (fs.set 42 (.int (nI 1))))), (r_owordKinds, .inl (g 1, 6002, .inl u.1)), (r_owordValues, .inl (g 0, 6002, .inl u.2.1)), (r_owordPlaces, .inl (g 0, 6002, .inl u.2.2))])) (va_A [(h0, .inr (14, fs)), (r_owordKinds, .inl (g 1, 6002, .inl fk)), (r_owordValues, .inl (g 0, 6002, .inl fv)), (r_owordPlaces, .inl (g 0, 6002, .inl fp))] sz)) 0 0 (va_A [(h0, .inr (14, fs)), (r_owordKinds, .inl (g 1, 6002, .inl fk)), (r_owordValues, .inl (g 0, 6002, .inl fv)), (r_owordPlaces, .inl (g 0, 6002, .inl fp))] sz) := by
  refine ofZ (by decide +kernel) (Nat.le_of_ble_eq_true rfl) ?_
  intro p e s m args below meth c A Q ls H locs G hsz hP hD hS hl hret
  subst hsz
  have hl : lv_has ls 8 [(0, .ref h0), (1, .ref tp), (2, .int (nI 0)), (3, .int (nI 0))] := hl
  refine lv_aload_n G.1 G.2.1 d_Mo_cutLine_0 rfl (lv_at hl 0 rfl) ?_
  refine lv_iconst (v := nI 0) G.1 G.2.1 d_Mo_cutLine_1 (by decide) ?_
  refine kp (ci := 14) G iMo tMo tMo_ok nMo hP hD hS 0 rfl rfl 42 (by decide) q3106 rfl rfl rfl rfl (by rw [glen]; decide) d_Mo_cutLine_2 (fun H locs hP hD hS => ?_)
  rw [lset_same gk0] at hP hD
  have hP : va_P D CL [(h0, .inr (14, fs)), (r_owordKinds, .inl (g 1, 6002, .inl fk)), (r_owordValues, .inl (g 0, 6002, .inl fv)), (r_owordPlaces, .inl (g 0, 6002, .inl fp))] H := hP
  have hD : va_D A [(h0, .inr (14, fs)), (r_owordKinds, .inl (g 1, 6002, .inl fk)), (r_owordValues, .inl (g 0, 6002, .inl fv)), (r_owordPlaces, .inl (g 0, 6002, .inl fp))] := hD
  refine lv_aload_n G.1 G.2.1 d_Mo_cutLine_5 rfl (lv_at hl 0 rfl) ?_
  refine lv_iconst (v := nI 0) G.1 G.2.1 d_Mo_cutLine_6 (by decide) ?_
  refine kp (ci := 14) G iMo tMo tMo_ok nMo hP hD hS 0 rfl rfl 43 (by decide) q3107 rfl rfl rfl rfl (by rw [glen]; decide) d_Mo_cutLine_7 (fun H locs hP hD hS => ?_)
  rw [lset_same gk4] at hP hD
  have hP : va_P D CL [(h0, .inr (14, fs)), (r_owordKinds, .inl (g 1, 6002, .inl fk)), (r_owordValues, .inl (g 0, 6002, .inl fv)), (r_owordPlaces, .inl (g 0, 6002, .inl fp))] H := hP
  have hD : va_D A [(h0, .inr (14, fs)), (r_owordKinds, .inl (g 1, 6002, .inl fk)), (r_owordValues, .inl (g 0, 6002, .inl fv)), (r_owordPlaces, .inl (g 0, 6002, .inl fp))] := hD
  refine lv_iload_n G.1 G.2.1 d_Mo_cutLine_10 rfl (lv_at hl 2 rfl) ?_
  refine lv_istore (lv' := [(4, .int (nI 0)), (0, .ref h0), (1, .ref tp), (2, .int (nI 0)), (3, .int (nI 0))]) G.1 G.2.1 d_Mo_cutLine_11 hl (by decide) rfl (fun ls hl => ?_)
  refine lv_iconst (v := nI 1) G.1 G.2.1 d_Mo_cutLine_13 (by decide) ?_
  refine lv_istore (lv' := [(5, .int (nI 1)), (4, .int (nI 0)), (0, .ref h0), (1, .ref tp), (2, .int (nI 0)), (3, .int (nI 0))]) G.1 G.2.1 d_Mo_cutLine_14 hl (by decide) rfl (fun ls hl => ?_)
  refine lv_iload G.1 G.2.1 d_Mo_cutLine_16 (lv_at hl 0 rfl) ?_
  refine W.eq (g2 := F0 m 18 ls [.int (nI 1)]) rfl ?_
  refine lv_if_eq (tgt := 383) G.1 G.2.1 d_Mo_cutLine_18 (by decide) (fun c18 => absurd c18 (by decide)) (fun c18 => ?_)
  refine lv_iload G.1 G.2.1 d_Mo_cutLine_21 (lv_at hl 1 rfl) ?_
  refine lv_iload_n G.1 G.2.1 d_Mo_cutLine_23 rfl (lv_at hl 5 rfl) ?_
  refine lv_icmp_ge (tgt := 383) G.1 G.2.1 d_Mo_cutLine_24 (by decide) (fun c24 => ?_) (fun c24 => absurd c24 (by decide))
  refine lv_aload_n G.1 G.2.1 d_Mo_cutLine_383 rfl (lv_at hl 2 rfl) ?_
  refine kg (ci := 14) (v := .int (nI 0)) G iMo hP 0 rfl rfl 42 (by decide) q3106 rfl gk0 d_Mo_cutLine_384 ?_
  refine lv_if_le (tgt := 394) G.1 G.2.1 d_Mo_cutLine_387 (by decide) (fun c387 => ?_) (fun c387 => absurd c387 (by decide))
  refine lv_iconst (v := nI 0) G.1 G.2.1 d_Mo_cutLine_394 (by decide) ?_
  refine lv_istore (lv' := [(6, .int (nI 0)), (5, .int (nI 1)), (4, .int (nI 0)), (0, .ref h0), (1, .ref tp), (2, .int (nI 0)), (3, .int (nI 0))]) G.1 G.2.1 d_Mo_cutLine_395 hl (by decide) rfl (fun ls hl => ?_)
  refine lv_aload_n G.1 G.2.1 d_Mo_cutLine_397 rfl (lv_at hl 3 rfl) ?_
  refine lv_iconst (v := nI 0) G.1 G.2.1 d_Mo_cutLine_398 (by decide) ?_
  refine lv_iconst (v := nI 0) G.1 G.2.1 d_Mo_cutLine_399 (by decide) ?_
  refine W.eq (g2 := F0 m 400 ls [.int (nI 0), .int (nI 0), .ref h0]) rfl ?_
  refine lv_iload_n G.1 G.2.1 d_Mo_cutLine_400 rfl (lv_at hl 6 rfl) ?_
  refine kEv (wr := []) G (kV (As := [.int (nI 0), .int (nI 0), .int (nI 0)]) (rest := []) G hP hD hS [0, 1, 2, 3] rfl rfl (c_Mo_addWord l D g h0 (nI 0) (nI 0) (nI 0) fs r_owordKinds r_owordValues r_owordPlaces fk fv fp H.size glen gk0 gk1 gk2 gk3) w_Mo_addWord q3504 rfl rfl ⟨Nat.le_of_ble_eq_true rfl, Nat.le_of_ble_eq_true rfl⟩ (fun _ h => absurd h List.not_mem_nil) 0 (ci := 14) rfl rfl rfl hl.1 rfl (Nat.le_of_ble_eq_true rfl) rfl ⟨Nat.le_of_ble_eq_true rfl, (Nat.le_of_ble_eq_true rfl)⟩ d_Mo_cutLine_401) hP hD hS [0, 1, 2, 3] [] rfl rfl rfl rfl (fun u_2 H locs hw hP hD hS hzH => ?_)
  obtain ⟨x_3, x_4, x_5⟩ := u_2
  have hw : True := hw
  have hP : va_P D CL [(h0, .inr (14, (fs.set 42 (.int (nI 1))))), (r_owordKinds, .inl (g 1, 6002, .inl x_3)), (r_owordValues, .inl (g 0, 6002, .inl x_4)), (r_owordPlaces, .inl (g 0, 6002, .inl x_5))] H := hP
  have hD : va_D A [(h0, .inr (14, (fs.set 42 (.int (nI 1))))), (r_owordKinds, .inl (g 1, 6002, .inl x_3)), (r_owordValues, .inl (g 0, 6002, .inl x_4)), (r_owordPlaces, .inl (g 0, 6002, .inl x_5))] := hD
  refine lv_iload G.1 G.2.1 d_Mo_cutLine_404 (lv_at hl 0 rfl) ?_
  refine hret (nI 0) (x_3, x_4, x_5) _ _ _ _ _ ls (by decide) (show (nI 0) = nI 0 from rfl) (hP.sub [0, 1, 2, 3] rfl) (hD.sub [0, 1, 2, 3] (by decide) rfl) hS (Nat.le_of_ble_eq_true rfl) (Nat.le_of_ble_eq_true rfl) d_Mo_cutLine_406
def y_Mo_refuse : MethodName := ⟨"ClassWorksModel", "refuse", "(II)V"⟩
abbrev b_Mo_refuse : ByteArray := prog_14_method_20_code
theorem q3113 : Cond.fieldLink "ClassWorksModel" 526 "ClassWorksModel" "brokenRule" "I" ∈ lw_ok := lw_okmem (List.mem_of_getElem? (i := 3113) (by decide +kernel)) rfl
theorem q3114 : Cond.fieldLink "ClassWorksModel" 529 "ClassWorksModel" "brokenPlace" "I" ∈ lw_ok := lw_okmem (List.mem_of_getElem? (i := 3114) (by decide +kernel)) rfl
theorem d_Mo_refuse_0 : decode b_Mo_refuse 0 = .ok (.aload_n 0, 1) := by decide +kernel
theorem d_Mo_refuse_1 : decode b_Mo_refuse 1 = .ok (.iload_n 1, 1) := by decide +kernel
theorem d_Mo_refuse_2 : decode b_Mo_refuse 2 = .ok (.putfield 526, 3) := by decide +kernel
theorem d_Mo_refuse_5 : decode b_Mo_refuse 5 = .ok (.aload_n 0, 1) := by decide +kernel
theorem d_Mo_refuse_6 : decode b_Mo_refuse 6 = .ok (.iload_n 2, 1) := by decide +kernel
theorem d_Mo_refuse_7 : decode b_Mo_refuse 7 = .ok (.putfield 529, 3) := by decide +kernel
theorem d_Mo_refuse_10 : decode b_Mo_refuse 10 = .ok (.aload_n 0, 1) := by decide +kernel
theorem d_Mo_refuse_11 : decode b_Mo_refuse 11 = .ok (.getfield 274, 3) := by decide +kernel
theorem d_Mo_refuse_14 : decode b_Mo_refuse 14 = .ok (.athrow, 1) := by decide +kernel
abbrev rm_Mo_refuse : Room := { frames := 0, cells := 0, slots := 0, locals := 0 }
set_option maxHeartbeats 4000000 in
set_option maxRecDepth 100000 in
theorem c_Mo_refuse (l : Launch) (D : va_G) (g : Nat → ClassId) (h0 : Nat) (br : Int32) (bp : Int32) (fs : List Value) (r_ostop : Nat) (sz : Nat) (glen : fs.length = 131) (gk0 : fs[48]? = some (.ref r_ostop))  : vx_Met l y_Mo_refuse (mw y_Mo_refuse b_Mo_refuse 3 (none)) (rm_Mo_refuse) (PC g D [] [.ref h0, .int br, .int bp] sz [(h0, .inr (14, fs)), (r_ostop, .inr (15, []))]) (va_Qv (fun _ : Unit => False) (fun _ _ => True) (va_A [(h0, .inr (14, fs)), (r_ostop, .inr (15, []))] sz)) (vx_X (fun _ : Unit => True) (fun E' _ t => E' = "java/lang/IllegalStateException" ∧ va_P D CL [(h0, .inr (14, ((fs.set 49 (.int br)).set 50 (.int bp)))), (r_ostop, .inr (15, []))] t.heap ∧ va_D (va_A [(h0, .inr (14, fs)), (r_ostop, .inr (15, []))] sz) [(h0, .inr (14, ((fs.set 49 (.int br)).set 50 (.int bp)))), (r_ostop, .inr (15, []))]) (va_A [(h0, .inr (14, fs)), (r_ostop, .inr (15, []))] sz)) 0 0 (va_A [(h0, .inr (14, fs)), (r_ostop, .inr (15, []))] sz) := by
  refine ofT (by decide +kernel) (Nat.le_of_ble_eq_true rfl) ?_
  intro p e s m args below meth c A Q ls H locs G hsz hP hD hS hl hret
  subst hsz
  have hl : lv_has ls 3 [(0, .ref h0), (1, .int br), (2, .int bp)] := hl
  refine lv_aload_n G.1 G.2.1 d_Mo_refuse_0 rfl (lv_at hl 0 rfl) ?_
  refine lv_iload_n G.1 G.2.1 d_Mo_refuse_1 rfl (lv_at hl 1 rfl) ?_
  refine kp (ci := 14) G iMo tMo tMo_ok nMo hP hD hS 0 rfl rfl 49 (by decide) q3113 rfl rfl rfl rfl (by rw [glen]; decide) d_Mo_refuse_2 (fun H locs hP hD hS => ?_)
  have hP : va_P D CL [(h0, .inr (14, (fs.set 49 (.int br)))), (r_ostop, .inr (15, []))] H := hP
  have hD : va_D A [(h0, .inr (14, (fs.set 49 (.int br)))), (r_ostop, .inr (15, []))] := hD
  refine lv_aload_n G.1 G.2.1 d_Mo_refuse_5 rfl (lv_at hl 0 rfl) ?_
  refine lv_iload_n G.1 G.2.1 d_Mo_refuse_6 rfl (lv_at hl 2 rfl) ?_
  refine kp (ci := 14) G iMo tMo tMo_ok nMo hP hD hS 0 rfl rfl 50 (by decide) q3114 rfl rfl rfl rfl (by rw [llen_set glen]; decide) d_Mo_refuse_7 (fun H locs hP hD hS => ?_)
  have hP : va_P D CL [(h0, .inr (14, ((fs.set 49 (.int br)).set 50 (.int bp)))), (r_ostop, .inr (15, []))] H := hP
  have hD : va_D A [(h0, .inr (14, ((fs.set 49 (.int br)).set 50 (.int bp)))), (r_ostop, .inr (15, []))] := hD
  refine lv_aload_n G.1 G.2.1 d_Mo_refuse_10 rfl (lv_at hl 0 rfl) ?_
  refine kg (ci := 14) (v := .ref r_ostop) G iMo hP 0 rfl rfl 48 (by decide) q3112 rfl (lset_ne (by decide) (lset_ne (by decide) gk0)) d_Mo_refuse_11 ?_
  refine vx_athrow G.1 G.2.1 d_Mo_refuse_14 ?_
  exact hret H _ _ _ _ 1 15 r_ostop _ [] ls _ hP hD hS (Nat.le_refl _) (Nat.le_refl _) rfl rfl rfl
abbrev hh_Mo_trial : List (Nat × Nat × Nat × Nat) := [(192, 226, 229, 267)]
def y_Mo_trial : MethodName := ⟨"ClassWorksModel", "trial", "()I"⟩
abbrev b_Mo_trial : ByteArray := prog_14_method_194_code
theorem q3187 : Cond.fieldLink "ClassWorksModel" 1317 "ClassWorksModel" "drafted" "I" ∈ lw_ok := lw_okmem (List.mem_of_getElem? (i := 3187) (by decide +kernel)) rfl
theorem q3497 : Cond.code y_Mo_cutLine b_Mo_cutLine 8 (some (.boolean)) ∈ lw_ok := lw_okmem (List.mem_of_getElem? (i := 3497) (by decide +kernel)) rfl
theorem q3496 : Cond.instanceMethod y_Mo_cutLine ∈ lw_ok := lw_okmem (List.mem_of_getElem? (i := 3496) (by decide +kernel)) rfl
theorem q179 : Cond.selects y_Mo_cutLine.cls y_Mo_cutLine y_Mo_cutLine ∈ lw_ok := lw_okmem (List.mem_of_getElem? (i := 179) (by decide +kernel)) rfl
theorem w_Mo_cutLine : CWv y_Mo_cutLine b_Mo_cutLine 8 (some (.boolean)) 3 ∧ Cond.instanceMethod y_Mo_cutLine ∈ lw_ok ∧ Cond.selects y_Mo_cutLine.cls y_Mo_cutLine y_Mo_cutLine ∈ lw_ok := ⟨⟨q3497, q348, by decide +kernel, by decide +kernel, by decide +kernel⟩, q3496, q179⟩
theorem q3494 : Cond.methodLink "ClassWorksModel" 569 y_Mo_cutLine ∈ lw_ok := lw_okmem (List.mem_of_getElem? (i := 3494) (by decide +kernel)) rfl
theorem q3538 : Cond.code y_Mo_refuse b_Mo_refuse 3 (none) ∈ lw_ok := lw_okmem (List.mem_of_getElem? (i := 3538) (by decide +kernel)) rfl
theorem q3537 : Cond.instanceMethod y_Mo_refuse ∈ lw_ok := lw_okmem (List.mem_of_getElem? (i := 3537) (by decide +kernel)) rfl
theorem q187 : Cond.selects y_Mo_refuse.cls y_Mo_refuse y_Mo_refuse ∈ lw_ok := lw_okmem (List.mem_of_getElem? (i := 187) (by decide +kernel)) rfl
theorem w_Mo_refuse : CWv y_Mo_refuse b_Mo_refuse 3 (none) 2 ∧ Cond.instanceMethod y_Mo_refuse ∈ lw_ok ∧ Cond.selects y_Mo_refuse.cls y_Mo_refuse y_Mo_refuse ∈ lw_ok := ⟨⟨q3538, q348, by decide +kernel, by decide +kernel, by decide +kernel⟩, q3537, q187⟩
theorem q3535 : Cond.methodLink "ClassWorksModel" 576 y_Mo_refuse ∈ lw_ok := lw_okmem (List.mem_of_getElem? (i := 3535) (by decide +kernel)) rfl
theorem d_Mo_trial_0 : decode b_Mo_trial 0 = .ok (.aload_n 0, 1) := by decide +kernel
theorem d_Mo_trial_1 : decode b_Mo_trial 1 = .ok (.getfield 1314, 3) := by decide +kernel
theorem d_Mo_trial_4 : decode b_Mo_trial 4 = .ok (.bipush 40, 2) := by decide +kernel
theorem d_Mo_trial_6 : decode b_Mo_trial 6 = .ok (.if_icmp .eq 13, 3) := by decide +kernel
theorem d_Mo_trial_9 : decode b_Mo_trial 9 = .ok (.aload_n 0, 1) := by decide +kernel
theorem d_Mo_trial_10 : decode b_Mo_trial 10 = .ok (.getfield 1112, 3) := by decide +kernel
theorem d_Mo_trial_13 : decode b_Mo_trial 13 = .ok (.sipush 1200, 3) := by decide +kernel
theorem d_Mo_trial_16 : decode b_Mo_trial 16 = .ok (.if_icmp .le 6, 3) := by decide +kernel
theorem d_Mo_trial_22 : decode b_Mo_trial 22 = .ok (.iconst 0, 1) := by decide +kernel
theorem d_Mo_trial_23 : decode b_Mo_trial 23 = .ok (.istore_n 1, 1) := by decide +kernel
theorem d_Mo_trial_24 : decode b_Mo_trial 24 = .ok (.iconst 0, 1) := by decide +kernel
theorem d_Mo_trial_25 : decode b_Mo_trial 25 = .ok (.istore_n 2, 1) := by decide +kernel
theorem d_Mo_trial_26 : decode b_Mo_trial 26 = .ok (.iconst 0, 1) := by decide +kernel
theorem d_Mo_trial_27 : decode b_Mo_trial 27 = .ok (.istore_n 3, 1) := by decide +kernel
theorem d_Mo_trial_28 : decode b_Mo_trial 28 = .ok (.aload_n 0, 1) := by decide +kernel
theorem d_Mo_trial_29 : decode b_Mo_trial 29 = .ok (.iconst 0, 1) := by decide +kernel
theorem d_Mo_trial_30 : decode b_Mo_trial 30 = .ok (.putfield 1317, 3) := by decide +kernel
theorem d_Mo_trial_33 : decode b_Mo_trial 33 = .ok (.iconst 0, 1) := by decide +kernel
theorem d_Mo_trial_34 : decode b_Mo_trial 34 = .ok (.istore 4, 2) := by decide +kernel
theorem d_Mo_trial_36 : decode b_Mo_trial 36 = .ok (.iload 4, 2) := by decide +kernel
theorem d_Mo_trial_38 : decode b_Mo_trial 38 = .ok (.aload_n 0, 1) := by decide +kernel
theorem d_Mo_trial_39 : decode b_Mo_trial 39 = .ok (.getfield 1112, 3) := by decide +kernel
theorem d_Mo_trial_42 : decode b_Mo_trial 42 = .ok (.if_icmp .gt 124, 3) := by decide +kernel
theorem d_Mo_trial_45 : decode b_Mo_trial 45 = .ok (.iload 4, 2) := by decide +kernel
theorem d_Mo_trial_47 : decode b_Mo_trial 47 = .ok (.istore 5, 2) := by decide +kernel
theorem d_Mo_trial_49 : decode b_Mo_trial 49 = .ok (.iload 5, 2) := by decide +kernel
theorem d_Mo_trial_51 : decode b_Mo_trial 51 = .ok (.aload_n 0, 1) := by decide +kernel
theorem d_Mo_trial_52 : decode b_Mo_trial 52 = .ok (.getfield 1112, 3) := by decide +kernel
theorem d_Mo_trial_55 : decode b_Mo_trial 55 = .ok (.if_icmp .ge 21, 3) := by decide +kernel
theorem d_Mo_trial_76 : decode b_Mo_trial 76 = .ok (.aload_n 0, 1) := by decide +kernel
theorem d_Mo_trial_77 : decode b_Mo_trial 77 = .ok (.aload_n 0, 1) := by decide +kernel
theorem d_Mo_trial_78 : decode b_Mo_trial 78 = .ok (.getfield 314, 3) := by decide +kernel
theorem d_Mo_trial_81 : decode b_Mo_trial 81 = .ok (.iload 4, 2) := by decide +kernel
theorem d_Mo_trial_83 : decode b_Mo_trial 83 = .ok (.iload 5, 2) := by decide +kernel
theorem d_Mo_trial_85 : decode b_Mo_trial 85 = .ok (.invokevirtual 569, 3) := by decide +kernel
theorem d_Mo_trial_88 : decode b_Mo_trial 88 = .ok (.ifCond .eq 69, 3) := by decide +kernel
theorem d_Mo_trial_157 : decode b_Mo_trial 157 = .ok (.iload 5, 2) := by decide +kernel
theorem d_Mo_trial_159 : decode b_Mo_trial 159 = .ok (.iconst 1, 1) := by decide +kernel
theorem d_Mo_trial_160 : decode b_Mo_trial 160 = .ok (.iadd, 1) := by decide +kernel
theorem d_Mo_trial_161 : decode b_Mo_trial 161 = .ok (.istore 4, 2) := by decide +kernel
theorem d_Mo_trial_163 : decode b_Mo_trial 163 = .ok (.goto (-127), 3) := by decide +kernel
theorem d_Mo_trial_166 : decode b_Mo_trial 166 = .ok (.iload_n 1, 1) := by decide +kernel
theorem d_Mo_trial_167 : decode b_Mo_trial 167 = .ok (.bipush 60, 2) := by decide +kernel
theorem d_Mo_trial_169 : decode b_Mo_trial 169 = .ok (.if_icmp .le 6, 3) := by decide +kernel
theorem d_Mo_trial_175 : decode b_Mo_trial 175 = .ok (.aload_n 0, 1) := by decide +kernel
theorem d_Mo_trial_176 : decode b_Mo_trial 176 = .ok (.getfield 1112, 3) := by decide +kernel
theorem d_Mo_trial_179 : decode b_Mo_trial 179 = .ok (.istore 5, 2) := by decide +kernel
theorem d_Mo_trial_181 : decode b_Mo_trial 181 = .ok (.aload_n 0, 1) := by decide +kernel
theorem d_Mo_trial_182 : decode b_Mo_trial 182 = .ok (.iconst 0, 1) := by decide +kernel
theorem d_Mo_trial_183 : decode b_Mo_trial 183 = .ok (.putfield 1112, 3) := by decide +kernel
theorem d_Mo_trial_186 : decode b_Mo_trial 186 = .ok (.aload_n 0, 1) := by decide +kernel
theorem d_Mo_trial_187 : decode b_Mo_trial 187 = .ok (.bipush (-2), 2) := by decide +kernel
theorem d_Mo_trial_189 : decode b_Mo_trial 189 = .ok (.putfield 317, 3) := by decide +kernel
theorem d_Mo_trial_192 : decode b_Mo_trial 192 = .ok (.iload_n 1, 1) := by decide +kernel
theorem d_Mo_trial_193 : decode b_Mo_trial 193 = .ok (.ifCond .ne 10, 3) := by decide +kernel
theorem d_Mo_trial_196 : decode b_Mo_trial 196 = .ok (.aload_n 0, 1) := by decide +kernel
theorem d_Mo_trial_197 : decode b_Mo_trial 197 = .ok (.iconst 1, 1) := by decide +kernel
theorem d_Mo_trial_198 : decode b_Mo_trial 198 = .ok (.iload 5, 2) := by decide +kernel
theorem d_Mo_trial_200 : decode b_Mo_trial 200 = .ok (.invokevirtual 576, 3) := by decide +kernel
theorem d_Mo_trial_229 : decode b_Mo_trial 229 = .ok (.astore 6, 2) := by decide +kernel
theorem d_Mo_trial_231 : decode b_Mo_trial 231 = .ok (.aload_n 0, 1) := by decide +kernel
theorem d_Mo_trial_232 : decode b_Mo_trial 232 = .ok (.aload_n 0, 1) := by decide +kernel
theorem d_Mo_trial_233 : decode b_Mo_trial 233 = .ok (.getfield 529, 3) := by decide +kernel
theorem d_Mo_trial_236 : decode b_Mo_trial 236 = .ok (.putfield 317, 3) := by decide +kernel
theorem d_Mo_trial_239 : decode b_Mo_trial 239 = .ok (.bipush (-11), 2) := by decide +kernel
theorem d_Mo_trial_241 : decode b_Mo_trial 241 = .ok (.ireturn, 1) := by decide +kernel
abbrev rm_Mo_trial : Room := { frames := 2, cells := 0, slots := 0, locals := 50 }
set_option maxHeartbeats 4000000 in
set_option maxRecDepth 100000 in
theorem c_Mo_trial (l : Launch) (D : va_G) (g : Nat → ClassId) (h0 : Nat) (fs : List Value) (r_owordKinds : Nat) (r_owordValues : Nat) (r_owordPlaces : Nat) (r_otape : Nat) (r_ostop : Nat) (fk : Nat → Int32) (fv : Nat → Int32) (fp : Nat → Int32) (ftp : Nat → Int32) (sz : Nat) (glen : fs.length = 131) (gk0 : fs[42]? = some (.int (nI 0))) (gk1 : fs[39]? = some (.ref r_owordKinds)) (gk2 : fs[40]? = some (.ref r_owordValues)) (gk3 : fs[41]? = some (.ref r_owordPlaces)) (gk4 : fs[43]? = some (.int (nI 0))) (gk5 : fs[121]? = some (.int (nI 0))) (gk6 : fs[85]? = some (.int (nI 0))) (gk7 : fs[123]? = some (.int (nI 0))) (gk8 : fs[84]? = some (.ref r_otape)) (gk9 : fs[86]? = some (.int (-2))) (gk10 : fs[48]? = some (.ref r_ostop))  : Met l y_Mo_trial (mww y_Mo_trial b_Mo_trial 7 (some .int) hh_Mo_trial) (rm_Mo_trial) (PC g D [] [.ref h0] sz [(h0, .inr (14, fs)), (r_owordKinds, .inl (g 1, 6002, .inl fk)), (r_owordValues, .inl (g 0, 6002, .inl fv)), (r_owordPlaces, .inl (g 0, 6002, .inl fp)), (r_otape, .inl (g 1, 6000, .inl ftp)), (r_ostop, .inr (15, []))]) (va_Qi (fun (r : Int32) (u : Unit) => r = (-11)) (QW D (va_A [(h0, .inr (14, fs)), (r_owordKinds, .inl (g 1, 6002, .inl fk)), (r_owordValues, .inl (g 0, 6002, .inl fv)), (r_owordPlaces, .inl (g 0, 6002, .inl fp)), (r_otape, .inl (g 1, 6000, .inl ftp)), (r_ostop, .inr (15, []))] sz) (fun u : Unit => [])) (va_A [(h0, .inr (14, fs)), (r_owordKinds, .inl (g 1, 6002, .inl fk)), (r_owordValues, .inl (g 0, 6002, .inl fv)), (r_owordPlaces, .inl (g 0, 6002, .inl fp)), (r_otape, .inl (g 1, 6000, .inl ftp)), (r_ostop, .inr (15, []))] sz)) 0 0 (va_A [(h0, .inr (14, fs)), (r_owordKinds, .inl (g 1, 6002, .inl fk)), (r_owordValues, .inl (g 0, 6002, .inl fv)), (r_owordPlaces, .inl (g 0, 6002, .inl fp)), (r_otape, .inl (g 1, 6000, .inl ftp)), (r_ostop, .inr (15, []))] sz) := by
  refine ofIW (by decide +kernel) (Nat.le_of_ble_eq_true rfl) ?_
  intro p e s m args below meth c A Q ls H locs G htab hsz hP hD hS hl hret
  subst hsz
  have hl : lv_has ls 7 [(0, .ref h0)] := hl
  refine lv_aload_n G.1 G.2.1 d_Mo_trial_0 rfl (lv_at hl 0 rfl) ?_
  refine kg (ci := 14) (v := .int (nI 0)) G iMo hP 0 rfl rfl 121 (by decide) q3185 rfl gk5 d_Mo_trial_1 ?_
  refine lv_bipush (v := nI 40) G.1 G.2.1 d_Mo_trial_4 (by decide) ?_
  refine lv_icmp_eq (tgt := 19) G.1 G.2.1 d_Mo_trial_6 (by decide) (fun c6 => absurd c6 (by decide)) (fun c6 => ?_)
  refine lv_aload_n G.1 G.2.1 d_Mo_trial_9 rfl (lv_at hl 0 rfl) ?_
  refine kg (ci := 14) (v := .int (nI 0)) G iMo hP 0 rfl rfl 85 (by decide) q3149 rfl gk6 d_Mo_trial_10 ?_
  refine lv_sipush (v := nI 1200) G.1 G.2.1 d_Mo_trial_13 (by decide) ?_
  refine lv_icmp_le (tgt := 22) G.1 G.2.1 d_Mo_trial_16 (by decide) (fun c16 => ?_) (fun c16 => absurd c16 (by decide))
  refine lv_iconst (v := nI 0) G.1 G.2.1 d_Mo_trial_22 (by decide) ?_
  refine lv_istore_n (lv' := [(1, .int (nI 0)), (0, .ref h0)]) G.1 G.2.1 d_Mo_trial_23 rfl hl (by decide) rfl (fun ls hl => ?_)
  refine lv_iconst (v := nI 0) G.1 G.2.1 d_Mo_trial_24 (by decide) ?_
  refine W.eq (g2 := F0 m 25 ls [.int (nI 0)]) rfl ?_
  refine lv_istore_n (lv' := [(2, .int (nI 0)), (1, .int (nI 0)), (0, .ref h0)]) G.1 G.2.1 d_Mo_trial_25 rfl hl (by decide) rfl (fun ls hl => ?_)
  refine lv_iconst (v := nI 0) G.1 G.2.1 d_Mo_trial_26 (by decide) ?_
  refine lv_istore_n (lv' := [(3, .int (nI 0)), (2, .int (nI 0)), (1, .int (nI 0)), (0, .ref h0)]) G.1 G.2.1 d_Mo_trial_27 rfl hl (by decide) rfl (fun ls hl => ?_)
  refine lv_aload_n G.1 G.2.1 d_Mo_trial_28 rfl (lv_at hl 3 rfl) ?_
  refine lv_iconst (v := nI 0) G.1 G.2.1 d_Mo_trial_29 (by decide) ?_
  refine kp (ci := 14) G iMo tMo tMo_ok nMo hP hD hS 0 rfl rfl 123 (by decide) q3187 rfl rfl rfl rfl (by rw [glen]; decide) d_Mo_trial_30 (fun H locs hP hD hS => ?_)
  rw [lset_same gk7] at hP hD
  have hP : va_P D CL [(h0, .inr (14, fs)), (r_owordKinds, .inl (g 1, 6002, .inl fk)), (r_owordValues, .inl (g 0, 6002, .inl fv)), (r_owordPlaces, .inl (g 0, 6002, .inl fp)), (r_otape, .inl (g 1, 6000, .inl ftp)), (r_ostop, .inr (15, []))] H := hP
  have hD : va_D A [(h0, .inr (14, fs)), (r_owordKinds, .inl (g 1, 6002, .inl fk)), (r_owordValues, .inl (g 0, 6002, .inl fv)), (r_owordPlaces, .inl (g 0, 6002, .inl fp)), (r_otape, .inl (g 1, 6000, .inl ftp)), (r_ostop, .inr (15, []))] := hD
  refine lv_iconst (v := nI 0) G.1 G.2.1 d_Mo_trial_33 (by decide) ?_
  refine lv_istore (lv' := [(4, .int (nI 0)), (3, .int (nI 0)), (2, .int (nI 0)), (1, .int (nI 0)), (0, .ref h0)]) G.1 G.2.1 d_Mo_trial_34 hl (by decide) rfl (fun ls hl => ?_)
  refine lv_iload G.1 G.2.1 d_Mo_trial_36 (lv_at hl 0 rfl) ?_
  refine lv_aload_n G.1 G.2.1 d_Mo_trial_38 rfl (lv_at hl 4 rfl) ?_
  refine kg (ci := 14) (v := .int (nI 0)) G iMo hP 0 rfl rfl 85 (by decide) q3149 rfl gk6 d_Mo_trial_39 ?_
  refine lv_icmp_gt (tgt := 166) G.1 G.2.1 d_Mo_trial_42 (by decide) (fun c42 => absurd c42 (by decide)) (fun c42 => ?_)
  refine W.eq (g2 := F0 m 45 ls []) rfl ?_
  refine lv_iload G.1 G.2.1 d_Mo_trial_45 (lv_at hl 0 rfl) ?_
  refine lv_istore (lv' := [(5, .int (nI 0)), (4, .int (nI 0)), (3, .int (nI 0)), (2, .int (nI 0)), (1, .int (nI 0)), (0, .ref h0)]) G.1 G.2.1 d_Mo_trial_47 hl (by decide) rfl (fun ls hl => ?_)
  refine lv_iload G.1 G.2.1 d_Mo_trial_49 (lv_at hl 0 rfl) ?_
  refine lv_aload_n G.1 G.2.1 d_Mo_trial_51 rfl (lv_at hl 5 rfl) ?_
  refine kg (ci := 14) (v := .int (nI 0)) G iMo hP 0 rfl rfl 85 (by decide) q3149 rfl gk6 d_Mo_trial_52 ?_
  refine lv_icmp_ge (tgt := 76) G.1 G.2.1 d_Mo_trial_55 (by decide) (fun c55 => ?_) (fun c55 => absurd c55 (by decide))
  refine lv_aload_n G.1 G.2.1 d_Mo_trial_76 rfl (lv_at hl 5 rfl) ?_
  refine lv_aload_n G.1 G.2.1 d_Mo_trial_77 rfl (lv_at hl 5 rfl) ?_
  refine kg (ci := 14) (v := .ref r_otape) G iMo hP 0 rfl rfl 84 (by decide) q3148 rfl gk8 d_Mo_trial_78 ?_
  refine lv_iload G.1 G.2.1 d_Mo_trial_81 (lv_at hl 1 rfl) ?_
  refine lv_iload G.1 G.2.1 d_Mo_trial_83 (lv_at hl 0 rfl) ?_
  refine kEi (wr := [(r_otape, .inl (g 1, 6000, .inl ftp)), (r_ostop, .inr (15, []))]) G (kV (As := [.ref r_otape, .int (nI 0), .int (nI 0)]) (rest := []) G hP hD hS [0, 1, 2, 3] rfl rfl (c_Mo_cutLine l D g h0 r_otape fs r_owordKinds r_owordValues r_owordPlaces fk fv fp H.size glen gk0 gk1 gk2 gk3 gk4) w_Mo_cutLine q3494 rfl rfl ⟨Nat.le_of_ble_eq_true rfl, Nat.le_of_ble_eq_true rfl⟩ (fun _ h => absurd h List.not_mem_nil) 0 (ci := 14) rfl rfl rfl hl.1 rfl (Nat.le_of_ble_eq_true rfl) rfl ⟨Nat.le_of_ble_eq_true rfl, (Nat.le_of_ble_eq_true rfl)⟩ d_Mo_trial_85) hP hD hS [0, 1, 2, 3] [4, 5] rfl rfl rfl rfl (fun r_1 u_2 H locs hw hP hD hS hzH => ?_)
  obtain ⟨x_3, x_4, x_5⟩ := u_2
  have hw : r_1 = nI 0 := hw
  have hP : va_P D CL [(r_otape, .inl (g 1, 6000, .inl ftp)), (r_ostop, .inr (15, [])), (h0, .inr (14, (fs.set 42 (.int (nI 1))))), (r_owordKinds, .inl (g 1, 6002, .inl x_3)), (r_owordValues, .inl (g 0, 6002, .inl x_4)), (r_owordPlaces, .inl (g 0, 6002, .inl x_5))] H := hP
  have hD : va_D A [(r_otape, .inl (g 1, 6000, .inl ftp)), (r_ostop, .inr (15, [])), (h0, .inr (14, (fs.set 42 (.int (nI 1))))), (r_owordKinds, .inl (g 1, 6002, .inl x_3)), (r_owordValues, .inl (g 0, 6002, .inl x_4)), (r_owordPlaces, .inl (g 0, 6002, .inl x_5))] := hD
  subst hw
  refine tpst (w := [.int (nI 0)]) rfl ?_
  refine W.eq (g2 := F0 m 88 ls [.int (nI 0)]) rfl ?_
  refine lv_if_eq (tgt := 157) G.1 G.2.1 d_Mo_trial_88 (by decide) (fun c88 => ?_) (fun c88 => absurd c88 (by decide))
  refine lv_iload G.1 G.2.1 d_Mo_trial_157 (lv_at hl 0 rfl) ?_
  refine lv_iconst (v := nI 1) G.1 G.2.1 d_Mo_trial_159 (by decide) ?_
  refine lv_iadd G.1 G.2.1 d_Mo_trial_160 ?_
  refine tpi (w := nI 1) (by decide) ?_
  refine lv_istore (lv' := [(4, .int (nI 1)), (5, .int (nI 0)), (3, .int (nI 0)), (2, .int (nI 0)), (1, .int (nI 0)), (0, .ref h0)]) G.1 G.2.1 d_Mo_trial_161 hl (by decide) rfl (fun ls hl => ?_)
  refine lv_goto (tgt := 36) G.1 G.2.1 d_Mo_trial_163 (by decide) ?_
  refine lv_iload G.1 G.2.1 d_Mo_trial_36 (lv_at hl 0 rfl) ?_
  refine lv_aload_n G.1 G.2.1 d_Mo_trial_38 rfl (lv_at hl 5 rfl) ?_
  refine kg (ci := 14) (v := .int (nI 0)) G iMo hP 2 rfl rfl 85 (by decide) q3149 rfl (lset_ne (by decide) gk6) d_Mo_trial_39 ?_
  refine lv_icmp_gt (tgt := 166) G.1 G.2.1 d_Mo_trial_42 (by decide) (fun c42 => ?_) (fun c42 => absurd c42 (by decide))
  refine lv_iload_n G.1 G.2.1 d_Mo_trial_166 rfl (lv_at hl 4 rfl) ?_
  refine lv_bipush (v := nI 60) G.1 G.2.1 d_Mo_trial_167 (by decide) ?_
  refine W.eq (g2 := F0 m 169 ls [.int (nI 60), .int (nI 0)]) rfl ?_
  refine lv_icmp_le (tgt := 175) G.1 G.2.1 d_Mo_trial_169 (by decide) (fun c169 => ?_) (fun c169 => absurd c169 (by decide))
  refine lv_aload_n G.1 G.2.1 d_Mo_trial_175 rfl (lv_at hl 5 rfl) ?_
  refine kg (ci := 14) (v := .int (nI 0)) G iMo hP 2 rfl rfl 85 (by decide) q3149 rfl (lset_ne (by decide) gk6) d_Mo_trial_176 ?_
  refine lv_istore (lv' := [(5, .int (nI 0)), (4, .int (nI 1)), (3, .int (nI 0)), (2, .int (nI 0)), (1, .int (nI 0)), (0, .ref h0)]) G.1 G.2.1 d_Mo_trial_179 hl (by decide) rfl (fun ls hl => ?_)
  refine lv_aload_n G.1 G.2.1 d_Mo_trial_181 rfl (lv_at hl 5 rfl) ?_
  refine lv_iconst (v := nI 0) G.1 G.2.1 d_Mo_trial_182 (by decide) ?_
  refine kp (ci := 14) G iMo tMo tMo_ok nMo hP hD hS 2 rfl rfl 85 (by decide) q3149 rfl rfl rfl rfl (by rw [llen_set glen]; decide) d_Mo_trial_183 (fun H locs hP hD hS => ?_)
  rw [lset_same (lset_ne (by decide) gk6)] at hP hD
  have hP : va_P D CL [(r_otape, .inl (g 1, 6000, .inl ftp)), (r_ostop, .inr (15, [])), (h0, .inr (14, (fs.set 42 (.int (nI 1))))), (r_owordKinds, .inl (g 1, 6002, .inl x_3)), (r_owordValues, .inl (g 0, 6002, .inl x_4)), (r_owordPlaces, .inl (g 0, 6002, .inl x_5))] H := hP
  have hD : va_D A [(r_otape, .inl (g 1, 6000, .inl ftp)), (r_ostop, .inr (15, [])), (h0, .inr (14, (fs.set 42 (.int (nI 1))))), (r_owordKinds, .inl (g 1, 6002, .inl x_3)), (r_owordValues, .inl (g 0, 6002, .inl x_4)), (r_owordPlaces, .inl (g 0, 6002, .inl x_5))] := hD
  refine lv_aload_n G.1 G.2.1 d_Mo_trial_186 rfl (lv_at hl 5 rfl) ?_
  refine lv_bipush (v := (-2)) G.1 G.2.1 d_Mo_trial_187 (by decide) ?_
  refine kp (ci := 14) G iMo tMo tMo_ok nMo hP hD hS 2 rfl rfl 86 (by decide) q3150 rfl rfl rfl rfl (by rw [llen_set glen]; decide) d_Mo_trial_189 (fun H locs hP hD hS => ?_)
  rw [lset_same (lset_ne (by decide) gk9)] at hP hD
  have hP : va_P D CL [(r_otape, .inl (g 1, 6000, .inl ftp)), (r_ostop, .inr (15, [])), (h0, .inr (14, (fs.set 42 (.int (nI 1))))), (r_owordKinds, .inl (g 1, 6002, .inl x_3)), (r_owordValues, .inl (g 0, 6002, .inl x_4)), (r_owordPlaces, .inl (g 0, 6002, .inl x_5))] H := hP
  have hD : va_D A [(r_otape, .inl (g 1, 6000, .inl ftp)), (r_ostop, .inr (15, [])), (h0, .inr (14, (fs.set 42 (.int (nI 1))))), (r_owordKinds, .inl (g 1, 6002, .inl x_3)), (r_owordValues, .inl (g 0, 6002, .inl x_4)), (r_owordPlaces, .inl (g 0, 6002, .inl x_5))] := hD
  refine lv_iload_n G.1 G.2.1 d_Mo_trial_192 rfl (lv_at hl 4 rfl) ?_
  refine lv_if_ne (tgt := 203) G.1 G.2.1 d_Mo_trial_193 (by decide) (fun c193 => absurd c193 (by decide)) (fun c193 => ?_)
  refine W.eq (g2 := F0 m 196 ls []) rfl ?_
  refine lv_aload_n G.1 G.2.1 d_Mo_trial_196 rfl (lv_at hl 5 rfl) ?_
  refine lv_iconst (v := nI 1) G.1 G.2.1 d_Mo_trial_197 (by decide) ?_
  refine lv_iload G.1 G.2.1 d_Mo_trial_198 (lv_at hl 0 rfl) ?_
  refine kT (wr := [(r_otape, .inl (g 1, 6000, .inl ftp)), (r_owordKinds, .inl (g 1, 6002, .inl x_3)), (r_owordValues, .inl (g 0, 6002, .inl x_4)), (r_owordPlaces, .inl (g 0, 6002, .inl x_5))]) (E := "java/lang/IllegalStateException") (As := [.int (nI 1), .int (nI 0)]) (rest := []) G hP hD hS [2, 1] [0, 3, 4, 5] rfl rfl rfl rfl rfl (c_Mo_refuse l D g h0 (nI 1) (nI 0) (fs.set 42 (.int (nI 1))) r_ostop H.size (llen_set glen) (lset_ne (by decide) gk10)) w_Mo_refuse q3535 rfl rfl ⟨Nat.le_of_ble_eq_true rfl, Nat.le_of_ble_eq_true rfl⟩ (fun _ h => absurd h List.not_mem_nil) 2 (ci := 14) rfl rfl rfl hl.1 rfl (Nat.le_of_ble_eq_true rfl) rfl ⟨Nat.le_of_ble_eq_true rfl, Nat.le_of_ble_eq_true rfl⟩ d_Mo_trial_200 (fun H locs q9 ce hP hD hS hce hcv hcl => ?_)
  refine vx_catch (own := "ClassWorksModel") (name := "java/lang/IllegalStateException") (E := "java/lang/IllegalStateException") G.2.2.2.2.2.2.1 [] ⟨192, 226, 229, 267⟩ [] htab (fun z hz => absurd hz List.not_mem_nil) (by decide) (by decide) (G.2.2.2.2.2.1 _ q2633) (G.2.2.2.2.2.2.2.2.2.1.use (w := Cond.castable "java/lang/IllegalStateException" "java/lang/IllegalStateException") (lw_nestmem (List.mem_of_getElem? (i := 2635) (by decide +kernel)) rfl) rfl) hce hcv hcl ?_
  have hP : va_P D CL [(r_otape, .inl (g 1, 6000, .inl ftp)), (r_owordKinds, .inl (g 1, 6002, .inl x_3)), (r_owordValues, .inl (g 0, 6002, .inl x_4)), (r_owordPlaces, .inl (g 0, 6002, .inl x_5)), (h0, .inr (14, (((fs.set 42 (.int (nI 1))).set 49 (.int (nI 1))).set 50 (.int (nI 0))))), (r_ostop, .inr (15, []))] H := hP
  have hD : va_D A [(r_otape, .inl (g 1, 6000, .inl ftp)), (r_owordKinds, .inl (g 1, 6002, .inl x_3)), (r_owordValues, .inl (g 0, 6002, .inl x_4)), (r_owordPlaces, .inl (g 0, 6002, .inl x_5)), (h0, .inr (14, (((fs.set 42 (.int (nI 1))).set 49 (.int (nI 1))).set 50 (.int (nI 0))))), (r_ostop, .inr (15, []))] := hD
  refine W.eq (g2 := F0 m 229 ls [.ref q9]) rfl ?_
  refine lv_astore (lv' := [(6, .ref q9), (5, .int (nI 0)), (4, .int (nI 1)), (3, .int (nI 0)), (2, .int (nI 0)), (1, .int (nI 0)), (0, .ref h0)]) G.1 G.2.1 d_Mo_trial_229 hl (by decide) rfl (fun ls hl => ?_)
  refine lv_aload_n G.1 G.2.1 d_Mo_trial_231 rfl (lv_at hl 6 rfl) ?_
  refine lv_aload_n G.1 G.2.1 d_Mo_trial_232 rfl (lv_at hl 6 rfl) ?_
  refine kg (ci := 14) (v := .int (nI 0)) G iMo hP 4 rfl rfl 50 (by decide) q3114 rfl (lset_eq (by rw [llen_set (llen_set glen)]; decide)) d_Mo_trial_233 ?_
  refine kp (ci := 14) G iMo tMo tMo_ok nMo hP hD hS 4 rfl rfl 86 (by decide) q3150 rfl rfl rfl rfl (by rw [llen_set (llen_set (llen_set glen))]; decide) d_Mo_trial_236 (fun H locs hP hD hS => ?_)
  have hP : va_P D CL [(r_otape, .inl (g 1, 6000, .inl ftp)), (r_owordKinds, .inl (g 1, 6002, .inl x_3)), (r_owordValues, .inl (g 0, 6002, .inl x_4)), (r_owordPlaces, .inl (g 0, 6002, .inl x_5)), (h0, .inr (14, ((((fs.set 42 (.int (nI 1))).set 49 (.int (nI 1))).set 50 (.int (nI 0))).set 86 (.int (nI 0))))), (r_ostop, .inr (15, []))] H := hP
  have hD : va_D A [(r_otape, .inl (g 1, 6000, .inl ftp)), (r_owordKinds, .inl (g 1, 6002, .inl x_3)), (r_owordValues, .inl (g 0, 6002, .inl x_4)), (r_owordPlaces, .inl (g 0, 6002, .inl x_5)), (h0, .inr (14, ((((fs.set 42 (.int (nI 1))).set 49 (.int (nI 1))).set 50 (.int (nI 0))).set 86 (.int (nI 0))))), (r_ostop, .inr (15, []))] := hD
  refine lv_bipush (v := (-11)) G.1 G.2.1 d_Mo_trial_239 (by decide) ?_
  refine hret (-11) () _ _ _ _ _ ls rfl (hP.sub [] rfl) (hD.sub [] (by decide) rfl) hS (Nat.le_of_ble_eq_true rfl) (Nat.le_of_ble_eq_true rfl) d_Mo_trial_241
