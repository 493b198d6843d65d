/-! ===== A field takes a row that no field holds for good: the two rows change their names ===== -/
def yY (y : Ly) (a k b j : Nat) : Ly := (w2 (w2 (w2 y.1 a k (y.1 b j)) b j (y.1 a k)) 999 0 (y.1 b j), w2 (w2 y.2 a k (y.2 b j)) b j (y.2 a k))
def fY (σ : St) (a k b j : Nat) : Nat → Nat → Nat × Nat := fun z i => if sX σ z i = (b, j) then (999, 0) else if sX σ z i = (a, k) then (b, j) else sX σ z i
def σY (σ : St) (a k b j : Nat) : St := (σ.1, σ.2.1, w2 (w2 σ.2.2.1 a k (σ.2.2.1 b j)) b j (σ.2.2.1 a k), σ.2.2.2.1, σ.2.2.2.2.1, fY σ a k b j)
def xY (y : Ly) (σ : St) (a k b j : Nat) (K : Ly → St → Prop) : Prop := (b = 76 ∧ 200 < j) ∧ (∀ z i, kd (cl z) i = 7 → sX σ z i ≠ (999, 0)) ∧ K (yY y a k b j) (σY σ a k b j)
theorem yY_P {y : Ly} {a k b j : Nat} (ha : a ≠ 999) (hb : b ≠ 999) (hab : a = b → k ≠ j) : yP (yY y a k b j) a k = yP y b j ∧ yP (yY y a k b j) b j = yP y a k ∧ yP (yY y a k b j) 999 0 = yP y b j ∧ ∀ z i, z ≠ 999 → (z = a → i ≠ k) → (z = b → i ≠ j) → yP (yY y a k b j) z i = yP y z i := by
  refine ⟨?_, ?_, ?_, ?_⟩
  · show w2 (w2 (w2 _ _ _ _) _ _ _) _ _ _ _ _ = _
    rw [w2_ne (fun h => absurd h ha), w2_ne (fun h => hab h), w2_eq]; rfl
  · show w2 (w2 (w2 _ _ _ _) _ _ _) _ _ _ _ _ = _
    rw [w2_ne (fun h => absurd h hb), w2_eq]; rfl
  · first | rfl | exact if_pos ⟨rfl, rfl⟩ | (unfold yP yY w2; simp)
  · intro z i h1 h2 h3
    show w2 (w2 (w2 _ _ _ _) _ _ _) _ _ _ _ _ = _
    rw [w2_ne (fun h => absurd h h1), w2_ne h3, w2_ne h2]; rfl
theorem yY_N {y : Ly} {a k b j : Nat} (hab : a = b → k ≠ j) : yN (yY y a k b j) a k = yN y b j ∧ yN (yY y a k b j) b j = yN y a k ∧ ∀ z i, (z = a → i ≠ k) → (z = b → i ≠ j) → yN (yY y a k b j) z i = yN y z i := by
  refine ⟨?_, w2_eq, ?_⟩
  · show w2 (w2 _ _ _ _) _ _ _ _ _ = _
    rw [w2_ne hab, w2_eq]; rfl
  · intro z i h2 h3
    show w2 (w2 _ _ _ _) _ _ _ _ _ = _
    rw [w2_ne h3, w2_ne h2]; rfl
theorem σY_A {σ : St} {a k b j : Nat} (hab : a = b → k ≠ j) : sA (σY σ a k b j) a k = sA σ b j ∧ sA (σY σ a k b j) b j = sA σ a k ∧ ∀ z i, (z = a → i ≠ k) → (z = b → i ≠ j) → sA (σY σ a k b j) z i = sA σ z i := by
  refine ⟨?_, w2_eq, ?_⟩
  · show w2 (w2 _ _ _ _) _ _ _ _ _ = _
    rw [w2_ne hab, w2_eq]; rfl
  · intro z i h2 h3
    show w2 (w2 _ _ _ _) _ _ _ _ _ = _
    rw [w2_ne h3, w2_ne h2]; rfl
theorem yY_f {ad : Nat → Nat} {y : Ly} {σ : St} {a k j z i t : Nat} (ha : a ≠ 999) (h76 : a = 76 → k < 200) (hj : 200 < j) (hal : ∀ z i, kd (cl z) i = 7 → sX σ z i ≠ (999, 0)) (hz : cl z ≠ 99) (hi : i < 200) (h : z = a → i ≠ k) (ht : t = kd (cl z) i) (h8 : t ≤ 7) : fvl ad (yY y a k 76 j) (σY σ a k 76 j) z i t = fvl ad y σ z i t := by
  have hab : a = 76 → k ≠ j := fun q => by have := h76 q; omega
  obtain ⟨p1, p2, p3, pE⟩ := yY_P (y := y) (a := a) (k := k) (b := 76) (j := j) ha (by decide) hab
  have hz9 : z ≠ 999 := fun q => by have := cl_lt hz; omega
  have e0 := pE z i hz9 h (fun _ => by omega)
  by_cases h7 : t = 7
  · have h9 := hal z i (ht ▸ h7)
    subst h7
    show Value.ref (yP (yY y a k 76 j) (fY σ a k 76 j z i).1 (fY σ a k 76 j z i).2) = Value.ref (yP y (sX σ z i).1 (sX σ z i).2)
    unfold fY
    by_cases c1 : sX σ z i = (76, j)
    · rw [if_pos c1, c1]; exact congrArg Value.ref p3
    · rw [if_neg c1]
      by_cases c2 : sX σ z i = (a, k)
      · rw [if_pos c2, c2]; exact congrArg Value.ref p2
      · rw [if_neg c2]
        by_cases c3 : (sX σ z i).1 = 999
        · by_cases c4 : (sX σ z i).2 = 0
          · exact absurd (Prod.ext c3 c4) h9
          · refine congrArg Value.ref ?_
            show w2 (w2 (w2 _ _ _ _) _ _ _) _ _ _ _ _ = _
            rw [w2_ne (fun _ => c4), w2_ne (fun q1 q2 => c1 (Prod.ext q1 q2)), w2_ne (fun q1 q2 => c2 (Prod.ext q1 q2))]; rfl
        · exact congrArg Value.ref (pE _ _ c3 (fun q1 q2 => c2 (Prod.ext q1 q2)) (fun q1 q2 => c1 (Prod.ext q1 q2)))
  · unfold fvl
    rw [e0]
    have c7 : t = 0 ∨ t = 1 ∨ t = 2 ∨ t = 3 ∨ t = 4 ∨ t = 5 ∨ t = 6 := by omega
    rcases c7 with e | e | e | e | e | e | e <;> subst e <;> rfl
theorem yY_ws {g : Nat → ClassId} {ad : Nat → Nat} {D : va_G} {y : Ly} {σ : St} {a cn k j q0 : Nat} {A : Nat → Prop} {H : Heap} (hs : k < 200) (hcl : cl a = cn) (hq : cL[q0]? = some (a, 200)) (hd : kd cn k = 2) (ht : tyx cn k = 1) (hj : 200 < j) (hd2 : kd (cl 76) j = 2) (ht2 : tyx (cl 76) j = 1) (hal : ∀ z i, kd (cl z) i = 7 → sX σ z i ≠ (999, 0))
    (hP : va_P D CL ((ws g ad y σ).set q0 (ad a, .inr (cn, (fls ad y σ a).set k (.ref (yP y 76 j))))) H) (hD : va_D A ((ws g ad y σ).set q0 (ad a, .inr (cn, (fls ad y σ a).set k (.ref (yP y 76 j)))))) :
    va_P D CL (ws g ad (yY y a k 76 j) (σY σ a k 76 j)) H ∧ va_D A (ws g ad (yY y a k 76 j) (σY σ a k 76 j)) := by
  have hd' : kd (cl a) k = 2 := by rw [hcl]; exact hd
  have ht' : tyx (cl a) k = 1 := by rw [hcl]; exact ht
  have hc9 : cl a ≠ 99 := fun q => by rw [q, kd_99] at hd'; omega
  have ha9 : a ≠ 999 := fun q => by have := cl_lt hc9; omega
  have hab : a = 76 → k ≠ j := fun _ => by omega
  obtain ⟨p1, p2, p3, pE⟩ := yY_P (y := y) (a := a) (k := k) (b := 76) (j := j) ha9 (by decide) hab
  obtain ⟨m1, m2, mE⟩ := yY_N (y := y) (a := a) (k := k) (b := 76) (j := j) hab
  obtain ⟨a1, a2, aE⟩ := σY_A (σ := σ) (a := a) (k := k) (b := 76) (j := j) hab
  obtain ⟨i1, hi1⟩ := List.mem_iff_getElem?.mp (mem_row (a := a) (k := k) (by rw [hd']; decide) (by rw [hd']; decide))
  obtain ⟨i2, hi2⟩ := List.mem_iff_getElem?.mp (mem_row (a := 76) (k := j) (by rw [hd2]; decide) (by rw [hd2]; decide))
  have n1 : k ≠ 200 := by omega
  have n2 : j ≠ 200 := by omega
  have hlw : (ws g ad y σ).length = cL.length := List.length_map _
  have hq0 : q0 < cL.length := (List.getElem?_eq_some_iff.mp hq).1
  have e01 : q0 ≠ i1 := fun z => by rw [z, hi1] at hq; injection hq with w; injection w with _ w; exact n1 w
  have e02 : q0 ≠ i2 := fun z => by rw [z, hi2] at hq; injection hq with w; injection w with _ w; exact n2 w
  have e12 : i1 ≠ i2 := fun z => by rw [z, hi2] at hi1; injection hi1 with w; injection w with w1 w2; exact hab w1.symm w2.symm
  have old : ∀ (i : Nat) (x : Nat × Nat), cL[i]? = some x → i ≠ q0 → ((ws g ad y σ).set q0 (ad a, .inr (cn, (fls ad y σ a).set k (.ref (yP y 76 j)))))[i]? = some (clv g ad y σ x) := by
    intro i x hx hne
    rw [List.getElem?_set_ne (fun z => hne z.symm)]
    show (cL.map _)[i]? = _
    rw [List.getElem?_map, hx]; rfl
  have new : ((ws g ad y σ).set q0 (ad a, .inr (cn, (fls ad y σ a).set k (.ref (yP y 76 j)))))[q0]? = some (ad a, .inr (cn, (fls ad y σ a).set k (.ref (yP y 76 j)))) := by
    rw [List.getElem?_set_self (by rw [hlw]; exact hq0)]
  let π : Nat → Nat := fun i => if i = i1 then i2 else if i = i2 then i1 else i
  have hπ : ∀ (i : Nat) (z : Nat × va_E), (ws g ad (yY y a k 76 j) (σY σ a k 76 j))[i]? = some z → ((ws g ad y σ).set q0 (ad a, .inr (cn, (fls ad y σ a).set k (.ref (yP y 76 j)))))[π i]? = some z := by
    intro i z hz
    have hz' : (cL.map (clv g ad (yY y a k 76 j) (σY σ a k 76 j)))[i]? = some z := hz
    rw [List.getElem?_map] at hz'
    cases ex : cL[i]? with
    | none => rw [ex] at hz'; cases hz'
    | some x =>
      rw [ex] at hz'
      injection hz' with hz'
      subst hz'
      by_cases c1 : i = i1
      · subst c1
        rw [hi1] at ex; injection ex with ex; subst ex
        show (_ : List _)[if i = i then i2 else _]? = _
        rw [if_pos rfl, old i2 _ hi2 (fun z => e02 z.symm), clv_r n1, clv_r n2, hd', hd2, ht', ht2, p1]
        show some (yP y 76 j, Sum.inl (g 1, (yN y 76 j, Sum.inl (sA σ 76 j)))) = some (yP y 76 j, Sum.inl (g 1, (yN (yY y a k 76 j) a k, Sum.inl (sA (σY σ a k 76 j) a k))))
        rw [m1, a1]
      · by_cases c2 : i = i2
        · subst c2
          rw [hi2] at ex; injection ex with ex; subst ex
          show (_ : List _)[if i = i1 then _ else if i = i then i1 else _]? = _
          rw [if_neg c1, if_pos rfl, old i1 _ hi1 (fun z => e01 z.symm), clv_r n1, clv_r n2, hd', hd2, ht', ht2, p2]
          show some (yP y a k, Sum.inl (g 1, (yN y a k, Sum.inl (sA σ a k)))) = some (yP y a k, Sum.inl (g 1, (yN (yY y a k 76 j) 76 j, Sum.inl (sA (σY σ a k 76 j) 76 j))))
          rw [m2, a2]
        · show (_ : List _)[if i = i1 then _ else if i = i2 then i1 else i]? = _
          rw [if_neg c1, if_neg c2]
          by_cases c0 : i = q0
          · subst c0
            rw [hq] at ex; injection ex with ex; subst ex
            rw [new, clv_o hcl]
            have : (fls ad y σ a).set k (.ref (yP y 76 j)) = fls ad (yY y a k 76 j) (σY σ a k 76 j) a := by
              apply List.ext_getElem?
              intro i
              show (((List.range (nf (cl a))).map (fun z => fvl ad y σ a z (kd (cl a) z))).set k _)[i]? = ((List.range (nf (cl a))).map (fun z => fvl ad (yY y a k 76 j) (σY σ a k 76 j) a z (kd (cl a) z)))[i]?
              have hn1 : k < nf (cl a) := kd_lt (by rw [hd']; decide) hs
              by_cases j1 : k = i
              · subst j1
                rw [List.getElem?_set_self (by rw [List.length_map, List.length_range]; exact hn1), List.getElem?_map, List.getElem?_range hn1]
                show _ = some (fvl ad (yY y a k 76 j) (σY σ a k 76 j) a k (kd (cl a) k))
                rw [hd']
                show _ = some (Value.ref (yP (yY y a k 76 j) a k))
                rw [p1]
              · rw [List.getElem?_set_ne j1, List.getElem?_map, List.getElem?_map]
                cases er : (List.range (nf (cl a)))[i]? with
                | none => rfl
                | some i' =>
                  have hl := (List.getElem?_eq_some_iff.mp er).1
                  rw [List.length_range] at hl
                  have hi : i' = i := by
                    rw [List.getElem?_range hl] at er
                    exact (Option.some.inj er).symm
                  subst hi
                  exact congrArg some (yY_f ha9 (fun _ => hs) hj hal hc9 (Nat.lt_of_lt_of_le hl (Nat.le_trans (nf_le _) (by decide))) (fun _ z => j1 z.symm) rfl (kd7 hl)).symm
            rw [this]
          · rw [old i x ex c0]
            have x0 : x ≠ (a, 200) := fun z => c0 (cL_inj ex (z ▸ hq))
            have x1 : x ≠ (a, k) := fun z => c1 (cL_inj ex (z ▸ hi1))
            have x2 : x ≠ (76, j) := fun z => c2 (cL_inj ex (z ▸ hi2))
            refine congrArg some ?_
            show (if x.2 = 200 then _ else _) = (if x.2 = 200 then _ else _)
            by_cases hx : x.2 = 200
            · rw [if_pos hx, if_pos hx]
              have hne : x.1 ≠ a := fun q => x0 (Prod.ext q hx)
              have : fls ad (yY y a k 76 j) (σY σ a k 76 j) x.1 = fls ad y σ x.1 := by
                unfold fls
                apply List.map_congr_left
                intro i hi
                have hi' := List.mem_range.mp hi
                have hcx : cl x.1 ≠ 99 := fun q => by rw [q] at hi'; exact absurd hi' (Nat.not_lt_zero _)
                exact yY_f ha9 (fun _ => hs) hj hal hcx (Nat.lt_of_lt_of_le hi' (Nat.le_trans (nf_le _) (by decide))) (fun q => absurd q hne) rfl (kd7 hi')
              rw [this]
            · rw [if_neg hx, if_neg hx]
              have z1 : x.1 = a → x.2 ≠ k := fun q w => x1 (Prod.ext q w)
              have z2 : x.1 = 76 → x.2 ≠ j := fun q w => x2 (Prod.ext q w)
              have z9 : x.1 ≠ 999 := fun q => by
                obtain ⟨c, hc, hm⟩ := List.mem_flatMap.mp (List.mem_of_getElem? ex)
                have hc' := List.mem_range.mp hc
                have : x.1 = c := by
                  rcases List.mem_append.mp hm with h | h
                  · rcases List.mem_append.mp h with h | h
                    · obtain ⟨w, -, rfl⟩ := List.mem_map.mp h; rfl
                    · rw [List.mem_singleton] at h; rw [h]
                  · by_cases hc76 : c = 76
                    · rw [if_pos hc76] at h
                      simp at h
                      rcases h with rfl | rfl <;> exact hc76.symm
                    · rw [if_neg hc76] at h; exact absurd h List.not_mem_nil
                omega
              unfold rwd
              rw [pE _ _ z9 z1 z2, mE _ _ z1 z2, aE _ _ z1 z2]
              rfl
  have hinj : ∀ i j : Nat, π i = π j → i = j := by
    intro i j h
    have h' : (if i = i1 then i2 else if i = i2 then i1 else i) = (if j = i1 then i2 else if j = i2 then i1 else j) := h
    by_cases a1 : i = i1
    · rw [if_pos a1] at h'
      by_cases b1 : j = i1
      · omega
      · rw [if_neg b1] at h'
        by_cases b2 : j = i2
        · rw [if_pos b2] at h'; omega
        · rw [if_neg b2] at h'; omega
    · rw [if_neg a1] at h'
      by_cases a2 : i = i2
      · rw [if_pos a2] at h'
        by_cases b1 : j = i1
        · rw [if_pos b1] at h'; omega
        · rw [if_neg b1] at h'
          by_cases b2 : j = i2
          · omega
          · rw [if_neg b2] at h'; omega
      · rw [if_neg a2] at h'
        by_cases b1 : j = i1
        · rw [if_pos b1] at h'; omega
        · rw [if_neg b1] at h'
          by_cases b2 : j = i2
          · rw [if_pos b2] at h'; omega
          · rw [if_neg b2] at h'; exact h'
  exact ⟨hP.by π hπ, hD.by π hπ (fun i j _ _ h => hinj i j h)⟩
section YR
variable {p : Program} {l : Launch} {e : Env} {R : Room} {s : State} {m : MethodId} {args : Array Value} {below : List Frame} {meth : Method} {c : Code} {H : Heap} {locs : List Loc} {cells slots : Nat} {Q : State → Prop}
variable {cc : ByteArray} {pc : Nat} {ls : Array Slot} {rest : List Value} {A0 : Nat → Prop} {D : va_G} {y0 : MethodName} {nL : Nat} {r0 : Option FieldType} {g : Nat → ClassId} {sl : List SL} {ad : Nat → Nat} {y : Ly} {σ : St} {a b j : Nat}
theorem uyY {C ref : String} {T : u_T} {N cn index k : Nat} {K : Ly → St → Prop} (G : GV l p s m args meth c y0 cc nL r0 g D sl A0) (hP : va_P D CL (ws g ad y σ) H) (hD : va_D A0 (ws g ad y σ)) (hS : va_S A0 s.heap H locs) (h : xY y σ a k b j K) (hs : k < 200) (hcl : cl a = cn) (hd : kd cn k = 2) (ht : tyx cn k = 1) (hd2 : kd (cl b) j = 2) (ht2 : tyx (cl b) j = 1) (hin : ∀ w ∈ u_ws C T N, w ∈ lw_ok) (ty0 : Nat → FieldType) (hty : ∀ k, k < N → parseFieldDescriptor (T k).2.2.1 = some (ty0 k)) (hnm : ∀ a, a < N → ∀ b, b < N → a ≠ b → (T a).2.1 ≠ (T b).2.1) (hc : CL[cn]? = some (C, T, N)) (hk : k < N) (hlink : Cond.fieldLink y0.cls index ref (T k).2.1 (T k).2.2.1 ∈ lw_ok) (hsame : (T k).1 = ref) (hfin : (T k).2.2.2 = false) (hn : narrow (ty0 k) (.ref (yP y b j)) = .ref (yP y b j)) (hfit : fits (ty0 k) (.ref (yP y b j)) = true)
    (hdg : decode cc pc = .ok (.putfield index, 3)) (kk : ∀ (y2 : Ly) (σ2 : St) (H1 : Heap) (locs1 : List Loc), K y2 σ2 → va_P D CL (ws g ad y2 σ2) H1 → va_D A0 (ws g ad y2 σ2) → va_S A0 s.heap H1 locs1 → W p l e R s m args below meth c H1 locs1 cells slots Q (F0 m (pc + 3) ls rest)) : W p l e R s m args below meth c H locs cells slots Q (F0 m pc ls (.ref (yP y b j) :: .ref (ad a) :: rest)) := by
  obtain ⟨⟨rfl, hj⟩, hal, hK⟩ := h
  have h99 : cl a ≠ 99 := fun q => by rw [hcl] at q; subst q; simp at hc
  obtain ⟨q0, hq, he⟩ := ws_at (g := g) (ad := ad) (y := y) (σ := σ) (mem_obj h99)
  rw [clv_o hcl] at he
  have hkn : k < nf (cl a) := kd_lt (by rw [hcl, hd]; decide) hs
  refine kp G hin ty0 hty hnm hP hD hS q0 he hc k hk hlink hsame hfin hn hfit ?_ hdg (fun H1 locs1 hP1 hD1 hS1 => ?_)
  · show k < (List.map _ (List.range (nf (cl a)))).length
    rw [List.length_map, List.length_range]; exact hkn
  · obtain ⟨hP2, hD2⟩ := yY_ws hs hcl hq hd ht hj hd2 ht2 hal hP1 hD1
    exact kk _ _ H1 locs1 hK hP2 hD2 hS1
end YR
