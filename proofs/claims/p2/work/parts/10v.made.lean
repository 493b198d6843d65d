/-! ===== Methods that may make rows: what they ask of the state also tells the rows' places and what has been made ===== -/
def wa_In_add (mc ms : Nat) (y : Ly) (Post : Ly → St → Int32 → Nat → Nat → Prop) (σ : St) (a0 : Nat) (v1 : Int32) : Prop :=
  ∃ k : Nat, sV σ a0 1 = nI k ∧ k ≤ yN y a0 0 ∧ yN y a0 0 < 33554432 ∧ mc = 1 ∧ ms = 2 * k + 8 ∧ (∀ b j, kd (cl b) j = 7 → sX σ b j ≠ (a0, 0)) ∧
    (k < yN y a0 0 → ∀ (q : Nat) (f : Nat → Int32), (∀ i, i < k → f i = sA σ a0 0 i) → f k = v1 → Post (w2 y.1 a0 0 q, w2 y.2 a0 0 (yN y a0 0)) (uV (uF σ a0 0 f) a0 1 (nI (k + 1))) (nI k) 0 0) ∧
    (¬ k < yN y a0 0 → ∀ (q : Nat) (f : Nat → Int32), (∀ i, i < k → f i = sA σ a0 0 i) → f k = v1 → Post (w2 y.1 a0 0 q, w2 y.2 a0 0 (2 * k + 8)) (uV (uF σ a0 0 f) a0 1 (nI (k + 1))) (nI k) 1 (2 * k + 8))
theorem fls_In {ad : Nat → Nat} {y : Ly} {σ : St} {a : Nat} (h : cl a = 3) : fls ad y σ a = [.ref (yP y a 0), .int (sV σ a 1)] := by
  show (List.range (nf (cl a))).map (fun k => fvl ad y σ a k (kd (cl a) k)) = _
  rw [h]; rfl
theorem clv_oth {g : Nat → ClassId} {ad : Nat → Nat} {y y' : Ly} {σ σ' : St} {a0 : Nat} (h_a0 : cl a0 = 3)
    (hV : ∀ z k, z ≠ a0 → sV σ' z k = sV σ z k) (hJ : sJ σ' = sJ σ) (hO : sO σ' = sO σ) (hX : sX σ' = sX σ) (hA : ∀ z k, (z = a0 → k ≠ 0) → sA σ' z k = sA σ z k) (hB : sB σ' = sB σ)
    (hp : ∀ z k, (z = a0 → k ≠ 0) → yP y' z k = yP y z k) (hq : ∀ z k, (z = a0 → k ≠ 0) → yN y' z k = yN y z k) (hal : ∀ b j, kd (cl b) j = 7 → sX σ b j ≠ (a0, 0))
    {x : Nat × Nat} (h1 : x ≠ (a0, 200)) (h2 : x ≠ (a0, 0)) : clv g ad y' σ' x = clv g ad y σ x := by
  show (if x.2 = 200 then _ else _) = (if x.2 = 200 then _ else _)
  by_cases hx : x.2 = 200
  · rw [if_pos hx, if_pos hx]
    have hne : x.1 ≠ a0 := fun q => h1 (Prod.ext q hx)
    have : fls ad y' σ' x.1 = fls ad y σ x.1 := by
      unfold fls
      apply List.map_congr_left
      intro j _
      unfold fvl
      rw [hV _ _ hne, hJ, hO, hX, hp _ _ (fun q => absurd q hne)]
      by_cases h7 : kd (cl x.1) j = 7
      · have hs := hal x.1 j h7
        have : yP y' (sX σ x.1 j).1 (sX σ x.1 j).2 = yP y (sX σ x.1 j).1 (sX σ x.1 j).2 := hp _ _ (fun q1 q2 => hs (Prod.ext q1 q2))
        rw [this]
      · by_cases h6 : kd (cl x.1) j ≤ 6
        · have c7 : kd (cl x.1) j = 0 ∨ kd (cl x.1) j = 1 ∨ kd (cl x.1) j = 2 ∨ kd (cl x.1) j = 3 ∨ kd (cl x.1) j = 4 ∨ kd (cl x.1) j = 5 ∨ kd (cl x.1) j = 6 := by omega
          rcases c7 with e | e | e | e | e | e | e <;> rw [e] <;> rfl
        · exfalso
          have hk : ∀ c, c < 16 → ∀ j, j < 131 → kd c j ≤ 7 ∨ kd c j = 9 := by decide +kernel
          rename_i hj
          have hj' := List.mem_range.mp hj
          have hc : cl x.1 < 16 := by
            apply Decidable.byContradiction
            intro q
            have := nf_big q
            omega
          have hj2 : j < 131 := Nat.lt_of_lt_of_le hj' ((show ∀ c, c < 16 → nf c ≤ 131 by decide +kernel) _ hc)
          have h9 : ∀ c, c < 16 → ∀ j, j < 131 → j < nf c → kd c j ≠ 9 := by decide +kernel
          rcases hk _ hc j hj2 with e | e
          · omega
          · exact h9 _ hc j hj2 hj' e
    rw [this]
  · rw [if_neg hx, if_neg hx]
    have hz : x.1 = a0 → x.2 ≠ 0 := fun q1 q2 => h2 (Prod.ext q1 q2)
    unfold rwd
    rw [hA _ _ hz, hB, hp _ _ hz, hq _ _ hz]
abbrev ra_In_add (mc ms : Nat) : Room := { frames := (rm_In_add_u 0).frames, cells := mc, slots := ms, locals := (rm_In_add_u 0).locals }
theorem ca_In_add (l : Launch) (D : va_G) (g : Nat → ClassId) (sl : List SL) (ad : Nat → Nat) (mc ms : Nat) (y : Ly) (Post : Ly → St → Int32 → Nat → Nat → Prop) (σ : St) (a0 : Nat) (v1 : Int32) (sz uz : Nat) (h_a0 : cl a0 = 3) (h : wa_In_add mc ms y Post σ a0 v1) :
    Met l y_In_add (mw y_In_add b_In_add 2 (some .int)) (ra_In_add mc ms) (PCu g D sl [.ref (ad a0), .int v1] sz uz (ws g ad y σ)) (va_Qi (fun (r : Int32) (u : Ly × St × Nat × Nat) => Post u.1 u.2.1 r u.2.2.1 u.2.2.2) (QU D (va_A (ws g ad y σ) sz) (fun u => ws g ad u.1 u.2.1) sz uz (fun u => u.2.2.1) (fun u => u.2.2.2)) (va_A (ws g ad y σ) sz)) mc ms (va_A (ws g ad y σ) sz) := by
  obtain ⟨k, hsv, hkn, hn25, rfl, rfl, hal, hA, hB⟩ := h
  have h99 : cl a0 ≠ 99 := by rw [h_a0]; decide
  obtain ⟨q0, hq0, he0⟩ := ws_at (g := g) (ad := ad) (y := y) (σ := σ) (mem_obj h99)
  obtain ⟨q1, hq1, -, he1⟩ := row_at (g := g) (ad := ad) (y := y) (σ0 := σ) (a := a0) (k := 0) (t := 2) (tk := 0) (kdp h_a0 rfl) (by decide) (by decide) (typ h_a0 rfl)
  rw [clv_o h_a0, fls_In h_a0, hsv] at he0
  have hr : rwd ad y σ a0 0 2 = (yN y a0 0, .inl (sA σ a0 0)) := rfl
  rw [hr] at he1
  have h01 : q0 ≠ q1 := fun q => by rw [q, hq1] at hq0; injection hq0 with z; injection z with _ z2; cases z2
  have hM := c_In_add_u l D g (ad a0) (yP y a0 0) (yN y a0 0) k (sA σ a0 0) v1 sz uz hkn hn25
  have hinj : ∀ {i j : Nat} {x : Nat × Nat}, cL[i]? = some x → cL[j]? = some x → i = j := fun a b => cL_inj a b
  refine MetFree.mono (show MetFree _ _ _ _ _ _ from hM) ?_ (fun _ _ _ _ _ h => h) ?_
  · rintro a s ⟨ha, ⟨hs, hP, hK, hD, hN, hX⟩, hu⟩
    refine ⟨ha, ⟨hs, hP.sub [q0, q1] (by simp only [List.filterMap_cons, List.filterMap_nil, he0, he1]), hK, ?_, hN, SX.nil⟩, hu⟩
    exact hD.sub [q0, q1] (by simp [va_nd, h01]) (by simp only [List.map_cons, List.map_nil, he0, he1])
  · rintro a s o t ⟨ha, ⟨hs, hP, hK, hD, hN, hX⟩, hu⟩ ⟨⟨⟨r, u, ho, hpost, ⟨hP1, hD1⟩, hg1, hg2⟩, hF⟩, L, hFE, hL⟩
    obtain ⟨p1, n1, f1⟩ := u
    obtain ⟨hr1, hc1, hv1, hf1, hgr⟩ := hpost
    have eo := hP1 0 _ rfl
    have er := hP1 1 _ rfl
    have hfree : ∀ q, va_A [(ad a0, (.inr (3, [.ref (yP y a0 0), .int (nI k)]) : va_E)), (yP y a0 0, .inl (g 0, yN y a0 0, .inl (sA σ a0 0)))] sz q → va_A (ws g ad y σ) sz q := by
      rintro q (⟨i, e, hi⟩ | h)
      · match i, hi with
        | 0, hi => injection hi with z; injection z with z1 z2; subst z1; exact Or.inl ⟨q0, _, he0⟩
        | 1, hi => injection hi with z; injection z with z1 z2; subst z1; exact Or.inl ⟨q1, _, he1⟩
        | (i + 2), hi => simp at hi
      · exact Or.inr h
    have hnot : ∀ (i : Nat) (x : Nat × Nat), cL[i]? = some x → x ≠ (a0, 200) → x ≠ (a0, 0) → ¬ va_A [(ad a0, (.inr (3, [.ref (yP y a0 0), .int (nI k)]) : va_E)), (yP y a0 0, .inl (g 0, yN y a0 0, .inl (sA σ a0 0)))] sz (clv g ad y σ x).1 := by
      intro i x hx h1 h2 hh
      have hxi : (ws g ad y σ)[i]? = some (clv g ad y σ x) := by show (cL.map _)[i]? = _; rw [List.getElem?_map, hx]; rfl
      rcases hh with ⟨j, e, hj⟩ | hh
      · match j, hj with
        | 0, hj =>
          injection hj with z; injection z with z1 z2
          have := hD.1 q0 i _ _ he0 hxi z1
          subst this; rw [hq0] at hx; injection hx with w; exact h1 w.symm
        | 1, hj =>
          injection hj with z; injection z with z1 z2
          have := hD.1 q1 i _ _ he1 hxi z1
          subst this; rw [hq1] at hx; injection hx with w; exact h2 w.symm
        | (j + 2), hj => simp at hj
      · have := (hP i _ hxi).lt
        omega
    have main : ∀ (y' : Ly) (σ' : St), (yP y' a0 0 = p1) → (yN y' a0 0 = n1) → (sA σ' a0 0 = f1) → (sV σ' a0 1 = nI (k + 1)) → (∀ x : Nat × Nat, x ≠ (a0, 200) → x ≠ (a0, 0) → clv g ad y' σ' x = clv g ad y σ x) → va_P D CL (ws g ad y' σ') t.heap ∧ va_D (va_A (ws g ad y σ) sz) (ws g ad y' σ') := by
      intro y' σ' e1 e2 e3 e4 hoth
      have co : clv g ad y' σ' (a0, 200) = (ad a0, .inr (3, [.ref p1, .int (nI (k + 1))])) := by rw [clv_o h_a0, fls_In h_a0, e1, e4]
      have cr : clv g ad y' σ' (a0, 0) = (p1, .inl (g 0, n1, .inl f1)) := by
        rw [clv_r (by decide), kdp (t := 2) h_a0 rfl, typ (t := 0) h_a0 rfl, e1]
        show (p1, Sum.inl (g 0, (yN y' a0 0, Sum.inl (sA σ' a0 0)))) = _
        rw [e2, e3]
      have hcell : ∀ (i : Nat) (z : Nat × va_E), (ws g ad y' σ')[i]? = some z → ∃ x, cL[i]? = some x ∧ z = clv g ad y' σ' x := by
        intro i z hz
        have hz' : (cL.map (clv g ad y' σ'))[i]? = some z := hz
        rw [List.getElem?_map] at hz'
        cases e : cL[i]? with
        | none => rw [e] at hz'; cases hz'
        | some x => rw [e] at hz'; injection hz' with w; exact ⟨x, rfl, w.symm⟩
      have hold : ∀ (i : Nat) (x : Nat × Nat), cL[i]? = some x → (ws g ad y σ)[i]? = some (clv g ad y σ x) := fun i x hx => by show (cL.map _)[i]? = _; rw [List.getElem?_map, hx]; rfl
      refine ⟨?_, ?_, ?_⟩
      · intro i z hz
        obtain ⟨x, hx, rfl⟩ := hcell i z hz
        by_cases h1 : x = (a0, 200)
        · subst h1; rw [co]; exact eo
        · by_cases h2 : x = (a0, 0)
          · subst h2; rw [cr]; exact er
          · rw [hoth x h1 h2]
            refine (hP i _ (hold i x hx)).kept (hF.2 _ ?_ ?_)
            · exact (hP i _ (hold i x hx)).lt
            · exact hnot i x hx h1 h2
      · intro i j z w hz hw hzw
        obtain ⟨x, hx, rfl⟩ := hcell i z hz
        obtain ⟨x', hx', rfl⟩ := hcell j w hw
        have hpa : ∀ (i : Nat) (x : Nat × Nat), cL[i]? = some x → x ≠ (a0, 0) → (clv g ad y' σ' x).1 = (clv g ad y σ x).1 := by
          intro i x hx h2
          by_cases h1 : x = (a0, 200)
          · subst h1; rw [co, clv_o h_a0]
          · rw [hoth x h1 h2]
        have hp1 : ∀ (i : Nat) (x : Nat × Nat), cL[i]? = some x → x ≠ (a0, 0) → (clv g ad y σ x).1 ≠ p1 := by
          intro i x hx h2 hh
          by_cases h1 : x = (a0, 200)
          · subst h1
            rw [clv_o h_a0] at hh
            have := hD1.1 0 1 _ _ rfl rfl hh
            cases this
          · have := hD1.2 1 _ rfl
            have this : va_A _ sz p1 := this
            rw [← hh] at this
            exact hnot i x hx h1 h2 this
        by_cases h2 : x = (a0, 0)
        · by_cases h2' : x' = (a0, 0)
          · subst h2; subst h2'; exact hinj hx hx'
          · exfalso
            subst h2
            rw [cr, hpa j x' hx' h2'] at hzw
            exact hp1 j x' hx' h2' hzw.symm
        · by_cases h2' : x' = (a0, 0)
          · exfalso
            subst h2'
            rw [cr, hpa i x hx h2] at hzw
            exact hp1 i x hx h2 hzw
          · rw [hpa i x hx h2, hpa j x' hx' h2'] at hzw
            exact hD.1 i j _ _ (hold i x hx) (hold j x' hx') hzw
      · intro i z hz
        obtain ⟨x, hx, rfl⟩ := hcell i z hz
        by_cases h2 : x = (a0, 0)
        · subst h2; rw [cr]; exact hfree _ (hD1.2 1 _ rfl)
        · by_cases h1 : x = (a0, 200)
          · subst h1; rw [co]; exact Or.inl ⟨q0, _, he0⟩
          · rw [hoth x h1 h2]; exact Or.inl ⟨i, _, hold i x hx⟩
    have hbF : va_F (va_A (ws g ad y σ) sz) s t := ⟨hF.1, fun q h1 h2 => hF.2 q h1 (fun h3 => h2 (hfree q h3))⟩
    refine ⟨⟨?_, hbF⟩, L, hFE, fun q hq => hfree _ (hL q hq)⟩
    by_cases hk : k < yN y a0 0
    · have e1 : n1 = yN y a0 0 := by rcases hgr with h | h; exact h.2; exact absurd hk h.1
      rw [if_pos hk] at hg1 hg2
      refine ⟨r, ((w2 y.1 a0 0 p1, w2 y.2 a0 0 n1), uV (uF σ a0 0 f1) a0 1 (nI (k + 1)), 0, 0), ho, ?_, ?_, hg1, hg2⟩
      · rw [hr1, e1]; exact hA hk p1 f1 hf1 hv1
      · exact main (w2 y.1 a0 0 p1, w2 y.2 a0 0 n1) (uV (uF σ a0 0 f1) a0 1 (nI (k + 1))) w2_eq w2_eq w2_eq w2_eq (fun x h1 h2 => clv_oth (y := y) (y' := (w2 y.1 a0 0 p1, w2 y.2 a0 0 n1)) (σ := σ) (σ' := uV (uF σ a0 0 f1) a0 1 (nI (k + 1))) h_a0 (fun z j hz => w2_ne (fun q => absurd q hz)) rfl rfl rfl (fun z j hz => w2_ne hz) rfl (fun z j hz => w2_ne hz) (fun z j hz => w2_ne hz) hal h1 h2)
    · have e1 : n1 = 2 * k + 8 := by rcases hgr with h | h; exact absurd h.1 hk; exact h.2
      rw [if_neg hk] at hg1 hg2
      refine ⟨r, ((w2 y.1 a0 0 p1, w2 y.2 a0 0 n1), uV (uF σ a0 0 f1) a0 1 (nI (k + 1)), 1, 2 * k + 8), ho, ?_, ?_, hg1, hg2⟩
      · rw [hr1, e1]; exact hB hk p1 f1 hf1 hv1
      · exact main (w2 y.1 a0 0 p1, w2 y.2 a0 0 n1) (uV (uF σ a0 0 f1) a0 1 (nI (k + 1))) w2_eq w2_eq w2_eq w2_eq (fun x h1 h2 => clv_oth (y := y) (y' := (w2 y.1 a0 0 p1, w2 y.2 a0 0 n1)) (σ := σ) (σ' := uV (uF σ a0 0 f1) a0 1 (nI (k + 1))) h_a0 (fun z j hz => w2_ne (fun q => absurd q hz)) rfl rfl rfl (fun z j hz => w2_ne hz) rfl (fun z j hz => w2_ne hz) (fun z j hz => w2_ne hz) hal h1 h2)
section UA
variable {p : Program} {l : Launch} {e : Env} {R : Room} {s : State} {m : MethodId} {args : Array Value} {below : List Frame} {meth : Method} {c : Code} {H : Heap} {locs : List Loc} {cells slots mc ms : Nat} {Q : State → Prop}
variable {cc : ByteArray} {pc nL : Nat} {ls : Array Slot} {rest st : List Value} {A0 : Nat → Prop} {y0 y1 : MethodName} {bytes : ByteArray} {maxL index : Nat} {ret r0 : Option FieldType} {rm : Room} {g : Nat → ClassId} {D : va_G} {sl : List SL} {As : List Value} {ad : Nat → Nat} {y : Ly} {σ : St} {b ci : Nat} {q : vw_C}
theorem uaVi {n : Nat} {Post : Ly → St → Int32 → Nat → Nat → Prop} (G : GV l p s m args meth c y0 cc nL r0 g D sl A0) (hP : va_P D CL (ws g ad y σ) H) (hD : va_D A0 (ws g ad y σ)) (hS : va_S A0 s.heap H locs)
    (hM : Met l y1 (mw y1 bytes maxL ret) rm (PCu g D [] (.ref (ad b) :: As) H.size (us H) (ws g ad y σ)) (va_Qi (fun (r : Int32) (u : Ly × St × Nat × Nat) => Post u.1 u.2.1 r u.2.2.1 u.2.2.2) (QU D (va_A (ws g ad y σ) H.size) (fun u => ws g ad u.1 u.2.1) H.size (us H) (fun u => u.2.2.1) (fun u => u.2.2.2)) (va_A (ws g ad y σ) H.size)) mc ms (va_A (ws g ad y σ) H.size))
    (w : CWv y1 bytes maxL ret n ∧ Cond.instanceMethod y1 ∈ lw_ok ∧ Cond.selects y1.cls y1 y1 ∈ lw_ok) (hl : Cond.methodLink y0.cls index y1 ∈ lw_ok) (hR : rm.frames + 1 ≤ R.frames ∧ 8 + (maxL + 11) + rm.locals ≤ R.locals) (hrc : rm.cells = mc) (hrs : rm.slots = ms) (hcl : cl b = ci) (hc : CL[ci]? = some q) (hqc : q.1 = y1.cls) (hsz : ls.size = nL) (hst : st = As.reverse ++ .ref (ad b) :: rest) (hroom : (rest.map fun v => v.category).sum ≤ 8) (hn : As.length = n) (hf : cells + mc ≤ R.cells ∧ slots + ms ≤ R.slots) (hdg : decode cc pc = .ok (.invokevirtual index, 3))
    (kk : ∀ (r : Int32) (y2 : Ly) (σ1 : St) (d1 d2 : Nat) (H1 : Heap) (locs1 : List Loc), Post y2 σ1 r d1 d2 → va_P D CL (ws g ad y2 σ1) H1 → va_D A0 (ws g ad y2 σ1) → va_S A0 s.heap H1 locs1 → W p l e R s m args below meth c H1 locs1 (cells + d1) (slots + d2) Q (F0 m (pc + 3) ls (.int r :: rest))) : W p l e R s m args below meth c H locs cells slots Q (F0 m pc ls st) := by
  have h99 : cl b ≠ 99 := fun z => by rw [hcl] at z; subst z; simp at hc
  obtain ⟨q0, -, he⟩ := ws_at (g := g) (ad := ad) (y := y) (σ := σ) (mem_obj h99)
  rw [clv_o hcl] at he
  refine kEiu (wr := []) G (kVu (As := As) (rest := rest) G hP hD hS (List.range cL.length) ws_all cL_nd hM w hl hrc hrs hR (fun _ h => absurd h List.not_mem_nil) q0 hc hqc he hsz hst hroom hn hf hdg) hP hD hS (List.range cL.length) [] ws_all rfl rfl rfl (fun r u H1 locs1 hw hP1 hD1 hS1 hz => ?_)
  exact kk r u.1 u.2.1 u.2.2.1 u.2.2.2 H1 locs1 hw hP1 hD1 hS1
theorem uaVv {n : Nat} {Post : Ly → St →  Nat → Nat → Prop} (G : GV l p s m args meth c y0 cc nL r0 g D sl A0) (hP : va_P D CL (ws g ad y σ) H) (hD : va_D A0 (ws g ad y σ)) (hS : va_S A0 s.heap H locs)
    (hM : Met l y1 (mw y1 bytes maxL ret) rm (PCu g D [] (.ref (ad b) :: As) H.size (us H) (ws g ad y σ)) (va_Qv (fun (u : Ly × St × Nat × Nat) => Post u.1 u.2.1 u.2.2.1 u.2.2.2) (QU D (va_A (ws g ad y σ) H.size) (fun u => ws g ad u.1 u.2.1) H.size (us H) (fun u => u.2.2.1) (fun u => u.2.2.2)) (va_A (ws g ad y σ) H.size)) mc ms (va_A (ws g ad y σ) H.size))
    (w : CWv y1 bytes maxL ret n ∧ Cond.instanceMethod y1 ∈ lw_ok ∧ Cond.selects y1.cls y1 y1 ∈ lw_ok) (hl : Cond.methodLink y0.cls index y1 ∈ lw_ok) (hR : rm.frames + 1 ≤ R.frames ∧ 8 + (maxL + 11) + rm.locals ≤ R.locals) (hrc : rm.cells = mc) (hrs : rm.slots = ms) (hcl : cl b = ci) (hc : CL[ci]? = some q) (hqc : q.1 = y1.cls) (hsz : ls.size = nL) (hst : st = As.reverse ++ .ref (ad b) :: rest) (hroom : (rest.map fun v => v.category).sum ≤ 8) (hn : As.length = n) (hf : cells + mc ≤ R.cells ∧ slots + ms ≤ R.slots) (hdg : decode cc pc = .ok (.invokevirtual index, 3))
    (kk : ∀ (y2 : Ly) (σ1 : St) (d1 d2 : Nat) (H1 : Heap) (locs1 : List Loc), Post y2 σ1 d1 d2 → va_P D CL (ws g ad y2 σ1) H1 → va_D A0 (ws g ad y2 σ1) → va_S A0 s.heap H1 locs1 → W p l e R s m args below meth c H1 locs1 (cells + d1) (slots + d2) Q (F0 m (pc + 3) ls (rest))) : W p l e R s m args below meth c H locs cells slots Q (F0 m pc ls st) := by
  have h99 : cl b ≠ 99 := fun z => by rw [hcl] at z; subst z; simp at hc
  obtain ⟨q0, -, he⟩ := ws_at (g := g) (ad := ad) (y := y) (σ := σ) (mem_obj h99)
  rw [clv_o hcl] at he
  refine kEvu (wr := []) G (kVu (As := As) (rest := rest) G hP hD hS (List.range cL.length) ws_all cL_nd hM w hl hrc hrs hR (fun _ h => absurd h List.not_mem_nil) q0 hc hqc he hsz hst hroom hn hf hdg) hP hD hS (List.range cL.length) [] ws_all rfl rfl rfl (fun u H1 locs1 hw hP1 hD1 hS1 hz => ?_)
  exact kk u.1 u.2.1 u.2.2.1 u.2.2.2 H1 locs1 hw hP1 hD1 hS1
theorem uaVl {n : Nat} {Post : Ly → St → Int64 → Nat → Nat → Prop} (G : GV l p s m args meth c y0 cc nL r0 g D sl A0) (hP : va_P D CL (ws g ad y σ) H) (hD : va_D A0 (ws g ad y σ)) (hS : va_S A0 s.heap H locs)
    (hM : Met l y1 (mw y1 bytes maxL ret) rm (PCu g D [] (.ref (ad b) :: As) H.size (us H) (ws g ad y σ)) (va_Ql (fun (r : Int64) (u : Ly × St × Nat × Nat) => Post u.1 u.2.1 r u.2.2.1 u.2.2.2) (QU D (va_A (ws g ad y σ) H.size) (fun u => ws g ad u.1 u.2.1) H.size (us H) (fun u => u.2.2.1) (fun u => u.2.2.2)) (va_A (ws g ad y σ) H.size)) mc ms (va_A (ws g ad y σ) H.size))
    (w : CWv y1 bytes maxL ret n ∧ Cond.instanceMethod y1 ∈ lw_ok ∧ Cond.selects y1.cls y1 y1 ∈ lw_ok) (hl : Cond.methodLink y0.cls index y1 ∈ lw_ok) (hR : rm.frames + 1 ≤ R.frames ∧ 8 + (maxL + 11) + rm.locals ≤ R.locals) (hrc : rm.cells = mc) (hrs : rm.slots = ms) (hcl : cl b = ci) (hc : CL[ci]? = some q) (hqc : q.1 = y1.cls) (hsz : ls.size = nL) (hst : st = As.reverse ++ .ref (ad b) :: rest) (hroom : (rest.map fun v => v.category).sum ≤ 8) (hn : As.length = n) (hf : cells + mc ≤ R.cells ∧ slots + ms ≤ R.slots) (hdg : decode cc pc = .ok (.invokevirtual index, 3))
    (kk : ∀ (r : Int64) (y2 : Ly) (σ1 : St) (d1 d2 : Nat) (H1 : Heap) (locs1 : List Loc), Post y2 σ1 r d1 d2 → va_P D CL (ws g ad y2 σ1) H1 → va_D A0 (ws g ad y2 σ1) → va_S A0 s.heap H1 locs1 → W p l e R s m args below meth c H1 locs1 (cells + d1) (slots + d2) Q (F0 m (pc + 3) ls (.long r :: rest))) : W p l e R s m args below meth c H locs cells slots Q (F0 m pc ls st) := by
  have h99 : cl b ≠ 99 := fun z => by rw [hcl] at z; subst z; simp at hc
  obtain ⟨q0, -, he⟩ := ws_at (g := g) (ad := ad) (y := y) (σ := σ) (mem_obj h99)
  rw [clv_o hcl] at he
  refine kElu (wr := []) G (kVu (As := As) (rest := rest) G hP hD hS (List.range cL.length) ws_all cL_nd hM w hl hrc hrs hR (fun _ h => absurd h List.not_mem_nil) q0 hc hqc he hsz hst hroom hn hf hdg) hP hD hS (List.range cL.length) [] ws_all rfl rfl rfl (fun r u H1 locs1 hw hP1 hD1 hS1 hz => ?_)
  exact kk r u.1 u.2.1 u.2.2.1 u.2.2.2 H1 locs1 hw hP1 hD1 hS1
theorem uaSi {n : Nat} {Post : Ly → St → Int32 → Nat → Nat → Prop} (G : GV l p s m args meth c y0 cc nL r0 g D sl A0) (hP : va_P D CL (ws g ad y σ) H) (hD : va_D A0 (ws g ad y σ)) (hS : va_S A0 s.heap H locs)
    (hM : Met l y1 (mw y1 bytes maxL ret) rm (PCu g D [] As H.size (us H) (ws g ad y σ)) (va_Qi (fun (r : Int32) (u : Ly × St × Nat × Nat) => Post u.1 u.2.1 r u.2.2.1 u.2.2.2) (QU D (va_A (ws g ad y σ) H.size) (fun u => ws g ad u.1 u.2.1) H.size (us H) (fun u => u.2.2.1) (fun u => u.2.2.2)) (va_A (ws g ad y σ) H.size)) mc ms (va_A (ws g ad y σ) H.size))
    (w : CWv y1 bytes maxL ret n ∧ Cond.static y1 ∈ lw_ok) (hl : Cond.methodLink y0.cls index y1 ∈ lw_ok) (hR : rm.frames + 1 ≤ R.frames ∧ 8 + (maxL + 11) + rm.locals ≤ R.locals) (hrc : rm.cells = mc) (hrs : rm.slots = ms) (hsz : ls.size = nL) (hst : st = As.reverse ++ rest) (hroom : (rest.map fun v => v.category).sum ≤ 8) (hn : As.length = n) (hf : cells + mc ≤ R.cells ∧ slots + ms ≤ R.slots) (hdg : decode cc pc = .ok (.invokestatic index, 3))
    (kk : ∀ (r : Int32) (y2 : Ly) (σ1 : St) (d1 d2 : Nat) (H1 : Heap) (locs1 : List Loc), Post y2 σ1 r d1 d2 → va_P D CL (ws g ad y2 σ1) H1 → va_D A0 (ws g ad y2 σ1) → va_S A0 s.heap H1 locs1 → W p l e R s m args below meth c H1 locs1 (cells + d1) (slots + d2) Q (F0 m (pc + 3) ls (.int r :: rest))) : W p l e R s m args below meth c H locs cells slots Q (F0 m pc ls st) := by
  refine kEiu (wr := []) G (kSu (As := As) (rest := rest) G hP hD hS (List.range cL.length) ws_all cL_nd hM w hl hrc hrs hR (fun _ h => absurd h List.not_mem_nil) hsz hst hroom hn hf hdg) hP hD hS (List.range cL.length) [] ws_all rfl rfl rfl (fun r u H1 locs1 hw hP1 hD1 hS1 hz => ?_)
  exact kk r u.1 u.2.1 u.2.2.1 u.2.2.2 H1 locs1 hw hP1 hD1 hS1
theorem uaSv {n : Nat} {Post : Ly → St →  Nat → Nat → Prop} (G : GV l p s m args meth c y0 cc nL r0 g D sl A0) (hP : va_P D CL (ws g ad y σ) H) (hD : va_D A0 (ws g ad y σ)) (hS : va_S A0 s.heap H locs)
    (hM : Met l y1 (mw y1 bytes maxL ret) rm (PCu g D [] As H.size (us H) (ws g ad y σ)) (va_Qv (fun (u : Ly × St × Nat × Nat) => Post u.1 u.2.1 u.2.2.1 u.2.2.2) (QU D (va_A (ws g ad y σ) H.size) (fun u => ws g ad u.1 u.2.1) H.size (us H) (fun u => u.2.2.1) (fun u => u.2.2.2)) (va_A (ws g ad y σ) H.size)) mc ms (va_A (ws g ad y σ) H.size))
    (w : CWv y1 bytes maxL ret n ∧ Cond.static y1 ∈ lw_ok) (hl : Cond.methodLink y0.cls index y1 ∈ lw_ok) (hR : rm.frames + 1 ≤ R.frames ∧ 8 + (maxL + 11) + rm.locals ≤ R.locals) (hrc : rm.cells = mc) (hrs : rm.slots = ms) (hsz : ls.size = nL) (hst : st = As.reverse ++ rest) (hroom : (rest.map fun v => v.category).sum ≤ 8) (hn : As.length = n) (hf : cells + mc ≤ R.cells ∧ slots + ms ≤ R.slots) (hdg : decode cc pc = .ok (.invokestatic index, 3))
    (kk : ∀ (y2 : Ly) (σ1 : St) (d1 d2 : Nat) (H1 : Heap) (locs1 : List Loc), Post y2 σ1 d1 d2 → va_P D CL (ws g ad y2 σ1) H1 → va_D A0 (ws g ad y2 σ1) → va_S A0 s.heap H1 locs1 → W p l e R s m args below meth c H1 locs1 (cells + d1) (slots + d2) Q (F0 m (pc + 3) ls (rest))) : W p l e R s m args below meth c H locs cells slots Q (F0 m pc ls st) := by
  refine kEvu (wr := []) G (kSu (As := As) (rest := rest) G hP hD hS (List.range cL.length) ws_all cL_nd hM w hl hrc hrs hR (fun _ h => absurd h List.not_mem_nil) hsz hst hroom hn hf hdg) hP hD hS (List.range cL.length) [] ws_all rfl rfl rfl (fun u H1 locs1 hw hP1 hD1 hS1 hz => ?_)
  exact kk u.1 u.2.1 u.2.2.1 u.2.2.2 H1 locs1 hw hP1 hD1 hS1
theorem uaSl {n : Nat} {Post : Ly → St → Int64 → Nat → Nat → Prop} (G : GV l p s m args meth c y0 cc nL r0 g D sl A0) (hP : va_P D CL (ws g ad y σ) H) (hD : va_D A0 (ws g ad y σ)) (hS : va_S A0 s.heap H locs)
    (hM : Met l y1 (mw y1 bytes maxL ret) rm (PCu g D [] As H.size (us H) (ws g ad y σ)) (va_Ql (fun (r : Int64) (u : Ly × St × Nat × Nat) => Post u.1 u.2.1 r u.2.2.1 u.2.2.2) (QU D (va_A (ws g ad y σ) H.size) (fun u => ws g ad u.1 u.2.1) H.size (us H) (fun u => u.2.2.1) (fun u => u.2.2.2)) (va_A (ws g ad y σ) H.size)) mc ms (va_A (ws g ad y σ) H.size))
    (w : CWv y1 bytes maxL ret n ∧ Cond.static y1 ∈ lw_ok) (hl : Cond.methodLink y0.cls index y1 ∈ lw_ok) (hR : rm.frames + 1 ≤ R.frames ∧ 8 + (maxL + 11) + rm.locals ≤ R.locals) (hrc : rm.cells = mc) (hrs : rm.slots = ms) (hsz : ls.size = nL) (hst : st = As.reverse ++ rest) (hroom : (rest.map fun v => v.category).sum ≤ 8) (hn : As.length = n) (hf : cells + mc ≤ R.cells ∧ slots + ms ≤ R.slots) (hdg : decode cc pc = .ok (.invokestatic index, 3))
    (kk : ∀ (r : Int64) (y2 : Ly) (σ1 : St) (d1 d2 : Nat) (H1 : Heap) (locs1 : List Loc), Post y2 σ1 r d1 d2 → va_P D CL (ws g ad y2 σ1) H1 → va_D A0 (ws g ad y2 σ1) → va_S A0 s.heap H1 locs1 → W p l e R s m args below meth c H1 locs1 (cells + d1) (slots + d2) Q (F0 m (pc + 3) ls (.long r :: rest))) : W p l e R s m args below meth c H locs cells slots Q (F0 m pc ls st) := by
  refine kElu (wr := []) G (kSu (As := As) (rest := rest) G hP hD hS (List.range cL.length) ws_all cL_nd hM w hl hrc hrs hR (fun _ h => absurd h List.not_mem_nil) hsz hst hroom hn hf hdg) hP hD hS (List.range cL.length) [] ws_all rfl rfl rfl (fun r u H1 locs1 hw hP1 hD1 hS1 hz => ?_)
  exact kk r u.1 u.2.1 u.2.2.1 u.2.2.2 H1 locs1 hw hP1 hD1 hS1
end UA
/-! two rows of an object change their names -/
def swL (y : Ly) (a k1 k2 : Nat) : Ly := (w2 (w2 y.1 a k1 (y.1 a k2)) a k2 (y.1 a k1), w2 (w2 y.2 a k1 (y.2 a k2)) a k2 (y.2 a k1))
def swS (σ : St) (a k1 k2 : Nat) : St := uF (uF σ a k1 (sA σ a k2)) a k2 (sA σ a k1)
theorem w2_12 {α : Type} {f : Nat → Nat → α} {a k1 k2 : Nat} {x z : α} (h : k1 ≠ k2) : w2 (w2 f a k1 x) a k2 z a k1 = x := by rw [w2_ne (fun _ => h), w2_eq]
def xW (y : Ly) (σ : St) (K : Ly → St → Prop) : Prop := K y σ
section SW
variable {p : Program} {l : Launch} {e : Env} {R : Room} {s : State} {m : MethodId} {args : Array Value} {below : List Frame} {meth : Method} {c : Code} {H : Heap} {locs : List Loc} {cells slots : Nat} {Q : State → Prop}
variable {cc : ByteArray} {pc : Nat} {ls : Array Slot} {rest : List Value} {A0 : Nat → Prop} {D : va_G} {y0 : MethodName} {nL : Nat} {r0 : Option FieldType} {g : Nat → ClassId} {sl : List SL} {ad : Nat → Nat} {y : Ly} {σ : St} {a : Nat}
theorem uswA {C ref : String} {T : u_T} {N cn index k1 k2 : Nat} (G : GV l p s m args meth c y0 cc nL r0 g D sl A0) (hP : va_P D CL (ws g ad y σ) H) (hD : va_D A0 (ws g ad y σ)) (hS : va_S A0 s.heap H locs) (hcl : cl a = cn) (hin : ∀ w ∈ u_ws C T N, w ∈ lw_ok) (ty0 : Nat → FieldType) (hty : ∀ k, k < N → parseFieldDescriptor (T k).2.2.1 = some (ty0 k)) (hnm : ∀ a, a < N → ∀ b, b < N → a ≠ b → (T a).2.1 ≠ (T b).2.1) (hc : CL[cn]? = some (C, T, N)) (hk : k1 < N) (hnf : nf cn = N) (hlink : Cond.fieldLink y0.cls index ref (T k1).2.1 (T k1).2.2.1 ∈ lw_ok) (hsame : (T k1).1 = ref) (hfin : (T k1).2.2.2 = false) (hn : narrow (ty0 k1) (.ref (yP y a k2)) = .ref (yP y a k2)) (hfit : fits (ty0 k1) (.ref (yP y a k2)) = true)
    (hdg : decode cc pc = .ok (.putfield index, 3)) (kk : ∀ (q0 : Nat) (H1 : Heap) (locs1 : List Loc), cL[q0]? = some (a, 200) → va_P D CL ((ws g ad y σ).set q0 (ad a, .inr (cn, (fls ad y σ a).set k1 (.ref (yP y a k2))))) H1 → va_D A0 ((ws g ad y σ).set q0 (ad a, .inr (cn, (fls ad y σ a).set k1 (.ref (yP y a k2))))) → va_S A0 s.heap H1 locs1 → W p l e R s m args below meth c H1 locs1 cells slots Q (F0 m (pc + 3) ls rest)) : W p l e R s m args below meth c H locs cells slots Q (F0 m pc ls (.ref (yP y a k2) :: .ref (ad a) :: rest)) := by
  have h99 : cl a ≠ 99 := fun q => by rw [hcl] at q; subst q; simp at hc
  obtain ⟨q0, hq, he⟩ := ws_at (g := g) (ad := ad) (y := y) (σ := σ) (mem_obj h99)
  rw [clv_o hcl] at he
  refine kp G hin ty0 hty hnm hP hD hS q0 he hc k1 hk hlink hsame hfin hn hfit ?_ hdg (fun H1 locs1 hP1 hD1 hS1 => kk q0 H1 locs1 hq hP1 hD1 hS1)
  show k1 < (List.map _ (List.range (nf (cl a)))).length
  rw [List.length_map, List.length_range, hcl, hnf]; exact hk
theorem kd7 {c j : Nat} (h : j < nf c) : kd c j ≤ 7 := by
  have hc : c < 16 := by
    apply Decidable.byContradiction
    intro q
    have := nf_big q
    omega
  have hj2 : j < 131 := Nat.lt_of_lt_of_le h ((show ∀ c, c < 16 → nf c ≤ 131 by decide +kernel) _ hc)
  exact (show ∀ c, c < 16 → ∀ j, j < 131 → j < nf c → kd c j ≤ 7 by decide +kernel) c hc j hj2 h
theorem sw_ws {cn k1 k2 q0 t : Nat} {A : Nat → Prop} (hs1 : k1 < 200) (hs2 : k2 < 200) (hcl : cl a = cn) (hq : cL[q0]? = some (a, 200)) (h12 : k1 ≠ k2) (hd1 : kd cn k1 = 2) (hd2 : kd cn k2 = 2) (ht1 : tyx cn k1 = t) (ht2 : tyx cn k2 = t) (hal : ∀ b j, kd (cl b) j = 7 → sX σ b j ≠ (a, k1) ∧ sX σ b j ≠ (a, k2))
    (hP : va_P D CL (((ws g ad y σ).set q0 (ad a, .inr (cn, (fls ad y σ a).set k1 (.ref (yP y a k2))))).set q0 (ad a, .inr (cn, ((fls ad y σ a).set k1 (.ref (yP y a k2))).set k2 (.ref (yP y a k1))))) H) (hD : va_D A (((ws g ad y σ).set q0 (ad a, .inr (cn, (fls ad y σ a).set k1 (.ref (yP y a k2))))).set q0 (ad a, .inr (cn, ((fls ad y σ a).set k1 (.ref (yP y a k2))).set k2 (.ref (yP y a k1)))))) :
    va_P D CL (ws g ad (swL y a k1 k2) (swS σ a k1 k2)) H ∧ va_D A (ws g ad (swL y a k1 k2) (swS σ a k1 k2)) := by
  have hd1' : kd (cl a) k1 = 2 := by rw [hcl]; exact hd1
  have hd2' : kd (cl a) k2 = 2 := by rw [hcl]; exact hd2
  obtain ⟨i1, hi1⟩ := List.mem_iff_getElem?.mp (mem_row (a := a) (k := k1) (by rw [hd1']; decide) (by rw [hd1']; decide))
  obtain ⟨i2, hi2⟩ := List.mem_iff_getElem?.mp (mem_row (a := a) (k := k2) (by rw [hd2']; decide) (by rw [hd2']; decide))
  have n1 : k1 ≠ 200 := row_ne (a := a) (by rw [hd1']; decide) (by rw [hd1']; decide)
  have n2 : k2 ≠ 200 := row_ne (a := a) (by rw [hd2']; decide) (by rw [hd2']; decide)
  have hlen : ∀ i, i < cL.length → q0 < cL.length := fun _ _ => (List.getElem?_eq_some_iff.mp hq).1
  have hq0 : q0 < cL.length := (List.getElem?_eq_some_iff.mp hq).1
  have e01 : q0 ≠ i1 := fun z => by rw [z, hi1] at hq; injection hq with w; injection w with _ w; exact n1 w
  have e02 : q0 ≠ i2 := fun z => by rw [z, hi2] at hq; injection hq with w; injection w with _ w; exact n2 w
  have old : ∀ (i : Nat) (x : Nat × Nat), cL[i]? = some x → i ≠ q0 → (((ws g ad y σ).set q0 (ad a, .inr (cn, (fls ad y σ a).set k1 (.ref (yP y a k2))))).set q0 (ad a, .inr (cn, ((fls ad y σ a).set k1 (.ref (yP y a k2))).set k2 (.ref (yP y a k1)))))[i]? = some (clv g ad y σ x) := by
    intro i x hx hne
    rw [List.getElem?_set_ne (fun z => hne z.symm), List.getElem?_set_ne (fun z => hne z.symm)]
    show (cL.map _)[i]? = _
    rw [List.getElem?_map, hx]; rfl
  have new : (((ws g ad y σ).set q0 (ad a, .inr (cn, (fls ad y σ a).set k1 (.ref (yP y a k2))))).set q0 (ad a, .inr (cn, ((fls ad y σ a).set k1 (.ref (yP y a k2))).set k2 (.ref (yP y a k1)))))[q0]? = some (ad a, .inr (cn, ((fls ad y σ a).set k1 (.ref (yP y a k2))).set k2 (.ref (yP y a k1)))) := by
    rw [List.getElem?_set_self]
    rw [List.length_set]
    show q0 < (cL.map _).length
    rw [List.length_map]; exact hq0
  have pE : ∀ z k, (z = a → k ≠ k1 ∧ k ≠ k2) → yP (swL y a k1 k2) z k = yP y z k ∧ yN (swL y a k1 k2) z k = yN y z k := fun z k h => ⟨by show w2 (w2 _ _ _ _) _ _ _ _ _ = _; rw [w2_ne (fun q => (h q).2), w2_ne (fun q => (h q).1)]; rfl, by show w2 (w2 _ _ _ _) _ _ _ _ _ = _; rw [w2_ne (fun q => (h q).2), w2_ne (fun q => (h q).1)]; rfl⟩
  have p1 : yP (swL y a k1 k2) a k1 = yP y a k2 := w2_12 h12
  have p2 : yP (swL y a k1 k2) a k2 = yP y a k1 := w2_eq
  have m1 : yN (swL y a k1 k2) a k1 = yN y a k2 := w2_12 h12
  have m2 : yN (swL y a k1 k2) a k2 = yN y a k1 := w2_eq
  have a1 : sA (swS σ a k1 k2) a k1 = sA σ a k2 := w2_12 h12
  have a2 : sA (swS σ a k1 k2) a k2 = sA σ a k1 := w2_eq
  have aE : ∀ z k, (z = a → k ≠ k1 ∧ k ≠ k2) → sA (swS σ a k1 k2) z k = sA σ z k := fun z k h => by show w2 (w2 _ _ _ _) _ _ _ _ _ = _; rw [w2_ne (fun q => (h q).2), w2_ne (fun q => (h q).1)]; rfl
  have fE : ∀ z k t, (z = a → k ≠ k1 ∧ k ≠ k2) → t = kd (cl z) k → t ≤ 7 → fvl ad (swL y a k1 k2) (swS σ a k1 k2) z k t = fvl ad y σ z k t := by
    intro z k t h ht h8
    unfold fvl
    rw [(pE z k h).1]
    by_cases h7 : t = 7
    · have hs := hal z k (ht ▸ h7)
      have : yP (swL y a k1 k2) (sX σ z k).1 (sX σ z k).2 = yP y (sX σ z k).1 (sX σ z k).2 := (pE _ _ (fun q => ⟨fun q1 => hs.1 (Prod.ext q q1), fun q1 => hs.2 (Prod.ext q q1)⟩)).1
      show (if t = 0 then _ else if t = 1 then _ else if t ≤ 4 then _ else if t = 5 then _ else if t = 6 then _ else Value.ref (yP (swL y a k1 k2) (sX σ z k).1 (sX σ z k).2)) = _
      rw [this]; rfl
    · by_cases h6 : t ≤ 6
      · have c7 : t = 0 ∨ t = 1 ∨ t = 2 ∨ t = 3 ∨ t = 4 ∨ t = 5 ∨ t = 6 := by omega
        rcases c7 with e | e | e | e | e | e | e <;> subst e <;> rfl
      · omega
  let π : Nat → Nat := fun i => if i = i1 then i2 else if i = i2 then i1 else i
  have e12 : i1 ≠ i2 := fun z => by rw [z, hi2] at hi1; injection hi1 with w; injection w with _ w; exact h12 w.symm
  have hπ : ∀ (i : Nat) (z : Nat × va_E), (ws g ad (swL y a k1 k2) (swS σ a k1 k2))[i]? = some z → (((ws g ad y σ).set q0 (ad a, .inr (cn, (fls ad y σ a).set k1 (.ref (yP y a k2))))).set q0 (ad a, .inr (cn, ((fls ad y σ a).set k1 (.ref (yP y a k2))).set k2 (.ref (yP y a k1)))))[π i]? = some z := by
    intro i z hz
    have hz' : (cL.map (clv g ad (swL y a k1 k2) (swS σ a k1 k2)))[i]? = some z := hz
    rw [List.getElem?_map] at hz'
    cases ex : cL[i]? with
    | none => rw [ex] at hz'; cases hz'
    | some x =>
      rw [ex] at hz'
      injection hz' with hz'
      subst hz'
      by_cases c1 : i = i1
      · subst c1
        rw [hi1] at ex; injection ex with ex; subst ex
        show (_ : List _)[if i = i then i2 else _]? = _
        rw [if_pos rfl, old i2 _ hi2 (fun z => e02 z.symm), clv_r n1, clv_r n2, hcl, hd1, hd2, ht1, ht2, p1]
        show some (yP y a k2, Sum.inl (g t, (yN y a k2, Sum.inl (sA σ a k2)))) = some (yP y a k2, Sum.inl (g t, (yN (swL y a k1 k2) a k1, Sum.inl (sA (swS σ a k1 k2) a k1))))
        rw [m1, a1]
      · by_cases c2 : i = i2
        · subst c2
          rw [hi2] at ex; injection ex with ex; subst ex
          show (_ : List _)[if i = i1 then _ else if i = i then i1 else _]? = _
          rw [if_neg c1, if_pos rfl, old i1 _ hi1 (fun z => e01 z.symm), clv_r n1, clv_r n2, hcl, hd1, hd2, ht1, ht2, p2]
          show some (yP y a k1, Sum.inl (g t, (yN y a k1, Sum.inl (sA σ a k1)))) = some (yP y a k1, Sum.inl (g t, (yN (swL y a k1 k2) a k2, Sum.inl (sA (swS σ a k1 k2) a k2))))
          rw [m2, a2]
        · show (_ : List _)[if i = i1 then _ else if i = i2 then i1 else i]? = _
          rw [if_neg c1, if_neg c2]
          by_cases c0 : i = q0
          · subst c0
            rw [hq] at ex; injection ex with ex; subst ex
            rw [new, clv_o hcl]
            have : ((fls ad y σ a).set k1 (.ref (yP y a k2))).set k2 (.ref (yP y a k1)) = fls ad (swL y a k1 k2) (swS σ a k1 k2) a := by
              apply List.ext_getElem?
              intro j
              show ((((List.range (nf (cl a))).map (fun k => fvl ad y σ a k (kd (cl a) k))).set k1 _).set k2 _)[j]? = ((List.range (nf (cl a))).map (fun k => fvl ad (swL y a k1 k2) (swS σ a k1 k2) a k (kd (cl a) k)))[j]?
              have hn1 : k1 < nf (cl a) := kd_lt (by rw [hd1']; decide) hs1
              have hn2 : k2 < nf (cl a) := kd_lt (by rw [hd2']; decide) hs2
              by_cases j2 : k2 = j
              · subst j2
                rw [List.getElem?_set_self (by rw [List.length_set, List.length_map, List.length_range]; exact hn2), List.getElem?_map, List.getElem?_range hn2]
                show _ = some (fvl ad (swL y a k1 k2) (swS σ a k1 k2) a k2 (kd (cl a) k2))
                rw [hd2']
                show _ = some (Value.ref (yP (swL y a k1 k2) a k2))
                rw [p2]
              · rw [List.getElem?_set_ne j2]
                by_cases j1 : k1 = j
                · subst j1
                  rw [List.getElem?_set_self (by rw [List.length_map, List.length_range]; exact hn1), List.getElem?_map, List.getElem?_range hn1]
                  show _ = some (fvl ad (swL y a k1 k2) (swS σ a k1 k2) a k1 (kd (cl a) k1))
                  rw [hd1']
                  show _ = some (Value.ref (yP (swL y a k1 k2) a k1))
                  rw [p1]
                · rw [List.getElem?_set_ne j1, List.getElem?_map, List.getElem?_map]
                  cases er : (List.range (nf (cl a)))[j]? with
                  | none => rfl
                  | some j' =>
                    have hl := (List.getElem?_eq_some_iff.mp er).1
                    rw [List.length_range] at hl
                    have hj : j' = j := by
                      rw [List.getElem?_range hl] at er
                      exact (Option.some.inj er).symm
                    subst hj
                    exact congrArg some (fE a j' _ (fun _ => ⟨fun z => j1 z.symm, fun z => j2 z.symm⟩) rfl (kd7 hl)).symm
            rw [this]
          · rw [old i x ex c0]
            have x0 : x ≠ (a, 200) := fun z => c0 (cL_inj ex (z ▸ hq))
            have x1 : x ≠ (a, k1) := fun z => c1 (cL_inj ex (z ▸ hi1))
            have x2 : x ≠ (a, k2) := fun z => c2 (cL_inj ex (z ▸ hi2))
            refine congrArg some ?_
            show (if x.2 = 200 then _ else _) = (if x.2 = 200 then _ else _)
            by_cases hx : x.2 = 200
            · rw [if_pos hx, if_pos hx]
              have hne : x.1 ≠ a := fun q => x0 (Prod.ext q hx)
              have : fls ad (swL y a k1 k2) (swS σ a k1 k2) x.1 = fls ad y σ x.1 := by
                unfold fls
                apply List.map_congr_left
                intro j hj
                exact fE x.1 j _ (fun q => absurd q hne) rfl (kd7 (List.mem_range.mp hj))
              rw [this]
            · rw [if_neg hx, if_neg hx]
              have hz : x.1 = a → x.2 ≠ k1 ∧ x.2 ≠ k2 := fun q => ⟨fun w => x1 (Prod.ext q w), fun w => x2 (Prod.ext q w)⟩
              unfold rwd
              rw [(pE _ _ hz).1, (pE _ _ hz).2, aE _ _ hz]
              rfl
  have hinj : ∀ i j : Nat, π i = π j → i = j := by
    intro i j h
    have h' : (if i = i1 then i2 else if i = i2 then i1 else i) = (if j = i1 then i2 else if j = i2 then i1 else j) := h
    by_cases a1 : i = i1
    · rw [if_pos a1] at h'
      by_cases b1 : j = i1
      · omega
      · rw [if_neg b1] at h'
        by_cases b2 : j = i2
        · rw [if_pos b2] at h'; omega
        · rw [if_neg b2] at h'; omega
    · rw [if_neg a1] at h'
      by_cases a2 : i = i2
      · rw [if_pos a2] at h'
        by_cases b1 : j = i1
        · rw [if_pos b1] at h'; omega
        · rw [if_neg b1] at h'
          by_cases b2 : j = i2
          · omega
          · rw [if_neg b2] at h'; omega
      · rw [if_neg a2] at h'
        by_cases b1 : j = i1
        · rw [if_pos b1] at h'; omega
        · rw [if_neg b1] at h'
          by_cases b2 : j = i2
          · rw [if_pos b2] at h'; omega
          · rw [if_neg b2] at h'; exact h'
  exact ⟨hP.by π hπ, hD.by π hπ (fun i j _ _ h => hinj i j h)⟩
end SW
