/-- what ClassWorksModel() leaves -/
def MOp (g : Nat → ClassId) (h1 : Nat) (u : va_W) : Prop := ∃ (fs : List Value) (r6 r8 r38 : Int32) (q39 q40 q41 q44 q48 q84 q126 q127 q128 v0 v1 v2 v3 : Nat) (w0 w1 w2 w3 : va_W), u = (h1, .inr (14, fs)) :: row_c g q44 6 4 (va_up (va_up (va_up (va_up (fun _ => none) 0 (some v0)) 1 (some v1)) 2 (some v2)) 3 (some v3)) :: (w3 ++ (w2 ++ (w1 ++ (w0 ++ [(q128, .inl (g 0, 256, .inl (fun _ => nI 0))), (q127, .inl (g 0, 256, .inl (fun _ => nI 0))), (q126, .inl (g 0, 256, .inl (fun _ => nI 0))), (q84, .inl (g 1, 6000, .inl (fun _ => nI 0))), (q48, .inr (15, [])), (q41, .inl (g 0, 6002, .inl (fun _ => nI 0))), (q40, .inl (g 0, 6002, .inl (fun _ => nI 0))), (q39, .inl (g 1, 6002, .inl (fun _ => nI 0)))])))) ∧ mo_F fs r6 r8 r38 q39 q40 q41 q44 q48 q84 q126 q127 q128 ∧ WorP g v0 w0 ∧ WorP g v1 w1 ∧ WorP g v2 w2 ∧ WorP g v3 w3
set_option maxHeartbeats 4000000 in
set_option maxRecDepth 100000 in
/-- ClassWorksModel() -/
theorem c_Mo_init (l : Launch) (D : va_G) (g : Nat → ClassId) (h1 : Nat) (K V : Nat → Nat) (sz : Nat) (hst : l.stackTraces = false) : Met l y_Mo_init (mw y_Mo_init b_Mo_init 3 none) rm_Mo_init (PC g D (sl_Mo K V) [.ref h1] sz [(h1, .inr (14, Zs))]) (va_Qv (fun u : va_W => MOp g h1 u) (QW D (va_A [(h1, .inr (14, Zs))] sz) (fun u : va_W => u)) (va_A [(h1, .inr (14, Zs))] sz)) 398 310546 (va_A [(h1, .inr (14, Zs))] sz) := by
  refine ofV (by decide +kernel) (Nat.le_of_ble_eq_true rfl) ?_
  intro p e s m args below meth c A Q ls H locs G hsz hP hD hS hl hret
  subst hsz
  have hl : lv_has ls 3 [(0, .ref h1)] := hl
  refine mo_p1 K V G hP hD hS hl (fun fs r6 r8 H locs l0 g6 g8 hz hP hD hS => ?_)
  refine mo_p2 G hP hD hS hl l0 g6 g8 hz (fun fs r6 r8 r38 H locs l0 g6 g8 g38 hz hP hD hS => ?_)
  refine mo_p3 K V hst G hP hD hS hl l0 g6 g8 g38 hz (fun fs r6 r8 r38 q39 q40 q41 q44 q48 q84 q126 q127 q128 H locs hF hP hD hS => ?_)
  obtain ⟨X0, hX0⟩ : ∃ z : va_W, z = [(q128, .inl (g 0, 256, .inl (fun _ => nI 0))), (q127, .inl (g 0, 256, .inl (fun _ => nI 0))), (q126, .inl (g 0, 256, .inl (fun _ => nI 0))), (q84, .inl (g 1, 6000, .inl (fun _ => nI 0))), (q48, .inr (15, [])), (q41, .inl (g 0, 6002, .inl (fun _ => nI 0))), (q40, .inl (g 0, 6002, .inl (fun _ => nI 0))), (q39, .inl (g 1, 6002, .inl (fun _ => nI 0)))] := ⟨_, rfl⟩
  have hP : va_P D CL ((h1, .inr (14, fs)) :: row_c g q44 6 4 (fun _ => none) :: X0) H := by rw [hX0]; exact hP.sub [0, 6, 1, 2, 3, 4, 5, 7, 8, 9] rfl
  have hD : va_D A ((h1, .inr (14, fs)) :: row_c g q44 6 4 (fun _ => none) :: X0) := by rw [hX0]; exact hD.sub [0, 6, 1, 2, 3, 4, 5, 7, 8, 9] (by decide) rfl
  have h44 : fs[44]? = some (.ref q44) := hF.2.2.2.2.2.2.2.2.2.1
  refine lv_iconst (v := nI 0) G.1 G.2.1 d_Mo_init_755 (by decide) ?_
  refine lv_istore_n (lv' := [(1, .int (nI 0)), (0, .ref h1)]) G.1 G.2.1 d_Mo_init_756 rfl hl (by decide) rfl (fun ls hl => ?_)
  refine lv_iload_n G.1 G.2.1 d_Mo_init_757 rfl (lv_at hl 0 rfl) ?_
  refine lv_iconst (v := nI 3) G.1 G.2.1 d_Mo_init_758 (by decide) ?_
  refine lv_icmp_gt (tgt := 812) G.1 G.2.1 d_Mo_init_759 (by decide) (fun c759 => absurd c759 (by decide)) (fun c759 => ?_)
  refine mo_world (cells := 58) (slots := 103198) (i := 0) (X := X0) G hP hD hS hl h44 (by decide) (Nat.le_of_ble_eq_true rfl) (Nat.le_of_ble_eq_true rfl) (fun v0 w0 H locs ls hw0 hl hP hD hS => ?_)
  refine lv_iinc (v := nI 1) (lv' := [(1, .int (nI 1)), (0, .ref h1)]) G.1 G.2.1 d_Mo_init_806 hl (k := 0) rfl (show (nI 0) + Int32.ofInt 1 = nI 1 from by decide) (by decide) rfl (fun ls hl => ?_)
  refine lv_goto (tgt := 757) G.1 G.2.1 d_Mo_init_809 (by decide) ?_
  refine lv_iload_n G.1 G.2.1 d_Mo_init_757 rfl (lv_at hl 0 rfl) ?_
  refine lv_iconst (v := nI 3) G.1 G.2.1 d_Mo_init_758 (by decide) ?_
  refine lv_icmp_gt (tgt := 812) G.1 G.2.1 d_Mo_init_759 (by decide) (fun c759 => absurd c759 (by decide)) (fun c759 => ?_)
  refine mo_world (cells := 143) (slots := 155035) (i := 1) (X := (w0 ++ X0)) G hP hD hS hl h44 (by decide) (Nat.le_of_ble_eq_true rfl) (Nat.le_of_ble_eq_true rfl) (fun v1 w1 H locs ls hw1 hl hP hD hS => ?_)
  refine lv_iinc (v := nI 2) (lv' := [(1, .int (nI 2)), (0, .ref h1)]) G.1 G.2.1 d_Mo_init_806 hl (k := 0) rfl (show (nI 1) + Int32.ofInt 1 = nI 2 from by decide) (by decide) rfl (fun ls hl => ?_)
  refine lv_goto (tgt := 757) G.1 G.2.1 d_Mo_init_809 (by decide) ?_
  refine lv_iload_n G.1 G.2.1 d_Mo_init_757 rfl (lv_at hl 0 rfl) ?_
  refine lv_iconst (v := nI 3) G.1 G.2.1 d_Mo_init_758 (by decide) ?_
  refine lv_icmp_gt (tgt := 812) G.1 G.2.1 d_Mo_init_759 (by decide) (fun c759 => absurd c759 (by decide)) (fun c759 => ?_)
  refine mo_world (cells := 228) (slots := 206872) (i := 2) (X := (w1 ++ (w0 ++ X0))) G hP hD hS hl h44 (by decide) (Nat.le_of_ble_eq_true rfl) (Nat.le_of_ble_eq_true rfl) (fun v2 w2 H locs ls hw2 hl hP hD hS => ?_)
  refine lv_iinc (v := nI 3) (lv' := [(1, .int (nI 3)), (0, .ref h1)]) G.1 G.2.1 d_Mo_init_806 hl (k := 0) rfl (show (nI 2) + Int32.ofInt 1 = nI 3 from by decide) (by decide) rfl (fun ls hl => ?_)
  refine lv_goto (tgt := 757) G.1 G.2.1 d_Mo_init_809 (by decide) ?_
  refine lv_iload_n G.1 G.2.1 d_Mo_init_757 rfl (lv_at hl 0 rfl) ?_
  refine lv_iconst (v := nI 3) G.1 G.2.1 d_Mo_init_758 (by decide) ?_
  refine lv_icmp_gt (tgt := 812) G.1 G.2.1 d_Mo_init_759 (by decide) (fun c759 => absurd c759 (by decide)) (fun c759 => ?_)
  refine mo_world (cells := 313) (slots := 258709) (i := 3) (X := (w2 ++ (w1 ++ (w0 ++ X0)))) G hP hD hS hl h44 (by decide) (Nat.le_of_ble_eq_true rfl) (Nat.le_of_ble_eq_true rfl) (fun v3 w3 H locs ls hw3 hl hP hD hS => ?_)
  refine lv_iinc (v := nI 4) (lv' := [(1, .int (nI 4)), (0, .ref h1)]) G.1 G.2.1 d_Mo_init_806 hl (k := 0) rfl (show (nI 3) + Int32.ofInt 1 = nI 4 from by decide) (by decide) rfl (fun ls hl => ?_)
  refine lv_goto (tgt := 757) G.1 G.2.1 d_Mo_init_809 (by decide) ?_
  refine lv_iload_n G.1 G.2.1 d_Mo_init_757 rfl (lv_at hl 0 rfl) ?_
  refine lv_iconst (v := nI 3) G.1 G.2.1 d_Mo_init_758 (by decide) ?_
  refine lv_icmp_gt (tgt := 812) G.1 G.2.1 d_Mo_init_759 (by decide) (fun c759 => ?_) (fun c759 => absurd c759 (by decide))
  rw [hX0] at hP hD
  exact hret _ _ _ _ _ _ ls ⟨fs, r6, r8, r38, q39, q40, q41, q44, q48, q84, q126, q127, q128, v0, v1, v2, v3, w0, w1, w2, w3, rfl, hF, hw0, hw1, hw2, hw3⟩ hP hD hS (Nat.le_of_ble_eq_true rfl) (Nat.le_of_ble_eq_true rfl) d_Mo_init_812
