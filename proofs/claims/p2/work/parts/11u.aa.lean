theorem w9_In_add : CWv y_In_add b_In_add 2 (some .int) 1 ∧ Cond.instanceMethod y_In_add ∈ lw_ok ∧ Cond.selects y_In_add.cls y_In_add y_In_add ∈ lw_ok := ⟨⟨q472, q331, by decide +kernel, by decide +kernel, by decide +kernel⟩, q470, q471⟩
theorem w9_Na_isSame : CWv y_Na_isSame b_Na_isSame 7 (some (.boolean)) 4 ∧ Cond.instanceMethod y_Na_isSame ∈ lw_ok ∧ Cond.selects y_Na_isSame.cls y_Na_isSame y_Na_isSame ∈ lw_ok := ⟨⟨q468, q330, by decide +kernel, by decide +kernel, by decide +kernel⟩, q467, q1⟩
abbrev ra_Na_number (mc ms : Nat) : Room := { frames := 5, cells := mc, slots := ms, locals := 421 }
def wba_Na_number_148 (mc ms : Nat) (Post : Ly → St → Int32 → Nat → Nat → Prop) (K_148 : Ly → St → Nat → Nat → Int32 → Int32 → Int32 → Prop) (a0 : Nat) (a1 : Nat) (k1 : Nat) (y_h148 : Ly) (s_h148 : St) (d_h148 e_h148 : Nat) (x2h148 : Int32) (x3h148 : Int32) (x5h148 : Int32) : Prop := (d_h148 ≤ mc ∧ e_h148 ≤ ms) ∧ (((x2h148 + x3h148) ≤ x5h148 → Post y_h148 s_h148 ((sV s_h148 (lk a0 3) 1) - 1) d_h148 e_h148) ∧ (¬ ((x2h148 + x3h148) ≤ x5h148) → xA y_h148 s_h148 a1 k1 x5h148 (fun x_31 : Int32 => ∃ mc_37 ms_38 : Nat, (d_h148 + mc_37 ≤ mc ∧ e_h148 + ms_38 ≤ ms) ∧ wa_In_add mc_37 ms_38 y_h148 (fun (y_34 : Ly) (s_33 : St) (r_32 : Int32) (d_35 e_36 : Nat) => (d_h148 + d_35 ≤ mc ∧ e_h148 + e_36 ≤ ms) ∧ yP y_h148 a1 k1 = yP y_34 a1 k1 ∧ K_148 y_34 s_33 (d_h148 + d_35) (e_h148 + e_36) x2h148 x3h148 (x5h148 + 1)) s_h148 (lk a0 0) x_31)))
def wla_Na_number_148 (mc ms : Nat) (Post : Ly → St → Int32 → Nat → Nat → Prop) (a0 : Nat) (a1 : Nat) (k1 : Nat) (y_h148 : Ly) (s_h148 : St) (d_h148 e_h148 : Nat) (x2h148 : Int32) (x3h148 : Int32) (x5h148 : Int32) : Prop := ∃ (I : Ly → St → Nat → Nat → Int32 → Int32 → Int32 → Prop) (μ : Ly → St → Nat → Nat → Int32 → Int32 → Int32 → Nat), I y_h148 s_h148 d_h148 e_h148 x2h148 x3h148 x5h148 ∧ ∀ (u1 : Ly) (u2 : St) (u3 u4 : Nat) (t0 : Int32) (t1 : Int32) (t2 : Int32), I u1 u2 u3 u4 t0 t1 t2 → wba_Na_number_148 mc ms Post (fun z1 z2 z3 z4 t0q t1q t2q => I z1 z2 z3 z4 t0q t1q t2q ∧ μ z1 z2 z3 z4 t0q t1q t2q < μ u1 u2 u3 u4 t0 t1 t2) a0 a1 k1 u1 u2 u3 u4 t0 t1 t2
def wba_Na_number_55 (mc ms : Nat) (Post : Ly → St → Int32 → Nat → Nat → Prop) (K_55 : Ly → St → Nat → Nat → Int32 → Int32 → Int32 → Int32 → Prop) (a0 : Nat) (a1 : Nat) (k1 : Nat) (y_h55 : Ly) (s_h55 : St) (d_h55 e_h55 : Nat) (x2h55 : Int32) (x3h55 : Int32) (x4h55 : Int32) (x5h55 : Int32) : Prop := (d_h55 ≤ mc ∧ e_h55 ≤ ms) ∧ ((x5h55 < 0 → ∃ mc_7 ms_8 : Nat, (d_h55 + mc_7 ≤ mc ∧ e_h55 + ms_8 ≤ ms) ∧ wa_In_add mc_7 ms_8 y_h55 (fun (y_4 : Ly) (s_3 : St) (r_2 : Int32) (d_5 e_6 : Nat) => (d_h55 + d_5 ≤ mc ∧ e_h55 + e_6 ≤ ms) ∧ yP y_h55 a1 k1 = yP y_4 a1 k1 ∧ ∃ mc_16 ms_17 : Nat, (d_h55 + d_5 + mc_16 ≤ mc ∧ e_h55 + e_6 + ms_17 ≤ ms) ∧ wa_In_add mc_16 ms_17 y_4 (fun (y_13 : Ly) (s_12 : St) (r_11 : Int32) (d_14 e_15 : Nat) => (d_h55 + d_5 + d_14 ≤ mc ∧ e_h55 + e_6 + e_15 ≤ ms) ∧ yP y_4 a1 k1 = yP y_13 a1 k1 ∧ xA y_13 s_12 a0 4 x4h55 (fun x_20 : Int32 => ∃ mc_26 ms_27 : Nat, (d_h55 + d_5 + d_14 + mc_26 ≤ mc ∧ e_h55 + e_6 + e_15 + ms_27 ≤ ms) ∧ wa_In_add mc_26 ms_27 y_13 (fun (y_23 : Ly) (s_22 : St) (r_21 : Int32) (d_24 e_25 : Nat) => (d_h55 + d_5 + d_14 + d_24 ≤ mc ∧ e_h55 + e_6 + e_15 + e_25 ≤ ms) ∧ yP y_13 a1 k1 = yP y_23 a1 k1 ∧ xS y_23 s_22 a0 4 x4h55 ((sV s_22 (lk a0 3) 1) - 1) (fun s_30 : St => wla_Na_number_148 mc ms Post a0 a1 k1 y_23 s_30 (d_h55 + d_5 + d_14 + d_24) (e_h55 + e_6 + e_15 + e_25) x2h55 x3h55 x2h55)) s_12 (lk a0 3) x_20)) s_3 (lk a0 2) x3h55) s_h55 (lk a0 1) (sV s_h55 (lk a0 0) 1)) ∧ (¬ (x5h55 < 0) → wu_Na_isSame y_h55 (fun (s_42 : St) (r_41 : Int32) => ((r_41 = 0 → xA y_h55 s_42 (lk a0 3) 0 x5h55 (fun x_43 : Int32 => K_55 y_h55 s_42 d_h55 e_h55 x2h55 x3h55 x4h55 x_43)) ∧ (¬ (r_41 = 0) → Post y_h55 s_42 x5h55 d_h55 e_h55))) s_h55 a0 x5h55 a1 k1 x2h55 x3h55))
def wla_Na_number_55 (mc ms : Nat) (Post : Ly → St → Int32 → Nat → Nat → Prop) (a0 : Nat) (a1 : Nat) (k1 : Nat) (y_h55 : Ly) (s_h55 : St) (d_h55 e_h55 : Nat) (x2h55 : Int32) (x3h55 : Int32) (x4h55 : Int32) (x5h55 : Int32) : Prop := ∃ (I : Ly → St → Nat → Nat → Int32 → Int32 → Int32 → Int32 → Prop) (μ : Ly → St → Nat → Nat → Int32 → Int32 → Int32 → Int32 → Nat), I y_h55 s_h55 d_h55 e_h55 x2h55 x3h55 x4h55 x5h55 ∧ ∀ (u1 : Ly) (u2 : St) (u3 u4 : Nat) (t0 : Int32) (t1 : Int32) (t2 : Int32) (t3 : Int32), I u1 u2 u3 u4 t0 t1 t2 t3 → wba_Na_number_55 mc ms Post (fun z1 z2 z3 z4 t0q t1q t2q t3q => I z1 z2 z3 z4 t0q t1q t2q t3q ∧ μ z1 z2 z3 z4 t0q t1q t2q t3q < μ u1 u2 u3 u4 t0 t1 t2 t3) a0 a1 k1 u1 u2 u3 u4 t0 t1 t2 t3
def wba_Na_number_6 (mc ms : Nat) (Post : Ly → St → Int32 → Nat → Nat → Prop) (K_6 : Ly → St → Nat → Nat → Int32 → Int32 → Int32 → Int32 → Prop) (a0 : Nat) (a1 : Nat) (k1 : Nat) (y_h6 : Ly) (s_h6 : St) (d_h6 e_h6 : Nat) (x2h6 : Int32) (x3h6 : Int32) (x4h6 : Int32) (x5h6 : Int32) : Prop := (d_h6 ≤ mc ∧ e_h6 ≤ ms) ∧ (((x2h6 + x3h6) ≤ x5h6 → xA y_h6 s_h6 a0 4 ((x4h6 ^^^ ((x4h6.toUInt32 >>> ((8 : Int32).toUInt32 &&& Int32.toUInt32 31)).toInt32)) &&& 255) (fun x_1 : Int32 => wla_Na_number_55 mc ms Post a0 a1 k1 y_h6 s_h6 d_h6 e_h6 x2h6 x3h6 ((x4h6 ^^^ ((x4h6.toUInt32 >>> ((8 : Int32).toUInt32 &&& Int32.toUInt32 31)).toInt32)) &&& 255) x_1)) ∧ (¬ ((x2h6 + x3h6) ≤ x5h6) → xA y_h6 s_h6 a1 k1 x5h6 (fun x_44 : Int32 => K_6 y_h6 s_h6 d_h6 e_h6 x2h6 x3h6 ((x4h6 * 31) + x_44) (x5h6 + 1))))
def wla_Na_number_6 (mc ms : Nat) (Post : Ly → St → Int32 → Nat → Nat → Prop) (a0 : Nat) (a1 : Nat) (k1 : Nat) (y_h6 : Ly) (s_h6 : St) (d_h6 e_h6 : Nat) (x2h6 : Int32) (x3h6 : Int32) (x4h6 : Int32) (x5h6 : Int32) : Prop := ∃ (I : Ly → St → Nat → Nat → Int32 → Int32 → Int32 → Int32 → Prop) (μ : Ly → St → Nat → Nat → Int32 → Int32 → Int32 → Int32 → Nat), I y_h6 s_h6 d_h6 e_h6 x2h6 x3h6 x4h6 x5h6 ∧ ∀ (u1 : Ly) (u2 : St) (u3 u4 : Nat) (t0 : Int32) (t1 : Int32) (t2 : Int32) (t3 : Int32), I u1 u2 u3 u4 t0 t1 t2 t3 → wba_Na_number_6 mc ms Post (fun z1 z2 z3 z4 t0q t1q t2q t3q => I z1 z2 z3 z4 t0q t1q t2q t3q ∧ μ z1 z2 z3 z4 t0q t1q t2q t3q < μ u1 u2 u3 u4 t0 t1 t2 t3) a0 a1 k1 u1 u2 u3 u4 t0 t1 t2 t3
def wa_Na_number (mc ms : Nat) (y : Ly) (Post : Ly → St → Int32 → Nat → Nat → Prop) (σ : St) (a0 : Nat) (a1 : Nat) (k1 : Nat) (v2 : Int32) (v3 : Int32) : Prop := wla_Na_number_6 mc ms Post a0 a1 k1 y σ 0 0 v2 v3 v3 v2
set_option maxHeartbeats 4000000 in
set_option maxRecDepth 100000 in
theorem ca_Na_number (l : Launch) (D : va_G) (g : Nat → ClassId) (ad : Nat → Nat) (mc ms : Nat) (y : Ly) (Post : Ly → St → Int32 → Nat → Nat → Prop) (σ : St) (a0 : Nat) (a1 : Nat) (k1 : Nat) (v2 : Int32) (v3 : Int32) (sz uz : Nat) (h_a0 : cl a0 = 5) (h_a1 : kd (cl a1) k1 = 2 ∧ tyx (cl a1) k1 = 1) (h : wa_Na_number mc ms y Post σ a0 a1 k1 v2 v3) : Met l y_Na_number (mw y_Na_number b_Na_number 6 (some .int)) (ra_Na_number mc ms) (PCu g D [] [.ref (ad a0), .ref (yP y a1 k1), .int v2, .int v3] sz uz (ws g ad y σ)) (va_Qi (fun (r : Int32) (u : Ly × St × Nat × Nat) => Post u.1 u.2.1 r u.2.2.1 u.2.2.2) (QU D (va_A (ws g ad y σ) sz) (fun u => ws g ad u.1 u.2.1) sz uz (fun u => u.2.2.1) (fun u => u.2.2.2)) (va_A (ws g ad y σ) sz)) mc ms (va_A (ws g ad y σ) sz) := by
  refine ofIu (by decide +kernel) (Nat.le_of_ble_eq_true rfl) ?_
  intro p e s m args below meth c A Q ls H locs G hsz hP hD hS hl hret
  subst hsz
  have hl : lv_has ls 6 [(0, .ref (ad a0)), (1, .ref (yP y a1 k1)), (2, .int v2), (3, .int v3)] := hl
  have hd : 0 ≤ mc ∧ 0 ≤ ms := ⟨Nat.zero_le _, Nat.zero_le _⟩
  unfold wa_Na_number at h
  refine lv_iload_n G.1 G.2.1 d_Na_number_0 rfl (lv_at hl 3 rfl) ?_
  refine lv_istore (lv' := [(4, .int v3), (0, .ref (ad a0)), (1, .ref (yP y a1 k1)), (2, .int v2), (3, .int v3)]) G.1 G.2.1 d_Na_number_1 hl (by decide) rfl (fun ls hl => ?_)
  refine lv_iload_n G.1 G.2.1 d_Na_number_3 rfl (lv_at hl 3 rfl) ?_
  refine lv_istore (lv' := [(5, .int v2), (4, .int v3), (0, .ref (ad a0)), (1, .ref (yP y a1 k1)), (2, .int v2), (3, .int v3)]) G.1 G.2.1 d_Na_number_4 hl (by decide) rfl (fun ls hl => ?_)
  unfold wla_Na_number_6 at h
  obtain ⟨I_6, μ_6, hI_6, hB_6⟩ := h
  have L_6 : ∀ (n_6 : Nat) (y_h6 : Ly) (s_h6 : St) (d_h6 e_h6 : Nat) (x2h6 : Int32) (x3h6 : Int32) (x4h6 : Int32) (x5h6 : Int32), μ_6 y_h6 s_h6 d_h6 e_h6 x2h6 x3h6 x4h6 x5h6 < n_6 → I_6 y_h6 s_h6 d_h6 e_h6 x2h6 x3h6 x4h6 x5h6 → ∀ (H : Heap) (locs : List Loc), va_P D CL (ws g ad y_h6 s_h6) H → va_D A (ws g ad y_h6 s_h6) → va_S A s.heap H locs → ∀ ls, lv_has ls 6 [(0, .ref (ad a0)), (1, .ref (yP y_h6 a1 k1)), (2, .int x2h6), (3, .int x3h6), (4, .int x4h6), (5, .int x5h6)] → W p l e (ra_Na_number mc ms) s m args below meth c H locs d_h6 e_h6 Q (F0 m 6 ls []) := by
    intro n_6
    induction n_6 with
    | zero => intro y_h6 s_h6 d_h6 e_h6 x2h6 x3h6 x4h6 x5h6 hμ; exact absurd hμ (Nat.not_lt_zero _)
    | succ n_6 ih_6 =>
      intro y_h6 s_h6 d_h6 e_h6 x2h6 x3h6 x4h6 x5h6 hμ_6 hJ H locs hP hD hS ls hl
      obtain ⟨K_6, hK_6, h⟩ : ∃ K : Ly → St → Nat → Nat → Int32 → Int32 → Int32 → Int32 → Prop, (∀ z1 z2 z3 z4 (t0 : Int32) (t1 : Int32) (t2 : Int32) (t3 : Int32), K z1 z2 z3 z4 t0 t1 t2 t3 → I_6 z1 z2 z3 z4 t0 t1 t2 t3 ∧ μ_6 z1 z2 z3 z4 t0 t1 t2 t3 < μ_6 y_h6 s_h6 d_h6 e_h6 x2h6 x3h6 x4h6 x5h6) ∧ wba_Na_number_6 mc ms Post K a0 a1 k1 y_h6 s_h6 d_h6 e_h6 x2h6 x3h6 x4h6 x5h6 := ⟨_, fun _ _ _ _ _ _ _ _ h => h, hB_6 y_h6 s_h6 d_h6 e_h6 x2h6 x3h6 x4h6 x5h6 hJ⟩
      unfold wba_Na_number_6 at h
      obtain ⟨hd, h⟩ := h
      refine lv_iload G.1 G.2.1 d_Na_number_6 (lv_at hl 5 rfl) ?_
      refine lv_iload_n G.1 G.2.1 d_Na_number_8 rfl (lv_at hl 2 rfl) ?_
      refine lv_iload_n G.1 G.2.1 d_Na_number_9 rfl (lv_at hl 3 rfl) ?_
      refine lv_iadd G.1 G.2.1 d_Na_number_10 ?_
      refine lv_icmp_ge (tgt := 32) G.1 G.2.1 d_Na_number_11 (by decide) (fun c11 => ?_) (fun c11 => ?_)
      · skip
        have h := h.1 c11
        refine lv_iload G.1 G.2.1 d_Na_number_32 (lv_at hl 4 rfl) ?_
        refine lv_iload G.1 G.2.1 d_Na_number_34 (lv_at hl 4 rfl) ?_
        refine lv_bipush (v := 8) G.1 G.2.1 d_Na_number_36 (by decide) ?_
        refine lv_iushr G.1 G.2.1 d_Na_number_38 rfl ?_
        refine lv_ixor G.1 G.2.1 d_Na_number_39 ?_
        refine lv_sipush (v := 255) G.1 G.2.1 d_Na_number_40 (by decide) ?_
        refine W.eq (g2 := F0 m 43 ls [.int 255, .int (x4h6 ^^^ ((x4h6.toUInt32 >>> ((8 : Int32).toUInt32 &&& Int32.toUInt32 31)).toInt32))]) rfl ?_
        refine lv_iand G.1 G.2.1 d_Na_number_43 ?_
        refine lv_istore (lv' := [(4, .int ((x4h6 ^^^ ((x4h6.toUInt32 >>> ((8 : Int32).toUInt32 &&& Int32.toUInt32 31)).toInt32)) &&& 255)), (0, .ref (ad a0)), (1, .ref (yP y_h6 a1 k1)), (2, .int x2h6), (3, .int x3h6), (5, .int x5h6)]) G.1 G.2.1 d_Na_number_44 hl (by decide) rfl (fun ls hl => ?_)
        refine lv_aload_n G.1 G.2.1 d_Na_number_46 rfl (lv_at hl 1 rfl) ?_
        refine ugf (v := .ref (yP y_h6 a0 4)) G hP h_a0 iNa rfl 4 (by decide) rfl q508 rfl rfl d_Na_number_47 ?_
        refine lv_iload G.1 G.2.1 d_Na_number_50 (lv_at hl 0 rfl) ?_
        refine uiald G hP (kdp h_a0 rfl) (typ h_a0 rfl) h d_Na_number_52 (fun x_1 h => ?_)
        refine lv_istore (lv' := [(5, .int x_1), (4, .int ((x4h6 ^^^ ((x4h6.toUInt32 >>> ((8 : Int32).toUInt32 &&& Int32.toUInt32 31)).toInt32)) &&& 255)), (0, .ref (ad a0)), (1, .ref (yP y_h6 a1 k1)), (2, .int x2h6), (3, .int x3h6)]) G.1 G.2.1 d_Na_number_53 hl (by decide) rfl (fun ls hl => ?_)
        unfold wla_Na_number_55 at h
        obtain ⟨I_55, μ_55, hI_55, hB_55⟩ := h
        have L_55 : ∀ (n_55 : Nat) (y_h55 : Ly) (s_h55 : St) (d_h55 e_h55 : Nat) (x2h55 : Int32) (x3h55 : Int32) (x4h55 : Int32) (x5h55 : Int32), μ_55 y_h55 s_h55 d_h55 e_h55 x2h55 x3h55 x4h55 x5h55 < n_55 → I_55 y_h55 s_h55 d_h55 e_h55 x2h55 x3h55 x4h55 x5h55 → ∀ (H : Heap) (locs : List Loc), va_P D CL (ws g ad y_h55 s_h55) H → va_D A (ws g ad y_h55 s_h55) → va_S A s.heap H locs → ∀ ls, lv_has ls 6 [(0, .ref (ad a0)), (1, .ref (yP y_h55 a1 k1)), (2, .int x2h55), (3, .int x3h55), (4, .int x4h55), (5, .int x5h55)] → W p l e (ra_Na_number mc ms) s m args below meth c H locs d_h55 e_h55 Q (F0 m 55 ls []) := by
          intro n_55
          induction n_55 with
          | zero => intro y_h55 s_h55 d_h55 e_h55 x2h55 x3h55 x4h55 x5h55 hμ; exact absurd hμ (Nat.not_lt_zero _)
          | succ n_55 ih_55 =>
            intro y_h55 s_h55 d_h55 e_h55 x2h55 x3h55 x4h55 x5h55 hμ_55 hJ H locs hP hD hS ls hl
            obtain ⟨K_55, hK_55, h⟩ : ∃ K : Ly → St → Nat → Nat → Int32 → Int32 → Int32 → Int32 → Prop, (∀ z1 z2 z3 z4 (t0 : Int32) (t1 : Int32) (t2 : Int32) (t3 : Int32), K z1 z2 z3 z4 t0 t1 t2 t3 → I_55 z1 z2 z3 z4 t0 t1 t2 t3 ∧ μ_55 z1 z2 z3 z4 t0 t1 t2 t3 < μ_55 y_h55 s_h55 d_h55 e_h55 x2h55 x3h55 x4h55 x5h55) ∧ wba_Na_number_55 mc ms Post K a0 a1 k1 y_h55 s_h55 d_h55 e_h55 x2h55 x3h55 x4h55 x5h55 := ⟨_, fun _ _ _ _ _ _ _ _ h => h, hB_55 y_h55 s_h55 d_h55 e_h55 x2h55 x3h55 x4h55 x5h55 hJ⟩
            unfold wba_Na_number_55 at h
            obtain ⟨hd, h⟩ := h
            refine lv_iload G.1 G.2.1 d_Na_number_55 (lv_at hl 5 rfl) ?_
            refine lv_if_lt (tgt := 90) G.1 G.2.1 d_Na_number_57 (by decide) (fun c57 => ?_) (fun c57 => ?_)
            · skip
              have h := h.1 c57
              refine lv_aload_n G.1 G.2.1 d_Na_number_90 rfl (lv_at hl 0 rfl) ?_
              refine ugf (v := .ref (ad (lk a0 1))) G hP h_a0 iNa rfl 1 (by decide) rfl q505 rfl rfl d_Na_number_91 ?_
              refine lv_aload_n G.1 G.2.1 d_Na_number_94 rfl (lv_at hl 0 rfl) ?_
              refine ugf (v := .ref (ad (lk a0 0))) G hP h_a0 iNa rfl 0 (by decide) rfl q504 rfl rfl d_Na_number_95 ?_
              refine ugf (v := .int (sV s_h55 (lk a0 0) 1)) G hP (lk_5_0 h_a0) iIn rfl 1 (by decide) rfl q393 rfl rfl d_Na_number_98 ?_
              obtain ⟨mc_7, ms_8, hr_9, h⟩ := h
              refine uaVi (As := [.int (sV s_h55 (lk a0 0) 1)]) (rest := []) G hP hD hS (ca_In_add l D g [] ad mc_7 ms_8 y_h55 _ s_h55 (lk a0 1) (sV s_h55 (lk a0 0) 1) H.size (us H) (lk_5_1 h_a0) h) w9_In_add q469 ⟨Nat.le_of_ble_eq_true rfl, Nat.le_of_ble_eq_true rfl⟩ rfl rfl (lk_5_1 h_a0) (q := (RIn, TIn, 2)) rfl rfl hl.1 rfl (Nat.le_of_ble_eq_true rfl) rfl hr_9 d_Na_number_101 (fun r_2 y_4 s_3 d_5 e_6 H locs h hP hD hS => ?_)
              have hl := lv_sub (l' := [(0, .ref (ad a0)), (1, .ref (yP y_h55 a1 k1)), (2, .int x2h55), (3, .int x3h55), (4, .int x4h55)]) hl [0, 1, 2, 3, 4] rfl
              obtain ⟨hd, h⟩ := h
              obtain ⟨n_10, h⟩ := h
              rw [n_10] at hl
              refine lv_pop G.1 G.2.1 d_Na_number_104 rfl ?_
              refine lv_aload_n G.1 G.2.1 d_Na_number_105 rfl (lv_at hl 0 rfl) ?_
              refine ugf (v := .ref (ad (lk a0 2))) G hP h_a0 iNa rfl 2 (by decide) rfl q506 rfl rfl d_Na_number_106 ?_
              refine W.eq (g2 := F0 m 109 ls [.ref (ad (lk a0 2))]) rfl ?_
              refine lv_iload_n G.1 G.2.1 d_Na_number_109 rfl (lv_at hl 3 rfl) ?_
              obtain ⟨mc_16, ms_17, hr_18, h⟩ := h
              refine uaVi (As := [.int x3h55]) (rest := []) G hP hD hS (ca_In_add l D g [] ad mc_16 ms_17 y_4 _ s_3 (lk a0 2) x3h55 H.size (us H) (lk_5_2 h_a0) h) w9_In_add q469 ⟨Nat.le_of_ble_eq_true rfl, Nat.le_of_ble_eq_true rfl⟩ rfl rfl (lk_5_2 h_a0) (q := (RIn, TIn, 2)) rfl rfl hl.1 rfl (Nat.le_of_ble_eq_true rfl) rfl hr_18 d_Na_number_110 (fun r_11 y_13 s_12 d_14 e_15 H locs h hP hD hS => ?_)
              obtain ⟨hd, h⟩ := h
              obtain ⟨n_19, h⟩ := h
              rw [n_19] at hl
              refine lv_pop G.1 G.2.1 d_Na_number_113 rfl ?_
              refine lv_aload_n G.1 G.2.1 d_Na_number_114 rfl (lv_at hl 0 rfl) ?_
              refine ugf (v := .ref (ad (lk a0 3))) G hP h_a0 iNa rfl 3 (by decide) rfl q507 rfl rfl d_Na_number_115 ?_
              refine lv_aload_n G.1 G.2.1 d_Na_number_118 rfl (lv_at hl 0 rfl) ?_
              refine ugf (v := .ref (yP y_13 a0 4)) G hP h_a0 iNa rfl 4 (by decide) rfl q508 rfl rfl d_Na_number_119 ?_
              refine lv_iload G.1 G.2.1 d_Na_number_122 (lv_at hl 4 rfl) ?_
              refine uiald G hP (kdp h_a0 rfl) (typ h_a0 rfl) h d_Na_number_124 (fun x_20 h => ?_)
              obtain ⟨mc_26, ms_27, hr_28, h⟩ := h
              refine uaVi (As := [.int x_20]) (rest := []) G hP hD hS (ca_In_add l D g [] ad mc_26 ms_27 y_13 _ s_12 (lk a0 3) x_20 H.size (us H) (lk_5_3 h_a0) h) w9_In_add q469 ⟨Nat.le_of_ble_eq_true rfl, Nat.le_of_ble_eq_true rfl⟩ rfl rfl (lk_5_3 h_a0) (q := (RIn, TIn, 2)) rfl rfl hl.1 rfl (Nat.le_of_ble_eq_true rfl) rfl hr_28 d_Na_number_125 (fun r_21 y_23 s_22 d_24 e_25 H locs h hP hD hS => ?_)
              obtain ⟨hd, h⟩ := h
              obtain ⟨n_29, h⟩ := h
              rw [n_29] at hl
              refine lv_pop G.1 G.2.1 d_Na_number_128 rfl ?_
              refine lv_aload_n G.1 G.2.1 d_Na_number_129 rfl (lv_at hl 0 rfl) ?_
              refine W.eq (g2 := F0 m 130 ls [.ref (ad a0)]) rfl ?_
              refine ugf (v := .ref (yP y_23 a0 4)) G hP h_a0 iNa rfl 4 (by decide) rfl q508 rfl rfl d_Na_number_130 ?_
              refine lv_iload G.1 G.2.1 d_Na_number_133 (lv_at hl 4 rfl) ?_
              refine lv_aload_n G.1 G.2.1 d_Na_number_135 rfl (lv_at hl 0 rfl) ?_
              refine ugf (v := .ref (ad (lk a0 3))) G hP h_a0 iNa rfl 3 (by decide) rfl q507 rfl rfl d_Na_number_136 ?_
              refine ugf (v := .int (sV s_22 (lk a0 3) 1)) G hP (lk_5_3 h_a0) iIn rfl 1 (by decide) rfl q393 rfl rfl d_Na_number_139 ?_
              refine lv_iconst (v := 1) G.1 G.2.1 d_Na_number_142 (by decide) ?_
              refine lv_isub G.1 G.2.1 d_Na_number_143 ?_
              refine uiast G hP hD hS (kdp h_a0 rfl) (typ h_a0 rfl) h d_Na_number_144 (fun s_30 H locs h hP hD hS => ?_)
              refine lv_iload_n G.1 G.2.1 d_Na_number_145 rfl (lv_at hl 2 rfl) ?_
              refine lv_istore (lv' := [(5, .int x2h55), (0, .ref (ad a0)), (1, .ref (yP y_23 a1 k1)), (2, .int x2h55), (3, .int x3h55), (4, .int x4h55)]) G.1 G.2.1 d_Na_number_146 hl (by decide) rfl (fun ls hl => ?_)
              unfold wla_Na_number_148 at h
              obtain ⟨I_148, μ_148, hI_148, hB_148⟩ := h
              have L_148 : ∀ (n_148 : Nat) (y_h148 : Ly) (s_h148 : St) (d_h148 e_h148 : Nat) (x2h148 : Int32) (x3h148 : Int32) (x5h148 : Int32), μ_148 y_h148 s_h148 d_h148 e_h148 x2h148 x3h148 x5h148 < n_148 → I_148 y_h148 s_h148 d_h148 e_h148 x2h148 x3h148 x5h148 → ∀ (H : Heap) (locs : List Loc), va_P D CL (ws g ad y_h148 s_h148) H → va_D A (ws g ad y_h148 s_h148) → va_S A s.heap H locs → ∀ ls, lv_has ls 6 [(0, .ref (ad a0)), (1, .ref (yP y_h148 a1 k1)), (2, .int x2h148), (3, .int x3h148), (5, .int x5h148)] → W p l e (ra_Na_number mc ms) s m args below meth c H locs d_h148 e_h148 Q (F0 m 148 ls []) := by
                intro n_148
                induction n_148 with
                | zero => intro y_h148 s_h148 d_h148 e_h148 x2h148 x3h148 x5h148 hμ; exact absurd hμ (Nat.not_lt_zero _)
                | succ n_148 ih_148 =>
                  intro y_h148 s_h148 d_h148 e_h148 x2h148 x3h148 x5h148 hμ_148 hJ H locs hP hD hS ls hl
                  obtain ⟨K_148, hK_148, h⟩ : ∃ K : Ly → St → Nat → Nat → Int32 → Int32 → Int32 → Prop, (∀ z1 z2 z3 z4 (t0 : Int32) (t1 : Int32) (t2 : Int32), K z1 z2 z3 z4 t0 t1 t2 → I_148 z1 z2 z3 z4 t0 t1 t2 ∧ μ_148 z1 z2 z3 z4 t0 t1 t2 < μ_148 y_h148 s_h148 d_h148 e_h148 x2h148 x3h148 x5h148) ∧ wba_Na_number_148 mc ms Post K a0 a1 k1 y_h148 s_h148 d_h148 e_h148 x2h148 x3h148 x5h148 := ⟨_, fun _ _ _ _ _ _ _ h => h, hB_148 y_h148 s_h148 d_h148 e_h148 x2h148 x3h148 x5h148 hJ⟩
                  unfold wba_Na_number_148 at h
                  obtain ⟨hd, h⟩ := h
                  refine lv_iload G.1 G.2.1 d_Na_number_148 (lv_at hl 4 rfl) ?_
                  refine lv_iload_n G.1 G.2.1 d_Na_number_150 rfl (lv_at hl 2 rfl) ?_
                  refine lv_iload_n G.1 G.2.1 d_Na_number_151 rfl (lv_at hl 3 rfl) ?_
                  refine lv_iadd G.1 G.2.1 d_Na_number_152 ?_
                  refine lv_icmp_ge (tgt := 174) G.1 G.2.1 d_Na_number_153 (by decide) (fun c153 => ?_) (fun c153 => ?_)
                  · skip
                    have h := h.1 c153
                    refine lv_aload_n G.1 G.2.1 d_Na_number_174 rfl (lv_at hl 0 rfl) ?_
                    refine ugf (v := .ref (ad (lk a0 3))) G hP h_a0 iNa rfl 3 (by decide) rfl q507 rfl rfl d_Na_number_175 ?_
                    refine ugf (v := .int (sV s_h148 (lk a0 3) 1)) G hP (lk_5_3 h_a0) iIn rfl 1 (by decide) rfl q393 rfl rfl d_Na_number_178 ?_
                    refine lv_iconst (v := 1) G.1 G.2.1 d_Na_number_181 (by decide) ?_
                    refine lv_isub G.1 G.2.1 d_Na_number_182 ?_
                    exact hret _ (y_h148, s_h148, d_h148, e_h148) _ _ _ _ _ ls h hP hD hS (Nat.le_refl _) (Nat.le_refl _) hd.1 hd.2 d_Na_number_183
                  · skip
                    have h := h.2 c153
                    refine lv_aload_n G.1 G.2.1 d_Na_number_156 rfl (lv_at hl 0 rfl) ?_
                    refine ugf (v := .ref (ad (lk a0 0))) G hP h_a0 iNa rfl 0 (by decide) rfl q504 rfl rfl d_Na_number_157 ?_
                    refine lv_aload_n G.1 G.2.1 d_Na_number_160 rfl (lv_at hl 1 rfl) ?_
                    refine lv_iload G.1 G.2.1 d_Na_number_161 (lv_at hl 4 rfl) ?_
                    refine ubald G hP h_a1.1 h_a1.2 h d_Na_number_163 (fun x_31 h => ?_)
                    obtain ⟨mc_37, ms_38, hr_39, h⟩ := h
                    refine uaVi (As := [.int x_31]) (rest := []) G hP hD hS (ca_In_add l D g [] ad mc_37 ms_38 y_h148 _ s_h148 (lk a0 0) x_31 H.size (us H) (lk_5_0 h_a0) h) w9_In_add q469 ⟨Nat.le_of_ble_eq_true rfl, Nat.le_of_ble_eq_true rfl⟩ rfl rfl (lk_5_0 h_a0) (q := (RIn, TIn, 2)) rfl rfl hl.1 rfl (Nat.le_of_ble_eq_true rfl) rfl hr_39 d_Na_number_164 (fun r_32 y_34 s_33 d_35 e_36 H locs h hP hD hS => ?_)
                    obtain ⟨hd, h⟩ := h
                    obtain ⟨n_40, h⟩ := h
                    rw [n_40] at hl
                    refine W.eq (g2 := F0 m 167 ls [.int r_32]) rfl ?_
                    refine lv_pop G.1 G.2.1 d_Na_number_167 rfl ?_
                    refine lv_iinc (v := x5h148 + 1) (lv' := [(5, .int (x5h148 + 1)), (0, .ref (ad a0)), (1, .ref (yP y_34 a1 k1)), (2, .int x2h148), (3, .int x3h148)]) G.1 G.2.1 d_Na_number_168 hl (k := 4) rfl rfl (by decide) rfl (fun ls hl => ?_)
                    refine lv_goto (tgt := 148) G.1 G.2.1 d_Na_number_171 (by decide) ?_
                    have h := hK_148 y_34 s_33 (d_h148 + d_35) (e_h148 + e_36) x2h148 x3h148 (x5h148 + 1) h
                    exact ih_148 y_34 s_33 (d_h148 + d_35) (e_h148 + e_36) x2h148 x3h148 (x5h148 + 1) (Nat.lt_of_lt_of_le h.2 (Nat.le_of_lt_succ hμ_148)) h.1 H locs hP hD hS ls (lv_sub hl [1, 2, 3, 4, 0] rfl)
              exact L_148 _ y_23 s_30 (d_h55 + d_5 + d_14 + d_24) (e_h55 + e_6 + e_15 + e_25) x2h55 x3h55 x2h55 (Nat.lt_succ_self _) hI_148 H locs hP hD hS ls (lv_sub hl [1, 2, 3, 4, 0] rfl)
            · skip
              have h := h.2 c57
              refine lv_aload_n G.1 G.2.1 d_Na_number_60 rfl (lv_at hl 0 rfl) ?_
              refine lv_iload G.1 G.2.1 d_Na_number_61 (lv_at hl 5 rfl) ?_
              refine lv_aload_n G.1 G.2.1 d_Na_number_63 rfl (lv_at hl 1 rfl) ?_
              refine lv_iload_n G.1 G.2.1 d_Na_number_64 rfl (lv_at hl 2 rfl) ?_
              refine lv_iload_n G.1 G.2.1 d_Na_number_65 rfl (lv_at hl 3 rfl) ?_
              refine ucVi (As := [.int x5h55, .ref (yP y_h55 a1 k1), .int x2h55, .int x3h55]) (rest := []) G hP hD hS (cu_Na_isSame l D g ad y_h55 _ s_h55 a0 x5h55 a1 k1 x2h55 x3h55 H.size h_a0 ⟨h_a1.1, h_a1.2⟩ h) w9_Na_isSame q465 ⟨Nat.le_of_ble_eq_true rfl, Nat.le_of_ble_eq_true rfl⟩ rfl rfl h_a0 (q := (RNa, TNa, 11)) rfl rfl hl.1 rfl (Nat.le_of_ble_eq_true rfl) rfl hd d_Na_number_66 (fun r_41 s_42 H locs h hP hD hS => ?_)
              refine lv_if_eq (tgt := 75) G.1 G.2.1 d_Na_number_69 (by decide) (fun c69 => ?_) (fun c69 => ?_)
              · skip
                have h := h.1 c69
                refine lv_aload_n G.1 G.2.1 d_Na_number_75 rfl (lv_at hl 0 rfl) ?_
                refine ugf (v := .ref (ad (lk a0 3))) G hP h_a0 iNa rfl 3 (by decide) rfl q507 rfl rfl d_Na_number_76 ?_
                refine W.eq (g2 := F0 m 79 ls [.ref (ad (lk a0 3))]) rfl ?_
                refine ugf (v := .ref (yP y_h55 (lk a0 3) 0)) G hP (lk_5_3 h_a0) iIn rfl 0 (by decide) rfl q381 rfl rfl d_Na_number_79 ?_
                refine lv_iload G.1 G.2.1 d_Na_number_82 (lv_at hl 5 rfl) ?_
                refine uiald G hP (kdp (lk_5_3 h_a0) rfl) (typ (lk_5_3 h_a0) rfl) h d_Na_number_84 (fun x_43 h => ?_)
                refine lv_istore (lv' := [(5, .int x_43), (0, .ref (ad a0)), (1, .ref (yP y_h55 a1 k1)), (2, .int x2h55), (3, .int x3h55), (4, .int x4h55)]) G.1 G.2.1 d_Na_number_85 hl (by decide) rfl (fun ls hl => ?_)
                refine lv_goto (tgt := 55) G.1 G.2.1 d_Na_number_87 (by decide) ?_
                have h := hK_55 y_h55 s_42 d_h55 e_h55 x2h55 x3h55 x4h55 x_43 h
                exact ih_55 y_h55 s_42 d_h55 e_h55 x2h55 x3h55 x4h55 x_43 (Nat.lt_of_lt_of_le h.2 (Nat.le_of_lt_succ hμ_55)) h.1 H locs hP hD hS ls (lv_sub hl [1, 2, 3, 4, 5, 0] rfl)
              · skip
                have h := h.2 c69
                refine lv_iload G.1 G.2.1 d_Na_number_72 (lv_at hl 5 rfl) ?_
                exact hret _ (y_h55, s_42, d_h55, e_h55) _ _ _ _ _ ls h hP hD hS (Nat.le_refl _) (Nat.le_refl _) hd.1 hd.2 d_Na_number_74
        exact L_55 _ y_h6 s_h6 d_h6 e_h6 x2h6 x3h6 ((x4h6 ^^^ ((x4h6.toUInt32 >>> ((8 : Int32).toUInt32 &&& Int32.toUInt32 31)).toInt32)) &&& 255) x_1 (Nat.lt_succ_self _) hI_55 H locs hP hD hS ls (lv_sub hl [2, 3, 4, 5, 1, 0] rfl)
      · skip
        have h := h.2 c11
        refine lv_iload G.1 G.2.1 d_Na_number_14 (lv_at hl 4 rfl) ?_
        refine lv_bipush (v := 31) G.1 G.2.1 d_Na_number_16 (by decide) ?_
        refine lv_imul G.1 G.2.1 d_Na_number_18 ?_
        refine lv_aload_n G.1 G.2.1 d_Na_number_19 rfl (lv_at hl 1 rfl) ?_
        refine lv_iload G.1 G.2.1 d_Na_number_20 (lv_at hl 5 rfl) ?_
        refine ubald G hP h_a1.1 h_a1.2 h d_Na_number_22 (fun x_44 h => ?_)
        refine W.eq (g2 := F0 m 23 ls [.int x_44, .int (x4h6 * 31)]) rfl ?_
        refine lv_iadd G.1 G.2.1 d_Na_number_23 ?_
        refine lv_istore (lv' := [(4, .int ((x4h6 * 31) + x_44)), (0, .ref (ad a0)), (1, .ref (yP y_h6 a1 k1)), (2, .int x2h6), (3, .int x3h6), (5, .int x5h6)]) G.1 G.2.1 d_Na_number_24 hl (by decide) rfl (fun ls hl => ?_)
        refine lv_iinc (v := x5h6 + 1) (lv' := [(5, .int (x5h6 + 1)), (4, .int ((x4h6 * 31) + x_44)), (0, .ref (ad a0)), (1, .ref (yP y_h6 a1 k1)), (2, .int x2h6), (3, .int x3h6)]) G.1 G.2.1 d_Na_number_26 hl (k := 5) rfl rfl (by decide) rfl (fun ls hl => ?_)
        refine lv_goto (tgt := 6) G.1 G.2.1 d_Na_number_29 (by decide) ?_
        have h := hK_6 y_h6 s_h6 d_h6 e_h6 x2h6 x3h6 ((x4h6 * 31) + x_44) (x5h6 + 1) h
        exact ih_6 y_h6 s_h6 d_h6 e_h6 x2h6 x3h6 ((x4h6 * 31) + x_44) (x5h6 + 1) (Nat.lt_of_lt_of_le h.2 (Nat.le_of_lt_succ hμ_6)) h.1 H locs hP hD hS ls (lv_sub hl [2, 3, 4, 5, 1, 0] rfl)
  exact L_6 _ y σ 0 0 v2 v3 v3 v2 (Nat.lt_succ_self _) hI_6 H locs hP hD hS ls (lv_sub hl [2, 3, 4, 5, 1, 0] rfl)
theorem q416 : Cond.code y_Js_length b_Js_length 1 (some .int) ∈ lw_ok := lw_okmem (List.mem_of_getElem? (i := 416) (by decide +kernel)) rfl
theorem q414 : Cond.instanceMethod y_Js_length ∈ lw_ok := lw_okmem (List.mem_of_getElem? (i := 414) (by decide +kernel)) rfl
theorem q415 : Cond.selects y_Js_length.cls y_Js_length y_Js_length ∈ lw_ok := lw_okmem (List.mem_of_getElem? (i := 415) (by decide +kernel)) rfl
theorem w9_Js_length : CWv y_Js_length b_Js_length 1 (some .int) 0 ∧ Cond.instanceMethod y_Js_length ∈ lw_ok ∧ Cond.selects y_Js_length.cls y_Js_length y_Js_length ∈ lw_ok := ⟨⟨q416, q333, by decide +kernel, by decide +kernel, by decide +kernel⟩, q414, q415⟩
theorem q413 : Cond.methodLink "ClassWorks$Names" 83 y_Js_length ∈ lw_ok := lw_okmem (List.mem_of_getElem? (i := 413) (by decide +kernel)) rfl
theorem q512 : Cond.fieldLink "ClassWorks$Names" 42 "ClassWorks$Names" "word" "[B" ∈ lw_ok := lw_okmem (List.mem_of_getElem? (i := 512) (by decide +kernel)) rfl
theorem q461 : Cond.methodLink "ClassWorks$Names" 93 y_Na_number ∈ lw_ok := lw_okmem (List.mem_of_getElem? (i := 461) (by decide +kernel)) rfl
theorem q464 : Cond.code y_Na_number b_Na_number 6 (some .int) ∈ lw_ok := lw_okmem (List.mem_of_getElem? (i := 464) (by decide +kernel)) rfl
theorem q462 : Cond.instanceMethod y_Na_number ∈ lw_ok := lw_okmem (List.mem_of_getElem? (i := 462) (by decide +kernel)) rfl
theorem q463 : Cond.selects y_Na_number.cls y_Na_number y_Na_number ∈ lw_ok := lw_okmem (List.mem_of_getElem? (i := 463) (by decide +kernel)) rfl
theorem w9_Na_number : CWv y_Na_number b_Na_number 6 (some .int) 3 ∧ Cond.instanceMethod y_Na_number ∈ lw_ok ∧ Cond.selects y_Na_number.cls y_Na_number y_Na_number ∈ lw_ok := ⟨⟨q464, q330, by decide +kernel, by decide +kernel, by decide +kernel⟩, q462, q463⟩
theorem q426 : Cond.code y_Js_charAt b_Js_charAt 2 (some (.char)) ∈ lw_ok := lw_okmem (List.mem_of_getElem? (i := 426) (by decide +kernel)) rfl
theorem q424 : Cond.instanceMethod y_Js_charAt ∈ lw_ok := lw_okmem (List.mem_of_getElem? (i := 424) (by decide +kernel)) rfl
theorem q425 : Cond.selects y_Js_charAt.cls y_Js_charAt y_Js_charAt ∈ lw_ok := lw_okmem (List.mem_of_getElem? (i := 425) (by decide +kernel)) rfl
theorem w9_Js_charAt : CWv y_Js_charAt b_Js_charAt 2 (some (.char)) 1 ∧ Cond.instanceMethod y_Js_charAt ∈ lw_ok ∧ Cond.selects y_Js_charAt.cls y_Js_charAt y_Js_charAt ∈ lw_ok := ⟨⟨q426, q333, by decide +kernel, by decide +kernel, by decide +kernel⟩, q424, q425⟩
def y_Na_learn : MethodName := ⟨"ClassWorks$Names", "learn", "(Ljava/lang/String;I)V"⟩
abbrev b_Na_learn : ByteArray := prog_7_method_2_code
theorem q423 : Cond.methodLink "ClassWorks$Names" 89 y_Js_charAt ∈ lw_ok := lw_okmem (List.mem_of_getElem? (i := 423) (by decide +kernel)) rfl
theorem d_Na_learn_0 : decode b_Na_learn 0 = .ok (.iload_n 2, 1) := by decide +kernel
theorem d_Na_learn_1 : decode b_Na_learn 1 = .ok (.istore_n 3, 1) := by decide +kernel
theorem d_Na_learn_2 : decode b_Na_learn 2 = .ok (.iconst 0, 1) := by decide +kernel
theorem d_Na_learn_3 : decode b_Na_learn 3 = .ok (.istore 4, 2) := by decide +kernel
theorem d_Na_learn_5 : decode b_Na_learn 5 = .ok (.iconst 0, 1) := by decide +kernel
theorem d_Na_learn_6 : decode b_Na_learn 6 = .ok (.istore 5, 2) := by decide +kernel
theorem d_Na_learn_8 : decode b_Na_learn 8 = .ok (.iload 5, 2) := by decide +kernel
theorem d_Na_learn_10 : decode b_Na_learn 10 = .ok (.aload_n 1, 1) := by decide +kernel
theorem d_Na_learn_11 : decode b_Na_learn 11 = .ok (.invokevirtual 83, 3) := by decide +kernel
theorem d_Na_learn_14 : decode b_Na_learn 14 = .ok (.if_icmp .gt 88, 3) := by decide +kernel
theorem d_Na_learn_17 : decode b_Na_learn 17 = .ok (.iload 5, 2) := by decide +kernel
theorem d_Na_learn_19 : decode b_Na_learn 19 = .ok (.aload_n 1, 1) := by decide +kernel
theorem d_Na_learn_20 : decode b_Na_learn 20 = .ok (.invokevirtual 83, 3) := by decide +kernel
theorem d_Na_learn_23 : decode b_Na_learn 23 = .ok (.if_icmp .ge 34, 3) := by decide +kernel
theorem d_Na_learn_26 : decode b_Na_learn 26 = .ok (.aload_n 1, 1) := by decide +kernel
theorem d_Na_learn_27 : decode b_Na_learn 27 = .ok (.iload 5, 2) := by decide +kernel
theorem d_Na_learn_29 : decode b_Na_learn 29 = .ok (.invokevirtual 89, 3) := by decide +kernel
theorem d_Na_learn_32 : decode b_Na_learn 32 = .ok (.bipush 32, 2) := by decide +kernel
theorem d_Na_learn_34 : decode b_Na_learn 34 = .ok (.if_icmp .eq 23, 3) := by decide +kernel
theorem d_Na_learn_37 : decode b_Na_learn 37 = .ok (.aload_n 0, 1) := by decide +kernel
theorem d_Na_learn_38 : decode b_Na_learn 38 = .ok (.getfield 42, 3) := by decide +kernel
theorem d_Na_learn_41 : decode b_Na_learn 41 = .ok (.iload 4, 2) := by decide +kernel
theorem d_Na_learn_43 : decode b_Na_learn 43 = .ok (.aload_n 1, 1) := by decide +kernel
theorem d_Na_learn_44 : decode b_Na_learn 44 = .ok (.iload 5, 2) := by decide +kernel
theorem d_Na_learn_46 : decode b_Na_learn 46 = .ok (.invokevirtual 89, 3) := by decide +kernel
theorem d_Na_learn_49 : decode b_Na_learn 49 = .ok (.i2b, 1) := by decide +kernel
theorem d_Na_learn_50 : decode b_Na_learn 50 = .ok (.bastore, 1) := by decide +kernel
theorem d_Na_learn_51 : decode b_Na_learn 51 = .ok (.iinc 4 1, 3) := by decide +kernel
theorem d_Na_learn_54 : decode b_Na_learn 54 = .ok (.goto 42, 3) := by decide +kernel
theorem d_Na_learn_57 : decode b_Na_learn 57 = .ok (.aload_n 0, 1) := by decide +kernel
theorem d_Na_learn_58 : decode b_Na_learn 58 = .ok (.aload_n 0, 1) := by decide +kernel
theorem d_Na_learn_59 : decode b_Na_learn 59 = .ok (.getfield 42, 3) := by decide +kernel
theorem d_Na_learn_62 : decode b_Na_learn 62 = .ok (.iconst 0, 1) := by decide +kernel
theorem d_Na_learn_63 : decode b_Na_learn 63 = .ok (.iload 4, 2) := by decide +kernel
theorem d_Na_learn_65 : decode b_Na_learn 65 = .ok (.invokevirtual 93, 3) := by decide +kernel
theorem d_Na_learn_68 : decode b_Na_learn 68 = .ok (.istore 6, 2) := by decide +kernel
theorem d_Na_learn_70 : decode b_Na_learn 70 = .ok (.iload_n 3, 1) := by decide +kernel
theorem d_Na_learn_71 : decode b_Na_learn 71 = .ok (.ifCond .lt 22, 3) := by decide +kernel
theorem d_Na_learn_74 : decode b_Na_learn 74 = .ok (.iload 6, 2) := by decide +kernel
theorem d_Na_learn_76 : decode b_Na_learn 76 = .ok (.sipush 128, 3) := by decide +kernel
theorem d_Na_learn_79 : decode b_Na_learn 79 = .ok (.if_icmp .ge 14, 3) := by decide +kernel
theorem d_Na_learn_82 : decode b_Na_learn 82 = .ok (.aload_n 0, 1) := by decide +kernel
theorem d_Na_learn_83 : decode b_Na_learn 83 = .ok (.getfield 39, 3) := by decide +kernel
theorem d_Na_learn_86 : decode b_Na_learn 86 = .ok (.iload 6, 2) := by decide +kernel
theorem d_Na_learn_88 : decode b_Na_learn 88 = .ok (.iload_n 3, 1) := by decide +kernel
theorem d_Na_learn_89 : decode b_Na_learn 89 = .ok (.iastore, 1) := by decide +kernel
theorem d_Na_learn_90 : decode b_Na_learn 90 = .ok (.iinc 3 1, 3) := by decide +kernel
theorem d_Na_learn_93 : decode b_Na_learn 93 = .ok (.iconst 0, 1) := by decide +kernel
theorem d_Na_learn_94 : decode b_Na_learn 94 = .ok (.istore 4, 2) := by decide +kernel
theorem d_Na_learn_96 : decode b_Na_learn 96 = .ok (.iinc 5 1, 3) := by decide +kernel
theorem d_Na_learn_99 : decode b_Na_learn 99 = .ok (.goto (-91), 3) := by decide +kernel
theorem d_Na_learn_102 : decode b_Na_learn 102 = .ok (.return_, 1) := by decide +kernel
abbrev ra_Na_learn (mc ms : Nat) : Room := { frames := 6, cells := mc, slots := ms, locals := 446 }
def wja_Na_learn_96 (mc ms : Nat) (Post : Ly → St → Nat → Nat → Prop) (K_8 : Ly → St → Nat → Nat → Int32 → Int32 → Int32 → Prop) (a0 : Nat) (n1 : Nat) (y_j96 : Ly) (s_j96 : St) (d_j96 e_j96 : Nat) (x3j96 : Int32) (x4j96 : Int32) (x5j96 : Int32) : Prop := (d_j96 ≤ mc ∧ e_j96 ≤ ms) ∧ K_8 y_j96 s_j96 d_j96 e_j96 x3j96 x4j96 (x5j96 + 1)
def wja_Na_learn_93 (mc ms : Nat) (Post : Ly → St → Nat → Nat → Prop) (K_8 : Ly → St → Nat → Nat → Int32 → Int32 → Int32 → Prop) (a0 : Nat) (n1 : Nat) (y_j93 : Ly) (s_j93 : St) (d_j93 e_j93 : Nat) (x3j93 : Int32) (x5j93 : Int32) : Prop := (d_j93 ≤ mc ∧ e_j93 ≤ ms) ∧ wja_Na_learn_96 mc ms Post K_8 a0 n1 y_j93 s_j93 d_j93 e_j93 x3j93 0 x5j93
def wja_Na_learn_57 (mc ms : Nat) (Post : Ly → St → Nat → Nat → Prop) (K_8 : Ly → St → Nat → Nat → Int32 → Int32 → Int32 → Prop) (a0 : Nat) (n1 : Nat) (y_j57 : Ly) (s_j57 : St) (d_j57 e_j57 : Nat) (x3j57 : Int32) (x4j57 : Int32) (x5j57 : Int32) : Prop := (d_j57 ≤ mc ∧ e_j57 ≤ ms) ∧ ∃ mc_6 ms_7 : Nat, (d_j57 + mc_6 ≤ mc ∧ e_j57 + ms_7 ≤ ms) ∧ wa_Na_number mc_6 ms_7 y_j57 (fun (y_3 : Ly) (s_2 : St) (r_1 : Int32) (d_4 e_5 : Nat) => (d_j57 + d_4 ≤ mc ∧ e_j57 + e_5 ≤ ms) ∧ ((x3j57 < 0 → wja_Na_learn_93 mc ms Post K_8 a0 n1 y_3 s_2 (d_j57 + d_4) (e_j57 + e_5) x3j57 x5j57) ∧ (¬ (x3j57 < 0) → ((128 ≤ r_1 → wja_Na_learn_93 mc ms Post K_8 a0 n1 y_3 s_2 (d_j57 + d_4) (e_j57 + e_5) x3j57 x5j57) ∧ (¬ (128 ≤ r_1) → xS y_3 s_2 a0 7 r_1 x3j57 (fun s_9 : St => wja_Na_learn_93 mc ms Post K_8 a0 n1 y_3 s_9 (d_j57 + d_4) (e_j57 + e_5) (x3j57 + 1) x5j57)))))) s_j57 a0 a0 8 0 x4j57
def wba_Na_learn_8 (mc ms : Nat) (Post : Ly → St → Nat → Nat → Prop) (K_8 : Ly → St → Nat → Nat → Int32 → Int32 → Int32 → Prop) (a0 : Nat) (n1 : Nat) (y_h8 : Ly) (s_h8 : St) (d_h8 e_h8 : Nat) (x3h8 : Int32) (x4h8 : Int32) (x5h8 : Int32) : Prop := (d_h8 ≤ mc ∧ e_h8 ≤ ms) ∧ (((nI (stb n1).length) < x5h8 → Post y_h8 s_h8 d_h8 e_h8) ∧ (¬ ((nI (stb n1).length) < x5h8) → (((nI (stb n1).length) ≤ x5h8 → wja_Na_learn_57 mc ms Post K_8 a0 n1 y_h8 s_h8 d_h8 e_h8 x3h8 x4h8 x5h8) ∧ (¬ ((nI (stb n1).length) ≤ x5h8) → xH n1 x5h8 (fun x_10 : Int32 => ((x_10 = 32 → wja_Na_learn_57 mc ms Post K_8 a0 n1 y_h8 s_h8 d_h8 e_h8 x3h8 x4h8 x5h8) ∧ (¬ (x_10 = 32) → xH n1 x5h8 (fun x_11 : Int32 => xS y_h8 s_h8 a0 8 x4h8 (vp_nar .byte x_11.toInt8.toInt32) (fun s_12 : St => wja_Na_learn_96 mc ms Post K_8 a0 n1 y_h8 s_12 d_h8 e_h8 x3h8 (x4h8 + 1) x5h8)))))))))
def wla_Na_learn_8 (mc ms : Nat) (Post : Ly → St → Nat → Nat → Prop) (a0 : Nat) (n1 : Nat) (y_h8 : Ly) (s_h8 : St) (d_h8 e_h8 : Nat) (x3h8 : Int32) (x4h8 : Int32) (x5h8 : Int32) : Prop := ∃ (I : Ly → St → Nat → Nat → Int32 → Int32 → Int32 → Prop) (μ : Ly → St → Nat → Nat → Int32 → Int32 → Int32 → Nat), I y_h8 s_h8 d_h8 e_h8 x3h8 x4h8 x5h8 ∧ ∀ (u1 : Ly) (u2 : St) (u3 u4 : Nat) (t0 : Int32) (t1 : Int32) (t2 : Int32), I u1 u2 u3 u4 t0 t1 t2 → wba_Na_learn_8 mc ms Post (fun z1 z2 z3 z4 t0q t1q t2q => I z1 z2 z3 z4 t0q t1q t2q ∧ μ z1 z2 z3 z4 t0q t1q t2q < μ u1 u2 u3 u4 t0 t1 t2) a0 n1 u1 u2 u3 u4 t0 t1 t2
def wa_Na_learn (mc ms : Nat) (y : Ly) (Post : Ly → St → Nat → Nat → Prop) (σ : St) (a0 : Nat) (n1 : Nat) (v2 : Int32) : Prop := wla_Na_learn_8 mc ms Post a0 n1 y σ 0 0 v2 0 0
set_option maxHeartbeats 4000000 in
set_option maxRecDepth 100000 in
theorem ca_Na_learn (l : Launch) (D : va_G) (g : Nat → ClassId) (F : Nat → SL) (sl : List SL) (hF : SOK F sl) (ad : Nat → Nat) (mc ms : Nat) (y : Ly) (Post : Ly → St → Nat → Nat → Prop) (σ : St) (a0 : Nat) (n1 : Nat) (v2 : Int32) (sz uz : Nat) (h_a0 : cl a0 = 5) (h_n1 : n1 < strT.length) (h : wa_Na_learn mc ms y Post σ a0 n1 v2) : Met l y_Na_learn (mw y_Na_learn b_Na_learn 7 (none)) (ra_Na_learn mc ms) (PCu g D sl [.ref (ad a0), .ref (sk (F n1)), .int v2] sz uz (ws g ad y σ)) (va_Qv (fun (u : Ly × St × Nat × Nat) => Post u.1 u.2.1 u.2.2.1 u.2.2.2) (QU D (va_A (ws g ad y σ) sz) (fun u => ws g ad u.1 u.2.1) sz uz (fun u => u.2.2.1) (fun u => u.2.2.2)) (va_A (ws g ad y σ) sz)) mc ms (va_A (ws g ad y σ) sz) := by
  refine ofVu (by decide +kernel) (Nat.le_of_ble_eq_true rfl) ?_
  intro p e s m args below meth c A Q ls H locs G hsz hP hD hS hl hret
  subst hsz
  have hl : lv_has ls 7 [(0, .ref (ad a0)), (1, .ref (sk (F n1))), (2, .int v2)] := hl
  have hd : 0 ≤ mc ∧ 0 ≤ ms := ⟨Nat.zero_le _, Nat.zero_le _⟩
  unfold wa_Na_learn at h
  refine lv_iload_n G.1 G.2.1 d_Na_learn_0 rfl (lv_at hl 2 rfl) ?_
  refine lv_istore_n (lv' := [(3, .int v2), (0, .ref (ad a0)), (1, .ref (sk (F n1))), (2, .int v2)]) G.1 G.2.1 d_Na_learn_1 rfl hl (by decide) rfl (fun ls hl => ?_)
  refine lv_iconst (v := 0) G.1 G.2.1 d_Na_learn_2 (by decide) ?_
  refine lv_istore (lv' := [(4, .int 0), (3, .int v2), (0, .ref (ad a0)), (1, .ref (sk (F n1))), (2, .int v2)]) G.1 G.2.1 d_Na_learn_3 hl (by decide) rfl (fun ls hl => ?_)
  refine lv_iconst (v := 0) G.1 G.2.1 d_Na_learn_5 (by decide) ?_
  refine lv_istore (lv' := [(5, .int 0), (4, .int 0), (3, .int v2), (0, .ref (ad a0)), (1, .ref (sk (F n1))), (2, .int v2)]) G.1 G.2.1 d_Na_learn_6 hl (by decide) rfl (fun ls hl => ?_)
  unfold wla_Na_learn_8 at h
  obtain ⟨I_8, μ_8, hI_8, hB_8⟩ := h
  have L_8 : ∀ (n_8 : Nat) (y_h8 : Ly) (s_h8 : St) (d_h8 e_h8 : Nat) (x3h8 : Int32) (x4h8 : Int32) (x5h8 : Int32), μ_8 y_h8 s_h8 d_h8 e_h8 x3h8 x4h8 x5h8 < n_8 → I_8 y_h8 s_h8 d_h8 e_h8 x3h8 x4h8 x5h8 → ∀ (H : Heap) (locs : List Loc), va_P D CL (ws g ad y_h8 s_h8) H → va_D A (ws g ad y_h8 s_h8) → va_S A s.heap H locs → ∀ ls, lv_has ls 7 [(0, .ref (ad a0)), (1, .ref (sk (F n1))), (3, .int x3h8), (4, .int x4h8), (5, .int x5h8)] → W p l e (ra_Na_learn mc ms) s m args below meth c H locs d_h8 e_h8 Q (F0 m 8 ls []) := by
    intro n_8
    induction n_8 with
    | zero => intro y_h8 s_h8 d_h8 e_h8 x3h8 x4h8 x5h8 hμ; exact absurd hμ (Nat.not_lt_zero _)
    | succ n_8 ih_8 =>
      intro y_h8 s_h8 d_h8 e_h8 x3h8 x4h8 x5h8 hμ_8 hJ H locs hP hD hS ls hl
      obtain ⟨K_8, hK_8, h⟩ : ∃ K : Ly → St → Nat → Nat → Int32 → Int32 → Int32 → Prop, (∀ z1 z2 z3 z4 (t0 : Int32) (t1 : Int32) (t2 : Int32), K z1 z2 z3 z4 t0 t1 t2 → I_8 z1 z2 z3 z4 t0 t1 t2 ∧ μ_8 z1 z2 z3 z4 t0 t1 t2 < μ_8 y_h8 s_h8 d_h8 e_h8 x3h8 x4h8 x5h8) ∧ wba_Na_learn_8 mc ms Post K a0 n1 y_h8 s_h8 d_h8 e_h8 x3h8 x4h8 x5h8 := ⟨_, fun _ _ _ _ _ _ _ h => h, hB_8 y_h8 s_h8 d_h8 e_h8 x3h8 x4h8 x5h8 hJ⟩
      unfold wba_Na_learn_8 at h
      obtain ⟨hd, h⟩ := h
      refine lv_iload G.1 G.2.1 d_Na_learn_8 (lv_at hl 4 rfl) ?_
      refine lv_aload_n G.1 G.2.1 d_Na_learn_10 rfl (lv_at hl 1 rfl) ?_
      refine ulen hF h_n1 G hP hD hS w9_Js_length q413 ⟨Nat.le_of_ble_eq_true rfl, Nat.le_of_ble_eq_true rfl⟩ hl.1 (Nat.le_of_ble_eq_true rfl) hd d_Na_learn_11 (fun H locs hP hD hS => ?_)
      refine lv_icmp_gt (tgt := 102) G.1 G.2.1 d_Na_learn_14 (by decide) (fun c14 => ?_) (fun c14 => ?_)
      · skip
        have h := h.1 c14
        exact hret (y_h8, s_h8, d_h8, e_h8) _ _ _ _ _ ls h hP hD hS (Nat.le_refl _) (Nat.le_refl _) hd.1 hd.2 d_Na_learn_102
      · skip
        have h := h.2 c14
        refine lv_iload G.1 G.2.1 d_Na_learn_17 (lv_at hl 4 rfl) ?_
        refine lv_aload_n G.1 G.2.1 d_Na_learn_19 rfl (lv_at hl 1 rfl) ?_
        refine ulen hF h_n1 G hP hD hS w9_Js_length q413 ⟨Nat.le_of_ble_eq_true rfl, Nat.le_of_ble_eq_true rfl⟩ hl.1 (Nat.le_of_ble_eq_true rfl) hd d_Na_learn_20 (fun H locs hP hD hS => ?_)
        have J_96 : ∀ (y_j96 : Ly) (s_j96 : St) (d_j96 e_j96 : Nat) (x3j96 : Int32) (x4j96 : Int32) (x5j96 : Int32) (H : Heap) (locs : List Loc), wja_Na_learn_96 mc ms Post K_8 a0 n1 y_j96 s_j96 d_j96 e_j96 x3j96 x4j96 x5j96 → va_P D CL (ws g ad y_j96 s_j96) H → va_D A (ws g ad y_j96 s_j96) → va_S A s.heap H locs → ∀ ls, lv_has ls 7 [(0, .ref (ad a0)), (1, .ref (sk (F n1))), (3, .int x3j96), (4, .int x4j96), (5, .int x5j96)] → W p l e (ra_Na_learn mc ms) s m args below meth c H locs d_j96 e_j96 Q (F0 m 96 ls []) := by
          intro y_j96 s_j96 d_j96 e_j96 x3j96 x4j96 x5j96 H locs h hP hD hS ls hl
          unfold wja_Na_learn_96 at h
          obtain ⟨hd, h⟩ := h
          refine lv_iinc (v := x5j96 + 1) (lv' := [(5, .int (x5j96 + 1)), (0, .ref (ad a0)), (1, .ref (sk (F n1))), (3, .int x3j96), (4, .int x4j96)]) G.1 G.2.1 d_Na_learn_96 hl (k := 4) rfl rfl (by decide) rfl (fun ls hl => ?_)
          refine lv_goto (tgt := 8) G.1 G.2.1 d_Na_learn_99 (by decide) ?_
          have h := hK_8 y_j96 s_j96 d_j96 e_j96 x3j96 x4j96 (x5j96 + 1) h
          exact ih_8 y_j96 s_j96 d_j96 e_j96 x3j96 x4j96 (x5j96 + 1) (Nat.lt_of_lt_of_le h.2 (Nat.le_of_lt_succ hμ_8)) h.1 H locs hP hD hS ls (lv_sub hl [1, 2, 3, 4, 0] rfl)
        have J_57 : ∀ (y_j57 : Ly) (s_j57 : St) (d_j57 e_j57 : Nat) (x3j57 : Int32) (x4j57 : Int32) (x5j57 : Int32) (H : Heap) (locs : List Loc), wja_Na_learn_57 mc ms Post K_8 a0 n1 y_j57 s_j57 d_j57 e_j57 x3j57 x4j57 x5j57 → va_P D CL (ws g ad y_j57 s_j57) H → va_D A (ws g ad y_j57 s_j57) → va_S A s.heap H locs → ∀ ls, lv_has ls 7 [(0, .ref (ad a0)), (1, .ref (sk (F n1))), (3, .int x3j57), (4, .int x4j57), (5, .int x5j57)] → W p l e (ra_Na_learn mc ms) s m args below meth c H locs d_j57 e_j57 Q (F0 m 57 ls []) := by
          intro y_j57 s_j57 d_j57 e_j57 x3j57 x4j57 x5j57 H locs h hP hD hS ls hl
          unfold wja_Na_learn_57 at h
          obtain ⟨hd, h⟩ := h
          refine lv_aload_n G.1 G.2.1 d_Na_learn_57 rfl (lv_at hl 0 rfl) ?_
          refine lv_aload_n G.1 G.2.1 d_Na_learn_58 rfl (lv_at hl 0 rfl) ?_
          refine ugf (v := .ref (yP y_j57 a0 8)) G hP h_a0 iNa rfl 8 (by decide) rfl q512 rfl rfl d_Na_learn_59 ?_
          refine lv_iconst (v := 0) G.1 G.2.1 d_Na_learn_62 (by decide) ?_
          refine lv_iload G.1 G.2.1 d_Na_learn_63 (lv_at hl 3 rfl) ?_
          obtain ⟨mc_6, ms_7, hr_8, h⟩ := h
          refine uaVi (As := [.ref (yP y_j57 a0 8), .int 0, .int x4j57]) (rest := []) G hP hD hS (ca_Na_number l D g ad mc_6 ms_7 y_j57 _ s_j57 a0 a0 8 0 x4j57 H.size (us H) h_a0 ⟨(kdp h_a0 rfl), (typ h_a0 rfl)⟩ h) w9_Na_number q461 ⟨Nat.le_of_ble_eq_true rfl, Nat.le_of_ble_eq_true rfl⟩ rfl rfl h_a0 (q := (RNa, TNa, 11)) rfl rfl hl.1 rfl (Nat.le_of_ble_eq_true rfl) rfl hr_8 d_Na_learn_65 (fun r_1 y_3 s_2 d_4 e_5 H locs h hP hD hS => ?_)
          have hl := lv_sub (l' := [(0, .ref (ad a0)), (1, .ref (sk (F n1))), (3, .int x3j57), (5, .int x5j57)]) hl [0, 1, 2, 4] rfl
          obtain ⟨hd, h⟩ := h
          refine lv_istore (lv' := [(6, .int r_1), (0, .ref (ad a0)), (1, .ref (sk (F n1))), (3, .int x3j57), (5, .int x5j57)]) G.1 G.2.1 d_Na_learn_68 hl (by decide) rfl (fun ls hl => ?_)
          refine lv_iload_n G.1 G.2.1 d_Na_learn_70 rfl (lv_at hl 3 rfl) ?_
          have J_93 : ∀ (y_j93 : Ly) (s_j93 : St) (d_j93 e_j93 : Nat) (x3j93 : Int32) (x5j93 : Int32) (H : Heap) (locs : List Loc), wja_Na_learn_93 mc ms Post K_8 a0 n1 y_j93 s_j93 d_j93 e_j93 x3j93 x5j93 → va_P D CL (ws g ad y_j93 s_j93) H → va_D A (ws g ad y_j93 s_j93) → va_S A s.heap H locs → ∀ ls, lv_has ls 7 [(0, .ref (ad a0)), (1, .ref (sk (F n1))), (3, .int x3j93), (5, .int x5j93)] → W p l e (ra_Na_learn mc ms) s m args below meth c H locs d_j93 e_j93 Q (F0 m 93 ls []) := by
            intro y_j93 s_j93 d_j93 e_j93 x3j93 x5j93 H locs h hP hD hS ls hl
            unfold wja_Na_learn_93 at h
            obtain ⟨hd, h⟩ := h
            refine lv_iconst (v := 0) G.1 G.2.1 d_Na_learn_93 (by decide) ?_
            refine lv_istore (lv' := [(4, .int 0), (0, .ref (ad a0)), (1, .ref (sk (F n1))), (3, .int x3j93), (5, .int x5j93)]) G.1 G.2.1 d_Na_learn_94 hl (by decide) rfl (fun ls hl => ?_)
            exact J_96 y_j93 s_j93 d_j93 e_j93 x3j93 0 x5j93 H locs h hP hD hS ls (lv_sub hl [1, 2, 3, 0, 4] rfl)
          refine lv_if_lt (tgt := 93) G.1 G.2.1 d_Na_learn_71 (by decide) (fun c71 => ?_) (fun c71 => ?_)
          · skip
            have h := h.1 c71
            exact J_93 y_3 s_2 (d_j57 + d_4) (e_j57 + e_5) x3j57 x5j57 H locs h hP hD hS ls (lv_sub hl [1, 2, 3, 4] rfl)
          · skip
            have h := h.2 c71
            refine lv_iload G.1 G.2.1 d_Na_learn_74 (lv_at hl 0 rfl) ?_
            refine lv_sipush (v := 128) G.1 G.2.1 d_Na_learn_76 (by decide) ?_
            refine W.eq (g2 := F0 m 79 ls [.int 128, .int r_1]) rfl ?_
            refine lv_icmp_ge (tgt := 93) G.1 G.2.1 d_Na_learn_79 (by decide) (fun c79 => ?_) (fun c79 => ?_)
            · skip
              have h := h.1 c79
              exact J_93 y_3 s_2 (d_j57 + d_4) (e_j57 + e_5) x3j57 x5j57 H locs h hP hD hS ls (lv_sub hl [1, 2, 3, 4] rfl)
            · skip
              have h := h.2 c79
              refine lv_aload_n G.1 G.2.1 d_Na_learn_82 rfl (lv_at hl 1 rfl) ?_
              refine ugf (v := .ref (yP y_3 a0 7)) G hP h_a0 iNa rfl 7 (by decide) rfl q511 rfl rfl d_Na_learn_83 ?_
              refine lv_iload G.1 G.2.1 d_Na_learn_86 (lv_at hl 0 rfl) ?_
              refine lv_iload_n G.1 G.2.1 d_Na_learn_88 rfl (lv_at hl 3 rfl) ?_
              refine uiast G hP hD hS (kdp h_a0 rfl) (typ h_a0 rfl) h d_Na_learn_89 (fun s_9 H locs h hP hD hS => ?_)
              refine lv_iinc (v := x3j57 + 1) (lv' := [(3, .int (x3j57 + 1)), (6, .int r_1), (0, .ref (ad a0)), (1, .ref (sk (F n1))), (5, .int x5j57)]) G.1 G.2.1 d_Na_learn_90 hl (k := 3) rfl rfl (by decide) rfl (fun ls hl => ?_)
              exact J_93 y_3 s_9 (d_j57 + d_4) (e_j57 + e_5) (x3j57 + 1) x5j57 H locs h hP hD hS ls (lv_sub hl [2, 3, 0, 4] rfl)
        refine lv_icmp_ge (tgt := 57) G.1 G.2.1 d_Na_learn_23 (by decide) (fun c23 => ?_) (fun c23 => ?_)
        · skip
          have h := h.1 c23
          exact J_57 y_h8 s_h8 d_h8 e_h8 x3h8 x4h8 x5h8 H locs h hP hD hS ls (lv_sub hl [0, 1, 2, 3, 4] rfl)
        · skip
          have h := h.2 c23
          refine lv_aload_n G.1 G.2.1 d_Na_learn_26 rfl (lv_at hl 1 rfl) ?_
          refine lv_iload G.1 G.2.1 d_Na_learn_27 (lv_at hl 4 rfl) ?_
          refine uchar hF h_n1 G hP hD hS h w9_Js_charAt q423 ⟨Nat.le_of_ble_eq_true rfl, Nat.le_of_ble_eq_true rfl⟩ hl.1 (Nat.le_of_ble_eq_true rfl) hd d_Na_learn_29 (fun x_10 H locs h hP hD hS => ?_)
          refine W.eq (g2 := F0 m 32 ls [.int x_10]) rfl ?_
          refine lv_bipush (v := 32) G.1 G.2.1 d_Na_learn_32 (by decide) ?_
          refine lv_icmp_eq (tgt := 57) G.1 G.2.1 d_Na_learn_34 (by decide) (fun c34 => ?_) (fun c34 => ?_)
          · skip
            have h := h.1 c34
            exact J_57 y_h8 s_h8 d_h8 e_h8 x3h8 x4h8 x5h8 H locs h hP hD hS ls (lv_sub hl [0, 1, 2, 3, 4] rfl)
          · skip
            have h := h.2 c34
            refine lv_aload_n G.1 G.2.1 d_Na_learn_37 rfl (lv_at hl 0 rfl) ?_
            refine ugf (v := .ref (yP y_h8 a0 8)) G hP h_a0 iNa rfl 8 (by decide) rfl q512 rfl rfl d_Na_learn_38 ?_
            refine lv_iload G.1 G.2.1 d_Na_learn_41 (lv_at hl 3 rfl) ?_
            refine lv_aload_n G.1 G.2.1 d_Na_learn_43 rfl (lv_at hl 1 rfl) ?_
            refine lv_iload G.1 G.2.1 d_Na_learn_44 (lv_at hl 4 rfl) ?_
            refine uchar hF h_n1 G hP hD hS h w9_Js_charAt q423 ⟨Nat.le_of_ble_eq_true rfl, Nat.le_of_ble_eq_true rfl⟩ hl.1 (Nat.le_of_ble_eq_true rfl) hd d_Na_learn_46 (fun x_11 H locs h hP hD hS => ?_)
            refine lv_i2b G.1 G.2.1 d_Na_learn_49 rfl ?_
            refine ubast G hP hD hS (kdp h_a0 rfl) (typ h_a0 rfl) h d_Na_learn_50 (fun s_12 H locs h hP hD hS => ?_)
            refine lv_iinc (v := x4h8 + 1) (lv' := [(4, .int (x4h8 + 1)), (0, .ref (ad a0)), (1, .ref (sk (F n1))), (3, .int x3h8), (5, .int x5h8)]) G.1 G.2.1 d_Na_learn_51 hl (k := 3) rfl rfl (by decide) rfl (fun ls hl => ?_)
            refine lv_goto (tgt := 96) G.1 G.2.1 d_Na_learn_54 (by decide) ?_
            exact J_96 y_h8 s_12 d_h8 e_h8 x3h8 (x4h8 + 1) x5h8 H locs h hP hD hS ls (lv_sub hl [1, 2, 3, 0, 4] rfl)
  exact L_8 _ y σ 0 0 v2 0 0 (Nat.lt_succ_self _) hI_8 H locs hP hD hS ls (lv_sub hl [3, 4, 2, 1, 0] rfl)
theorem q510 : Cond.fieldLink "ClassWorks$Names" 36 "ClassWorks$Names" "signHead" "[I" ∈ lw_ok := lw_okmem (List.mem_of_getElem? (i := 510) (by decide +kernel)) rfl
theorem q500 : Cond.methodLink "ClassWorks$Names" 112 y_Na_isSameSign ∈ lw_ok := lw_okmem (List.mem_of_getElem? (i := 500) (by decide +kernel)) rfl
theorem q503 : Cond.code y_Na_isSameSign b_Na_isSameSign 7 (some (.boolean)) ∈ lw_ok := lw_okmem (List.mem_of_getElem? (i := 503) (by decide +kernel)) rfl
theorem q502 : Cond.instanceMethod y_Na_isSameSign ∈ lw_ok := lw_okmem (List.mem_of_getElem? (i := 502) (by decide +kernel)) rfl
theorem q2 : Cond.selects y_Na_isSameSign.cls y_Na_isSameSign y_Na_isSameSign ∈ lw_ok := lw_okmem (List.mem_of_getElem? (i := 2) (by decide +kernel)) rfl
theorem w9_Na_isSameSign : CWv y_Na_isSameSign b_Na_isSameSign 7 (some (.boolean)) 5 ∧ Cond.instanceMethod y_Na_isSameSign ∈ lw_ok ∧ Cond.selects y_Na_isSameSign.cls y_Na_isSameSign y_Na_isSameSign ∈ lw_ok := ⟨⟨q503, q330, by decide +kernel, by decide +kernel, by decide +kernel⟩, q502, q2⟩
def y_Na_sign : MethodName := ⟨"ClassWorks$Names", "sign", "(II[II)I"⟩
abbrev b_Na_sign : ByteArray := prog_7_method_8_code
theorem d_Na_sign_0 : decode b_Na_sign 0 = .ok (.iload_n 1, 1) := by decide +kernel
theorem d_Na_sign_1 : decode b_Na_sign 1 = .ok (.bipush 31, 2) := by decide +kernel
theorem d_Na_sign_3 : decode b_Na_sign 3 = .ok (.imul, 1) := by decide +kernel
theorem d_Na_sign_4 : decode b_Na_sign 4 = .ok (.iload 4, 2) := by decide +kernel
theorem d_Na_sign_6 : decode b_Na_sign 6 = .ok (.iadd, 1) := by decide +kernel
theorem d_Na_sign_7 : decode b_Na_sign 7 = .ok (.istore 5, 2) := by decide +kernel
theorem d_Na_sign_9 : decode b_Na_sign 9 = .ok (.iconst 0, 1) := by decide +kernel
theorem d_Na_sign_10 : decode b_Na_sign 10 = .ok (.istore 6, 2) := by decide +kernel
theorem d_Na_sign_12 : decode b_Na_sign 12 = .ok (.iload 6, 2) := by decide +kernel
theorem d_Na_sign_14 : decode b_Na_sign 14 = .ok (.iload_n 2, 1) := by decide +kernel
theorem d_Na_sign_15 : decode b_Na_sign 15 = .ok (.if_icmp .ge 21, 3) := by decide +kernel
theorem d_Na_sign_18 : decode b_Na_sign 18 = .ok (.iload 5, 2) := by decide +kernel
theorem d_Na_sign_20 : decode b_Na_sign 20 = .ok (.bipush 31, 2) := by decide +kernel
theorem d_Na_sign_22 : decode b_Na_sign 22 = .ok (.imul, 1) := by decide +kernel
theorem d_Na_sign_23 : decode b_Na_sign 23 = .ok (.aload_n 3, 1) := by decide +kernel
theorem d_Na_sign_24 : decode b_Na_sign 24 = .ok (.iload 6, 2) := by decide +kernel
theorem d_Na_sign_26 : decode b_Na_sign 26 = .ok (.iaload, 1) := by decide +kernel
theorem d_Na_sign_27 : decode b_Na_sign 27 = .ok (.iadd, 1) := by decide +kernel
theorem d_Na_sign_28 : decode b_Na_sign 28 = .ok (.istore 5, 2) := by decide +kernel
theorem d_Na_sign_30 : decode b_Na_sign 30 = .ok (.iinc 6 1, 3) := by decide +kernel
theorem d_Na_sign_33 : decode b_Na_sign 33 = .ok (.goto (-21), 3) := by decide +kernel
theorem d_Na_sign_36 : decode b_Na_sign 36 = .ok (.iload 5, 2) := by decide +kernel
theorem d_Na_sign_38 : decode b_Na_sign 38 = .ok (.iload 5, 2) := by decide +kernel
theorem d_Na_sign_40 : decode b_Na_sign 40 = .ok (.bipush 8, 2) := by decide +kernel
theorem d_Na_sign_42 : decode b_Na_sign 42 = .ok (.iushr, 1) := by decide +kernel
theorem d_Na_sign_43 : decode b_Na_sign 43 = .ok (.ixor, 1) := by decide +kernel
theorem d_Na_sign_44 : decode b_Na_sign 44 = .ok (.sipush 255, 3) := by decide +kernel
theorem d_Na_sign_47 : decode b_Na_sign 47 = .ok (.iand, 1) := by decide +kernel
theorem d_Na_sign_48 : decode b_Na_sign 48 = .ok (.istore 5, 2) := by decide +kernel
theorem d_Na_sign_50 : decode b_Na_sign 50 = .ok (.aload_n 0, 1) := by decide +kernel
theorem d_Na_sign_51 : decode b_Na_sign 51 = .ok (.getfield 36, 3) := by decide +kernel
theorem d_Na_sign_54 : decode b_Na_sign 54 = .ok (.iload 5, 2) := by decide +kernel
theorem d_Na_sign_56 : decode b_Na_sign 56 = .ok (.iaload, 1) := by decide +kernel
theorem d_Na_sign_57 : decode b_Na_sign 57 = .ok (.istore 6, 2) := by decide +kernel
theorem d_Na_sign_59 : decode b_Na_sign 59 = .ok (.iload 6, 2) := by decide +kernel
theorem d_Na_sign_61 : decode b_Na_sign 61 = .ok (.ifCond .lt 35, 3) := by decide +kernel
theorem d_Na_sign_64 : decode b_Na_sign 64 = .ok (.aload_n 0, 1) := by decide +kernel
theorem d_Na_sign_65 : decode b_Na_sign 65 = .ok (.iload 6, 2) := by decide +kernel
theorem d_Na_sign_67 : decode b_Na_sign 67 = .ok (.iload_n 1, 1) := by decide +kernel
theorem d_Na_sign_68 : decode b_Na_sign 68 = .ok (.iload_n 2, 1) := by decide +kernel
theorem d_Na_sign_69 : decode b_Na_sign 69 = .ok (.aload_n 3, 1) := by decide +kernel
theorem d_Na_sign_70 : decode b_Na_sign 70 = .ok (.iload 4, 2) := by decide +kernel
theorem d_Na_sign_72 : decode b_Na_sign 72 = .ok (.invokevirtual 112, 3) := by decide +kernel
theorem d_Na_sign_75 : decode b_Na_sign 75 = .ok (.ifCond .eq 6, 3) := by decide +kernel
theorem d_Na_sign_78 : decode b_Na_sign 78 = .ok (.iload 6, 2) := by decide +kernel
theorem d_Na_sign_80 : decode b_Na_sign 80 = .ok (.ireturn, 1) := by decide +kernel
theorem d_Na_sign_81 : decode b_Na_sign 81 = .ok (.aload_n 0, 1) := by decide +kernel
theorem d_Na_sign_82 : decode b_Na_sign 82 = .ok (.getfield 33, 3) := by decide +kernel
theorem d_Na_sign_85 : decode b_Na_sign 85 = .ok (.getfield 101, 3) := by decide +kernel
theorem d_Na_sign_88 : decode b_Na_sign 88 = .ok (.iload 6, 2) := by decide +kernel
theorem d_Na_sign_90 : decode b_Na_sign 90 = .ok (.iaload, 1) := by decide +kernel
theorem d_Na_sign_91 : decode b_Na_sign 91 = .ok (.istore 6, 2) := by decide +kernel
theorem d_Na_sign_93 : decode b_Na_sign 93 = .ok (.goto (-34), 3) := by decide +kernel
theorem d_Na_sign_96 : decode b_Na_sign 96 = .ok (.aload_n 0, 1) := by decide +kernel
theorem d_Na_sign_97 : decode b_Na_sign 97 = .ok (.getfield 33, 3) := by decide +kernel
theorem d_Na_sign_100 : decode b_Na_sign 100 = .ok (.aload_n 0, 1) := by decide +kernel
theorem d_Na_sign_101 : decode b_Na_sign 101 = .ok (.getfield 36, 3) := by decide +kernel
theorem d_Na_sign_104 : decode b_Na_sign 104 = .ok (.iload 5, 2) := by decide +kernel
theorem d_Na_sign_106 : decode b_Na_sign 106 = .ok (.iaload, 1) := by decide +kernel
theorem d_Na_sign_107 : decode b_Na_sign 107 = .ok (.invokevirtual 106, 3) := by decide +kernel
theorem d_Na_sign_110 : decode b_Na_sign 110 = .ok (.istore 6, 2) := by decide +kernel
theorem d_Na_sign_112 : decode b_Na_sign 112 = .ok (.aload_n 0, 1) := by decide +kernel
theorem d_Na_sign_113 : decode b_Na_sign 113 = .ok (.getfield 36, 3) := by decide +kernel
theorem d_Na_sign_116 : decode b_Na_sign 116 = .ok (.iload 5, 2) := by decide +kernel
theorem d_Na_sign_118 : decode b_Na_sign 118 = .ok (.iload 6, 2) := by decide +kernel
theorem d_Na_sign_120 : decode b_Na_sign 120 = .ok (.iastore, 1) := by decide +kernel
theorem d_Na_sign_121 : decode b_Na_sign 121 = .ok (.aload_n 0, 1) := by decide +kernel
theorem d_Na_sign_122 : decode b_Na_sign 122 = .ok (.getfield 33, 3) := by decide +kernel
theorem d_Na_sign_125 : decode b_Na_sign 125 = .ok (.iload_n 1, 1) := by decide +kernel
theorem d_Na_sign_126 : decode b_Na_sign 126 = .ok (.invokevirtual 106, 3) := by decide +kernel
theorem d_Na_sign_129 : decode b_Na_sign 129 = .ok (.pop, 1) := by decide +kernel
theorem d_Na_sign_130 : decode b_Na_sign 130 = .ok (.aload_n 0, 1) := by decide +kernel
theorem d_Na_sign_131 : decode b_Na_sign 131 = .ok (.getfield 33, 3) := by decide +kernel
theorem d_Na_sign_134 : decode b_Na_sign 134 = .ok (.iload 4, 2) := by decide +kernel
theorem d_Na_sign_136 : decode b_Na_sign 136 = .ok (.invokevirtual 106, 3) := by decide +kernel
theorem d_Na_sign_139 : decode b_Na_sign 139 = .ok (.pop, 1) := by decide +kernel
theorem d_Na_sign_140 : decode b_Na_sign 140 = .ok (.aload_n 0, 1) := by decide +kernel
theorem d_Na_sign_141 : decode b_Na_sign 141 = .ok (.getfield 33, 3) := by decide +kernel
theorem d_Na_sign_144 : decode b_Na_sign 144 = .ok (.iload_n 2, 1) := by decide +kernel
theorem d_Na_sign_145 : decode b_Na_sign 145 = .ok (.invokevirtual 106, 3) := by decide +kernel
theorem d_Na_sign_148 : decode b_Na_sign 148 = .ok (.pop, 1) := by decide +kernel
theorem d_Na_sign_149 : decode b_Na_sign 149 = .ok (.iconst 0, 1) := by decide +kernel
theorem d_Na_sign_150 : decode b_Na_sign 150 = .ok (.istore 7, 2) := by decide +kernel
theorem d_Na_sign_152 : decode b_Na_sign 152 = .ok (.iload 7, 2) := by decide +kernel
theorem d_Na_sign_154 : decode b_Na_sign 154 = .ok (.iload_n 2, 1) := by decide +kernel
theorem d_Na_sign_155 : decode b_Na_sign 155 = .ok (.if_icmp .ge 21, 3) := by decide +kernel
theorem d_Na_sign_158 : decode b_Na_sign 158 = .ok (.aload_n 0, 1) := by decide +kernel
theorem d_Na_sign_159 : decode b_Na_sign 159 = .ok (.getfield 33, 3) := by decide +kernel
theorem d_Na_sign_162 : decode b_Na_sign 162 = .ok (.aload_n 3, 1) := by decide +kernel
theorem d_Na_sign_163 : decode b_Na_sign 163 = .ok (.iload 7, 2) := by decide +kernel
theorem d_Na_sign_165 : decode b_Na_sign 165 = .ok (.iaload, 1) := by decide +kernel
theorem d_Na_sign_166 : decode b_Na_sign 166 = .ok (.invokevirtual 106, 3) := by decide +kernel
theorem d_Na_sign_169 : decode b_Na_sign 169 = .ok (.pop, 1) := by decide +kernel
theorem d_Na_sign_170 : decode b_Na_sign 170 = .ok (.iinc 7 1, 3) := by decide +kernel
theorem d_Na_sign_173 : decode b_Na_sign 173 = .ok (.goto (-21), 3) := by decide +kernel
theorem d_Na_sign_176 : decode b_Na_sign 176 = .ok (.iload 6, 2) := by decide +kernel
theorem d_Na_sign_178 : decode b_Na_sign 178 = .ok (.ireturn, 1) := by decide +kernel
abbrev ra_Na_sign (mc ms : Nat) : Room := { frames := 5, cells := mc, slots := ms, locals := 421 }
def wba_Na_sign_152 (mc ms : Nat) (Post : Ly → St → Int32 → Nat → Nat → Prop) (K_152 : Ly → St → Nat → Nat → Int32 → Int32 → Int32 → Prop) (a0 : Nat) (a3 : Nat) (k3 : Nat) (y_h152 : Ly) (s_h152 : St) (d_h152 e_h152 : Nat) (x2h152 : Int32) (x6h152 : Int32) (x7h152 : Int32) : Prop := (d_h152 ≤ mc ∧ e_h152 ≤ ms) ∧ ((x2h152 ≤ x7h152 → Post y_h152 s_h152 x6h152 d_h152 e_h152) ∧ (¬ (x2h152 ≤ x7h152) → xA y_h152 s_h152 a3 k3 x7h152 (fun x_40 : Int32 => ∃ mc_46 ms_47 : Nat, (d_h152 + mc_46 ≤ mc ∧ e_h152 + ms_47 ≤ ms) ∧ wa_In_add mc_46 ms_47 y_h152 (fun (y_43 : Ly) (s_42 : St) (r_41 : Int32) (d_44 e_45 : Nat) => (d_h152 + d_44 ≤ mc ∧ e_h152 + e_45 ≤ ms) ∧ yP y_h152 a3 k3 = yP y_43 a3 k3 ∧ K_152 y_43 s_42 (d_h152 + d_44) (e_h152 + e_45) x2h152 x6h152 (x7h152 + 1)) s_h152 (lk a0 5) x_40)))
def wla_Na_sign_152 (mc ms : Nat) (Post : Ly → St → Int32 → Nat → Nat → Prop) (a0 : Nat) (a3 : Nat) (k3 : Nat) (y_h152 : Ly) (s_h152 : St) (d_h152 e_h152 : Nat) (x2h152 : Int32) (x6h152 : Int32) (x7h152 : Int32) : Prop := ∃ (I : Ly → St → Nat → Nat → Int32 → Int32 → Int32 → Prop) (μ : Ly → St → Nat → Nat → Int32 → Int32 → Int32 → Nat), I y_h152 s_h152 d_h152 e_h152 x2h152 x6h152 x7h152 ∧ ∀ (u1 : Ly) (u2 : St) (u3 u4 : Nat) (t0 : Int32) (t1 : Int32) (t2 : Int32), I u1 u2 u3 u4 t0 t1 t2 → wba_Na_sign_152 mc ms Post (fun z1 z2 z3 z4 t0q t1q t2q => I z1 z2 z3 z4 t0q t1q t2q ∧ μ z1 z2 z3 z4 t0q t1q t2q < μ u1 u2 u3 u4 t0 t1 t2) a0 a3 k3 u1 u2 u3 u4 t0 t1 t2
def wba_Na_sign_59 (mc ms : Nat) (Post : Ly → St → Int32 → Nat → Nat → Prop) (K_59 : Ly → St → Nat → Nat → Int32 → Int32 → Int32 → Int32 → Int32 → Prop) (a0 : Nat) (a3 : Nat) (k3 : Nat) (y_h59 : Ly) (s_h59 : St) (d_h59 e_h59 : Nat) (x1h59 : Int32) (x2h59 : Int32) (x4h59 : Int32) (x5h59 : Int32) (x6h59 : Int32) : Prop := (d_h59 ≤ mc ∧ e_h59 ≤ ms) ∧ ((x6h59 < 0 → xA y_h59 s_h59 a0 6 x5h59 (fun x_2 : Int32 => ∃ mc_8 ms_9 : Nat, (d_h59 + mc_8 ≤ mc ∧ e_h59 + ms_9 ≤ ms) ∧ wa_In_add mc_8 ms_9 y_h59 (fun (y_5 : Ly) (s_4 : St) (r_3 : Int32) (d_6 e_7 : Nat) => (d_h59 + d_6 ≤ mc ∧ e_h59 + e_7 ≤ ms) ∧ yP y_h59 a3 k3 = yP y_5 a3 k3 ∧ xS y_5 s_4 a0 6 x5h59 r_3 (fun s_12 : St => ∃ mc_18 ms_19 : Nat, (d_h59 + d_6 + mc_18 ≤ mc ∧ e_h59 + e_7 + ms_19 ≤ ms) ∧ wa_In_add mc_18 ms_19 y_5 (fun (y_15 : Ly) (s_14 : St) (r_13 : Int32) (d_16 e_17 : Nat) => (d_h59 + d_6 + d_16 ≤ mc ∧ e_h59 + e_7 + e_17 ≤ ms) ∧ yP y_5 a3 k3 = yP y_15 a3 k3 ∧ ∃ mc_27 ms_28 : Nat, (d_h59 + d_6 + d_16 + mc_27 ≤ mc ∧ e_h59 + e_7 + e_17 + ms_28 ≤ ms) ∧ wa_In_add mc_27 ms_28 y_15 (fun (y_24 : Ly) (s_23 : St) (r_22 : Int32) (d_25 e_26 : Nat) => (d_h59 + d_6 + d_16 + d_25 ≤ mc ∧ e_h59 + e_7 + e_17 + e_26 ≤ ms) ∧ yP y_15 a3 k3 = yP y_24 a3 k3 ∧ ∃ mc_36 ms_37 : Nat, (d_h59 + d_6 + d_16 + d_25 + mc_36 ≤ mc ∧ e_h59 + e_7 + e_17 + e_26 + ms_37 ≤ ms) ∧ wa_In_add mc_36 ms_37 y_24 (fun (y_33 : Ly) (s_32 : St) (r_31 : Int32) (d_34 e_35 : Nat) => (d_h59 + d_6 + d_16 + d_25 + d_34 ≤ mc ∧ e_h59 + e_7 + e_17 + e_26 + e_35 ≤ ms) ∧ yP y_24 a3 k3 = yP y_33 a3 k3 ∧ wla_Na_sign_152 mc ms Post a0 a3 k3 y_33 s_32 (d_h59 + d_6 + d_16 + d_25 + d_34) (e_h59 + e_7 + e_17 + e_26 + e_35) x2h59 r_3 0) s_23 (lk a0 5) x2h59) s_14 (lk a0 5) x4h59) s_12 (lk a0 5) x1h59)) s_h59 (lk a0 5) x_2)) ∧ (¬ (x6h59 < 0) → wu_Na_isSameSign y_h59 (fun (s_51 : St) (r_50 : Int32) => ((r_50 = 0 → xA y_h59 s_51 (lk a0 5) 0 x6h59 (fun x_52 : Int32 => K_59 y_h59 s_51 d_h59 e_h59 x1h59 x2h59 x4h59 x5h59 x_52)) ∧ (¬ (r_50 = 0) → Post y_h59 s_51 x6h59 d_h59 e_h59))) s_h59 a0 x6h59 x1h59 x2h59 a3 k3 x4h59))
def wla_Na_sign_59 (mc ms : Nat) (Post : Ly → St → Int32 → Nat → Nat → Prop) (a0 : Nat) (a3 : Nat) (k3 : Nat) (y_h59 : Ly) (s_h59 : St) (d_h59 e_h59 : Nat) (x1h59 : Int32) (x2h59 : Int32) (x4h59 : Int32) (x5h59 : Int32) (x6h59 : Int32) : Prop := ∃ (I : Ly → St → Nat → Nat → Int32 → Int32 → Int32 → Int32 → Int32 → Prop) (μ : Ly → St → Nat → Nat → Int32 → Int32 → Int32 → Int32 → Int32 → Nat), I y_h59 s_h59 d_h59 e_h59 x1h59 x2h59 x4h59 x5h59 x6h59 ∧ ∀ (u1 : Ly) (u2 : St) (u3 u4 : Nat) (t0 : Int32) (t1 : Int32) (t2 : Int32) (t3 : Int32) (t4 : Int32), I u1 u2 u3 u4 t0 t1 t2 t3 t4 → wba_Na_sign_59 mc ms Post (fun z1 z2 z3 z4 t0q t1q t2q t3q t4q => I z1 z2 z3 z4 t0q t1q t2q t3q t4q ∧ μ z1 z2 z3 z4 t0q t1q t2q t3q t4q < μ u1 u2 u3 u4 t0 t1 t2 t3 t4) a0 a3 k3 u1 u2 u3 u4 t0 t1 t2 t3 t4
def wba_Na_sign_12 (mc ms : Nat) (Post : Ly → St → Int32 → Nat → Nat → Prop) (K_12 : Ly → St → Nat → Nat → Int32 → Int32 → Int32 → Int32 → Int32 → Prop) (a0 : Nat) (a3 : Nat) (k3 : Nat) (y_h12 : Ly) (s_h12 : St) (d_h12 e_h12 : Nat) (x1h12 : Int32) (x2h12 : Int32) (x4h12 : Int32) (x5h12 : Int32) (x6h12 : Int32) : Prop := (d_h12 ≤ mc ∧ e_h12 ≤ ms) ∧ ((x2h12 ≤ x6h12 → xA y_h12 s_h12 a0 6 ((x5h12 ^^^ ((x5h12.toUInt32 >>> ((8 : Int32).toUInt32 &&& Int32.toUInt32 31)).toInt32)) &&& 255) (fun x_1 : Int32 => wla_Na_sign_59 mc ms Post a0 a3 k3 y_h12 s_h12 d_h12 e_h12 x1h12 x2h12 x4h12 ((x5h12 ^^^ ((x5h12.toUInt32 >>> ((8 : Int32).toUInt32 &&& Int32.toUInt32 31)).toInt32)) &&& 255) x_1)) ∧ (¬ (x2h12 ≤ x6h12) → xA y_h12 s_h12 a3 k3 x6h12 (fun x_53 : Int32 => K_12 y_h12 s_h12 d_h12 e_h12 x1h12 x2h12 x4h12 ((x5h12 * 31) + x_53) (x6h12 + 1))))
def wla_Na_sign_12 (mc ms : Nat) (Post : Ly → St → Int32 → Nat → Nat → Prop) (a0 : Nat) (a3 : Nat) (k3 : Nat) (y_h12 : Ly) (s_h12 : St) (d_h12 e_h12 : Nat) (x1h12 : Int32) (x2h12 : Int32) (x4h12 : Int32) (x5h12 : Int32) (x6h12 : Int32) : Prop := ∃ (I : Ly → St → Nat → Nat → Int32 → Int32 → Int32 → Int32 → Int32 → Prop) (μ : Ly → St → Nat → Nat → Int32 → Int32 → Int32 → Int32 → Int32 → Nat), I y_h12 s_h12 d_h12 e_h12 x1h12 x2h12 x4h12 x5h12 x6h12 ∧ ∀ (u1 : Ly) (u2 : St) (u3 u4 : Nat) (t0 : Int32) (t1 : Int32) (t2 : Int32) (t3 : Int32) (t4 : Int32), I u1 u2 u3 u4 t0 t1 t2 t3 t4 → wba_Na_sign_12 mc ms Post (fun z1 z2 z3 z4 t0q t1q t2q t3q t4q => I z1 z2 z3 z4 t0q t1q t2q t3q t4q ∧ μ z1 z2 z3 z4 t0q t1q t2q t3q t4q < μ u1 u2 u3 u4 t0 t1 t2 t3 t4) a0 a3 k3 u1 u2 u3 u4 t0 t1 t2 t3 t4
def wa_Na_sign (mc ms : Nat) (y : Ly) (Post : Ly → St → Int32 → Nat → Nat → Prop) (σ : St) (a0 : Nat) (v1 : Int32) (v2 : Int32) (a3 : Nat) (k3 : Nat) (v4 : Int32) : Prop := wla_Na_sign_12 mc ms Post a0 a3 k3 y σ 0 0 v1 v2 v4 ((v1 * 31) + v4) 0
set_option maxHeartbeats 4000000 in
set_option maxRecDepth 100000 in
theorem ca_Na_sign (l : Launch) (D : va_G) (g : Nat → ClassId) (ad : Nat → Nat) (mc ms : Nat) (y : Ly) (Post : Ly → St → Int32 → Nat → Nat → Prop) (σ : St) (a0 : Nat) (v1 : Int32) (v2 : Int32) (a3 : Nat) (k3 : Nat) (v4 : Int32) (sz uz : Nat) (h_a0 : cl a0 = 5) (h_a3 : kd (cl a3) k3 = 2 ∧ tyx (cl a3) k3 = 0) (h : wa_Na_sign mc ms y Post σ a0 v1 v2 a3 k3 v4) : Met l y_Na_sign (mw y_Na_sign b_Na_sign 8 (some .int)) (ra_Na_sign mc ms) (PCu g D [] [.ref (ad a0), .int v1, .int v2, .ref (yP y a3 k3), .int v4] sz uz (ws g ad y σ)) (va_Qi (fun (r : Int32) (u : Ly × St × Nat × Nat) => Post u.1 u.2.1 r u.2.2.1 u.2.2.2) (QU D (va_A (ws g ad y σ) sz) (fun u => ws g ad u.1 u.2.1) sz uz (fun u => u.2.2.1) (fun u => u.2.2.2)) (va_A (ws g ad y σ) sz)) mc ms (va_A (ws g ad y σ) sz) := by
  refine ofIu (by decide +kernel) (Nat.le_of_ble_eq_true rfl) ?_
  intro p e s m args below meth c A Q ls H locs G hsz hP hD hS hl hret
  subst hsz
  have hl : lv_has ls 8 [(0, .ref (ad a0)), (1, .int v1), (2, .int v2), (3, .ref (yP y a3 k3)), (4, .int v4)] := hl
  have hd : 0 ≤ mc ∧ 0 ≤ ms := ⟨Nat.zero_le _, Nat.zero_le _⟩
  unfold wa_Na_sign at h
  refine lv_iload_n G.1 G.2.1 d_Na_sign_0 rfl (lv_at hl 1 rfl) ?_
  refine lv_bipush (v := 31) G.1 G.2.1 d_Na_sign_1 (by decide) ?_
  refine lv_imul G.1 G.2.1 d_Na_sign_3 ?_
  refine lv_iload G.1 G.2.1 d_Na_sign_4 (lv_at hl 4 rfl) ?_
  refine lv_iadd G.1 G.2.1 d_Na_sign_6 ?_
  refine lv_istore (lv' := [(5, .int ((v1 * 31) + v4)), (0, .ref (ad a0)), (1, .int v1), (2, .int v2), (3, .ref (yP y a3 k3)), (4, .int v4)]) G.1 G.2.1 d_Na_sign_7 hl (by decide) rfl (fun ls hl => ?_)
  refine lv_iconst (v := 0) G.1 G.2.1 d_Na_sign_9 (by decide) ?_
  refine lv_istore (lv' := [(6, .int 0), (5, .int ((v1 * 31) + v4)), (0, .ref (ad a0)), (1, .int v1), (2, .int v2), (3, .ref (yP y a3 k3)), (4, .int v4)]) G.1 G.2.1 d_Na_sign_10 hl (by decide) rfl (fun ls hl => ?_)
  unfold wla_Na_sign_12 at h
  obtain ⟨I_12, μ_12, hI_12, hB_12⟩ := h
  have L_12 : ∀ (n_12 : Nat) (y_h12 : Ly) (s_h12 : St) (d_h12 e_h12 : Nat) (x1h12 : Int32) (x2h12 : Int32) (x4h12 : Int32) (x5h12 : Int32) (x6h12 : Int32), μ_12 y_h12 s_h12 d_h12 e_h12 x1h12 x2h12 x4h12 x5h12 x6h12 < n_12 → I_12 y_h12 s_h12 d_h12 e_h12 x1h12 x2h12 x4h12 x5h12 x6h12 → ∀ (H : Heap) (locs : List Loc), va_P D CL (ws g ad y_h12 s_h12) H → va_D A (ws g ad y_h12 s_h12) → va_S A s.heap H locs → ∀ ls, lv_has ls 8 [(0, .ref (ad a0)), (1, .int x1h12), (2, .int x2h12), (3, .ref (yP y_h12 a3 k3)), (4, .int x4h12), (5, .int x5h12), (6, .int x6h12)] → W p l e (ra_Na_sign mc ms) s m args below meth c H locs d_h12 e_h12 Q (F0 m 12 ls []) := by
    intro n_12
    induction n_12 with
    | zero => intro y_h12 s_h12 d_h12 e_h12 x1h12 x2h12 x4h12 x5h12 x6h12 hμ; exact absurd hμ (Nat.not_lt_zero _)
    | succ n_12 ih_12 =>
      intro y_h12 s_h12 d_h12 e_h12 x1h12 x2h12 x4h12 x5h12 x6h12 hμ_12 hJ H locs hP hD hS ls hl
      obtain ⟨K_12, hK_12, h⟩ : ∃ K : Ly → St → Nat → Nat → Int32 → Int32 → Int32 → Int32 → Int32 → Prop, (∀ z1 z2 z3 z4 (t0 : Int32) (t1 : Int32) (t2 : Int32) (t3 : Int32) (t4 : Int32), K z1 z2 z3 z4 t0 t1 t2 t3 t4 → I_12 z1 z2 z3 z4 t0 t1 t2 t3 t4 ∧ μ_12 z1 z2 z3 z4 t0 t1 t2 t3 t4 < μ_12 y_h12 s_h12 d_h12 e_h12 x1h12 x2h12 x4h12 x5h12 x6h12) ∧ wba_Na_sign_12 mc ms Post K a0 a3 k3 y_h12 s_h12 d_h12 e_h12 x1h12 x2h12 x4h12 x5h12 x6h12 := ⟨_, fun _ _ _ _ _ _ _ _ _ h => h, hB_12 y_h12 s_h12 d_h12 e_h12 x1h12 x2h12 x4h12 x5h12 x6h12 hJ⟩
      unfold wba_Na_sign_12 at h
      obtain ⟨hd, h⟩ := h
      refine lv_iload G.1 G.2.1 d_Na_sign_12 (lv_at hl 6 rfl) ?_
      refine lv_iload_n G.1 G.2.1 d_Na_sign_14 rfl (lv_at hl 2 rfl) ?_
      refine lv_icmp_ge (tgt := 36) G.1 G.2.1 d_Na_sign_15 (by decide) (fun c15 => ?_) (fun c15 => ?_)
      · skip
        have h := h.1 c15
        refine lv_iload G.1 G.2.1 d_Na_sign_36 (lv_at hl 5 rfl) ?_
        refine lv_iload G.1 G.2.1 d_Na_sign_38 (lv_at hl 5 rfl) ?_
        refine lv_bipush (v := 8) G.1 G.2.1 d_Na_sign_40 (by decide) ?_
        refine lv_iushr G.1 G.2.1 d_Na_sign_42 rfl ?_
        refine lv_ixor G.1 G.2.1 d_Na_sign_43 ?_
        refine lv_sipush (v := 255) G.1 G.2.1 d_Na_sign_44 (by decide) ?_
        refine lv_iand G.1 G.2.1 d_Na_sign_47 ?_
        refine lv_istore (lv' := [(5, .int ((x5h12 ^^^ ((x5h12.toUInt32 >>> ((8 : Int32).toUInt32 &&& Int32.toUInt32 31)).toInt32)) &&& 255)), (0, .ref (ad a0)), (1, .int x1h12), (2, .int x2h12), (3, .ref (yP y_h12 a3 k3)), (4, .int x4h12), (6, .int x6h12)]) G.1 G.2.1 d_Na_sign_48 hl (by decide) rfl (fun ls hl => ?_)
        refine W.eq (g2 := F0 m 50 ls []) rfl ?_
        refine lv_aload_n G.1 G.2.1 d_Na_sign_50 rfl (lv_at hl 1 rfl) ?_
        refine ugf (v := .ref (yP y_h12 a0 6)) G hP h_a0 iNa rfl 6 (by decide) rfl q510 rfl rfl d_Na_sign_51 ?_
        refine lv_iload G.1 G.2.1 d_Na_sign_54 (lv_at hl 0 rfl) ?_
        refine uiald G hP (kdp h_a0 rfl) (typ h_a0 rfl) h d_Na_sign_56 (fun x_1 h => ?_)
        refine lv_istore (lv' := [(6, .int x_1), (5, .int ((x5h12 ^^^ ((x5h12.toUInt32 >>> ((8 : Int32).toUInt32 &&& Int32.toUInt32 31)).toInt32)) &&& 255)), (0, .ref (ad a0)), (1, .int x1h12), (2, .int x2h12), (3, .ref (yP y_h12 a3 k3)), (4, .int x4h12)]) G.1 G.2.1 d_Na_sign_57 hl (by decide) rfl (fun ls hl => ?_)
        unfold wla_Na_sign_59 at h
        obtain ⟨I_59, μ_59, hI_59, hB_59⟩ := h
        have L_59 : ∀ (n_59 : Nat) (y_h59 : Ly) (s_h59 : St) (d_h59 e_h59 : Nat) (x1h59 : Int32) (x2h59 : Int32) (x4h59 : Int32) (x5h59 : Int32) (x6h59 : Int32), μ_59 y_h59 s_h59 d_h59 e_h59 x1h59 x2h59 x4h59 x5h59 x6h59 < n_59 → I_59 y_h59 s_h59 d_h59 e_h59 x1h59 x2h59 x4h59 x5h59 x6h59 → ∀ (H : Heap) (locs : List Loc), va_P D CL (ws g ad y_h59 s_h59) H → va_D A (ws g ad y_h59 s_h59) → va_S A s.heap H locs → ∀ ls, lv_has ls 8 [(0, .ref (ad a0)), (1, .int x1h59), (2, .int x2h59), (3, .ref (yP y_h59 a3 k3)), (4, .int x4h59), (5, .int x5h59), (6, .int x6h59)] → W p l e (ra_Na_sign mc ms) s m args below meth c H locs d_h59 e_h59 Q (F0 m 59 ls []) := by
          intro n_59
          induction n_59 with
          | zero => intro y_h59 s_h59 d_h59 e_h59 x1h59 x2h59 x4h59 x5h59 x6h59 hμ; exact absurd hμ (Nat.not_lt_zero _)
          | succ n_59 ih_59 =>
            intro y_h59 s_h59 d_h59 e_h59 x1h59 x2h59 x4h59 x5h59 x6h59 hμ_59 hJ H locs hP hD hS ls hl
            obtain ⟨K_59, hK_59, h⟩ : ∃ K : Ly → St → Nat → Nat → Int32 → Int32 → Int32 → Int32 → Int32 → Prop, (∀ z1 z2 z3 z4 (t0 : Int32) (t1 : Int32) (t2 : Int32) (t3 : Int32) (t4 : Int32), K z1 z2 z3 z4 t0 t1 t2 t3 t4 → I_59 z1 z2 z3 z4 t0 t1 t2 t3 t4 ∧ μ_59 z1 z2 z3 z4 t0 t1 t2 t3 t4 < μ_59 y_h59 s_h59 d_h59 e_h59 x1h59 x2h59 x4h59 x5h59 x6h59) ∧ wba_Na_sign_59 mc ms Post K a0 a3 k3 y_h59 s_h59 d_h59 e_h59 x1h59 x2h59 x4h59 x5h59 x6h59 := ⟨_, fun _ _ _ _ _ _ _ _ _ h => h, hB_59 y_h59 s_h59 d_h59 e_h59 x1h59 x2h59 x4h59 x5h59 x6h59 hJ⟩
            unfold wba_Na_sign_59 at h
            obtain ⟨hd, h⟩ := h
            refine lv_iload G.1 G.2.1 d_Na_sign_59 (lv_at hl 6 rfl) ?_
            refine lv_if_lt (tgt := 96) G.1 G.2.1 d_Na_sign_61 (by decide) (fun c61 => ?_) (fun c61 => ?_)
            · skip
              have h := h.1 c61
              refine lv_aload_n G.1 G.2.1 d_Na_sign_96 rfl (lv_at hl 0 rfl) ?_
              refine ugf (v := .ref (ad (lk a0 5))) G hP h_a0 iNa rfl 5 (by decide) rfl q509 rfl rfl d_Na_sign_97 ?_
              refine lv_aload_n G.1 G.2.1 d_Na_sign_100 rfl (lv_at hl 0 rfl) ?_
              refine ugf (v := .ref (yP y_h59 a0 6)) G hP h_a0 iNa rfl 6 (by decide) rfl q510 rfl rfl d_Na_sign_101 ?_
              refine lv_iload G.1 G.2.1 d_Na_sign_104 (lv_at hl 5 rfl) ?_
              refine uiald G hP (kdp h_a0 rfl) (typ h_a0 rfl) h d_Na_sign_106 (fun x_2 h => ?_)
              obtain ⟨mc_8, ms_9, hr_10, h⟩ := h
              refine uaVi (As := [.int x_2]) (rest := []) G hP hD hS (ca_In_add l D g [] ad mc_8 ms_9 y_h59 _ s_h59 (lk a0 5) x_2 H.size (us H) (lk_5_5 h_a0) h) w9_In_add q469 ⟨Nat.le_of_ble_eq_true rfl, Nat.le_of_ble_eq_true rfl⟩ rfl rfl (lk_5_5 h_a0) (q := (RIn, TIn, 2)) rfl rfl hl.1 rfl (Nat.le_of_ble_eq_true rfl) rfl hr_10 d_Na_sign_107 (fun r_3 y_5 s_4 d_6 e_7 H locs h hP hD hS => ?_)
              have hl := lv_sub (l' := [(0, .ref (ad a0)), (1, .int x1h59), (2, .int x2h59), (3, .ref (yP y_h59 a3 k3)), (4, .int x4h59), (5, .int x5h59)]) hl [0, 1, 2, 3, 4, 5] rfl
              obtain ⟨hd, h⟩ := h
              obtain ⟨n_11, h⟩ := h
              rw [n_11] at hl
              refine lv_istore (lv' := [(6, .int r_3), (0, .ref (ad a0)), (1, .int x1h59), (2, .int x2h59), (3, .ref (yP y_5 a3 k3)), (4, .int x4h59), (5, .int x5h59)]) G.1 G.2.1 d_Na_sign_110 hl (by decide) rfl (fun ls hl => ?_)
              refine lv_aload_n G.1 G.2.1 d_Na_sign_112 rfl (lv_at hl 1 rfl) ?_
              refine W.eq (g2 := F0 m 113 ls [.ref (ad a0)]) rfl ?_
              refine ugf (v := .ref (yP y_5 a0 6)) G hP h_a0 iNa rfl 6 (by decide) rfl q510 rfl rfl d_Na_sign_113 ?_
              refine lv_iload G.1 G.2.1 d_Na_sign_116 (lv_at hl 6 rfl) ?_
              refine lv_iload G.1 G.2.1 d_Na_sign_118 (lv_at hl 0 rfl) ?_
              refine uiast G hP hD hS (kdp h_a0 rfl) (typ h_a0 rfl) h d_Na_sign_120 (fun s_12 H locs h hP hD hS => ?_)
              refine lv_aload_n G.1 G.2.1 d_Na_sign_121 rfl (lv_at hl 1 rfl) ?_
              refine ugf (v := .ref (ad (lk a0 5))) G hP h_a0 iNa rfl 5 (by decide) rfl q509 rfl rfl d_Na_sign_122 ?_
              refine lv_iload_n G.1 G.2.1 d_Na_sign_125 rfl (lv_at hl 2 rfl) ?_
              obtain ⟨mc_18, ms_19, hr_20, h⟩ := h
              refine uaVi (As := [.int x1h59]) (rest := []) G hP hD hS (ca_In_add l D g [] ad mc_18 ms_19 y_5 _ s_12 (lk a0 5) x1h59 H.size (us H) (lk_5_5 h_a0) h) w9_In_add q469 ⟨Nat.le_of_ble_eq_true rfl, Nat.le_of_ble_eq_true rfl⟩ rfl rfl (lk_5_5 h_a0) (q := (RIn, TIn, 2)) rfl rfl hl.1 rfl (Nat.le_of_ble_eq_true rfl) rfl hr_20 d_Na_sign_126 (fun r_13 y_15 s_14 d_16 e_17 H locs h hP hD hS => ?_)
              have hl := lv_sub (l' := [(6, .int r_3), (0, .ref (ad a0)), (2, .int x2h59), (3, .ref (yP y_5 a3 k3)), (4, .int x4h59)]) hl [0, 1, 3, 4, 5] rfl
              obtain ⟨hd, h⟩ := h
              obtain ⟨n_21, h⟩ := h
              rw [n_21] at hl
              refine lv_pop G.1 G.2.1 d_Na_sign_129 rfl ?_
              refine lv_aload_n G.1 G.2.1 d_Na_sign_130 rfl (lv_at hl 1 rfl) ?_
              refine ugf (v := .ref (ad (lk a0 5))) G hP h_a0 iNa rfl 5 (by decide) rfl q509 rfl rfl d_Na_sign_131 ?_
              refine lv_iload G.1 G.2.1 d_Na_sign_134 (lv_at hl 4 rfl) ?_
              refine W.eq (g2 := F0 m 136 ls [.int x4h59, .ref (ad (lk a0 5))]) rfl ?_
              obtain ⟨mc_27, ms_28, hr_29, h⟩ := h
              refine uaVi (As := [.int x4h59]) (rest := []) G hP hD hS (ca_In_add l D g [] ad mc_27 ms_28 y_15 _ s_14 (lk a0 5) x4h59 H.size (us H) (lk_5_5 h_a0) h) w9_In_add q469 ⟨Nat.le_of_ble_eq_true rfl, Nat.le_of_ble_eq_true rfl⟩ rfl rfl (lk_5_5 h_a0) (q := (RIn, TIn, 2)) rfl rfl hl.1 rfl (Nat.le_of_ble_eq_true rfl) rfl hr_29 d_Na_sign_136 (fun r_22 y_24 s_23 d_25 e_26 H locs h hP hD hS => ?_)
              have hl := lv_sub (l' := [(6, .int r_3), (0, .ref (ad a0)), (2, .int x2h59), (3, .ref (yP y_15 a3 k3))]) hl [0, 1, 2, 3] rfl
              obtain ⟨hd, h⟩ := h
              obtain ⟨n_30, h⟩ := h
              rw [n_30] at hl
              refine lv_pop G.1 G.2.1 d_Na_sign_139 rfl ?_
              refine lv_aload_n G.1 G.2.1 d_Na_sign_140 rfl (lv_at hl 1 rfl) ?_
              refine ugf (v := .ref (ad (lk a0 5))) G hP h_a0 iNa rfl 5 (by decide) rfl q509 rfl rfl d_Na_sign_141 ?_
              refine lv_iload_n G.1 G.2.1 d_Na_sign_144 rfl (lv_at hl 2 rfl) ?_
              obtain ⟨mc_36, ms_37, hr_38, h⟩ := h
              refine uaVi (As := [.int x2h59]) (rest := []) G hP hD hS (ca_In_add l D g [] ad mc_36 ms_37 y_24 _ s_23 (lk a0 5) x2h59 H.size (us H) (lk_5_5 h_a0) h) w9_In_add q469 ⟨Nat.le_of_ble_eq_true rfl, Nat.le_of_ble_eq_true rfl⟩ rfl rfl (lk_5_5 h_a0) (q := (RIn, TIn, 2)) rfl rfl hl.1 rfl (Nat.le_of_ble_eq_true rfl) rfl hr_38 d_Na_sign_145 (fun r_31 y_33 s_32 d_34 e_35 H locs h hP hD hS => ?_)
              obtain ⟨hd, h⟩ := h
              obtain ⟨n_39, h⟩ := h
              rw [n_39] at hl
              refine lv_pop G.1 G.2.1 d_Na_sign_148 rfl ?_
              refine lv_iconst (v := 0) G.1 G.2.1 d_Na_sign_149 (by decide) ?_
              refine lv_istore (lv' := [(7, .int 0), (6, .int r_3), (0, .ref (ad a0)), (2, .int x2h59), (3, .ref (yP y_33 a3 k3))]) G.1 G.2.1 d_Na_sign_150 hl (by decide) rfl (fun ls hl => ?_)
              unfold wla_Na_sign_152 at h
              obtain ⟨I_152, μ_152, hI_152, hB_152⟩ := h
              have L_152 : ∀ (n_152 : Nat) (y_h152 : Ly) (s_h152 : St) (d_h152 e_h152 : Nat) (x2h152 : Int32) (x6h152 : Int32) (x7h152 : Int32), μ_152 y_h152 s_h152 d_h152 e_h152 x2h152 x6h152 x7h152 < n_152 → I_152 y_h152 s_h152 d_h152 e_h152 x2h152 x6h152 x7h152 → ∀ (H : Heap) (locs : List Loc), va_P D CL (ws g ad y_h152 s_h152) H → va_D A (ws g ad y_h152 s_h152) → va_S A s.heap H locs → ∀ ls, lv_has ls 8 [(0, .ref (ad a0)), (2, .int x2h152), (3, .ref (yP y_h152 a3 k3)), (6, .int x6h152), (7, .int x7h152)] → W p l e (ra_Na_sign mc ms) s m args below meth c H locs d_h152 e_h152 Q (F0 m 152 ls []) := by
                intro n_152
                induction n_152 with
                | zero => intro y_h152 s_h152 d_h152 e_h152 x2h152 x6h152 x7h152 hμ; exact absurd hμ (Nat.not_lt_zero _)
                | succ n_152 ih_152 =>
                  intro y_h152 s_h152 d_h152 e_h152 x2h152 x6h152 x7h152 hμ_152 hJ H locs hP hD hS ls hl
                  obtain ⟨K_152, hK_152, h⟩ : ∃ K : Ly → St → Nat → Nat → Int32 → Int32 → Int32 → Prop, (∀ z1 z2 z3 z4 (t0 : Int32) (t1 : Int32) (t2 : Int32), K z1 z2 z3 z4 t0 t1 t2 → I_152 z1 z2 z3 z4 t0 t1 t2 ∧ μ_152 z1 z2 z3 z4 t0 t1 t2 < μ_152 y_h152 s_h152 d_h152 e_h152 x2h152 x6h152 x7h152) ∧ wba_Na_sign_152 mc ms Post K a0 a3 k3 y_h152 s_h152 d_h152 e_h152 x2h152 x6h152 x7h152 := ⟨_, fun _ _ _ _ _ _ _ h => h, hB_152 y_h152 s_h152 d_h152 e_h152 x2h152 x6h152 x7h152 hJ⟩
                  unfold wba_Na_sign_152 at h
                  obtain ⟨hd, h⟩ := h
                  refine lv_iload G.1 G.2.1 d_Na_sign_152 (lv_at hl 4 rfl) ?_
                  refine lv_iload_n G.1 G.2.1 d_Na_sign_154 rfl (lv_at hl 1 rfl) ?_
                  refine lv_icmp_ge (tgt := 176) G.1 G.2.1 d_Na_sign_155 (by decide) (fun c155 => ?_) (fun c155 => ?_)
                  · skip
                    have h := h.1 c155
                    refine lv_iload G.1 G.2.1 d_Na_sign_176 (lv_at hl 3 rfl) ?_
                    exact hret _ (y_h152, s_h152, d_h152, e_h152) _ _ _ _ _ ls h hP hD hS (Nat.le_refl _) (Nat.le_refl _) hd.1 hd.2 d_Na_sign_178
                  · skip
                    have h := h.2 c155
                    refine lv_aload_n G.1 G.2.1 d_Na_sign_158 rfl (lv_at hl 0 rfl) ?_
                    refine ugf (v := .ref (ad (lk a0 5))) G hP h_a0 iNa rfl 5 (by decide) rfl q509 rfl rfl d_Na_sign_159 ?_
                    refine lv_aload_n G.1 G.2.1 d_Na_sign_162 rfl (lv_at hl 2 rfl) ?_
                    refine lv_iload G.1 G.2.1 d_Na_sign_163 (lv_at hl 4 rfl) ?_
                    refine uiald G hP h_a3.1 h_a3.2 h d_Na_sign_165 (fun x_40 h => ?_)
                    obtain ⟨mc_46, ms_47, hr_48, h⟩ := h
                    refine uaVi (As := [.int x_40]) (rest := []) G hP hD hS (ca_In_add l D g [] ad mc_46 ms_47 y_h152 _ s_h152 (lk a0 5) x_40 H.size (us H) (lk_5_5 h_a0) h) w9_In_add q469 ⟨Nat.le_of_ble_eq_true rfl, Nat.le_of_ble_eq_true rfl⟩ rfl rfl (lk_5_5 h_a0) (q := (RIn, TIn, 2)) rfl rfl hl.1 rfl (Nat.le_of_ble_eq_true rfl) rfl hr_48 d_Na_sign_166 (fun r_41 y_43 s_42 d_44 e_45 H locs h hP hD hS => ?_)
                    obtain ⟨hd, h⟩ := h
                    obtain ⟨n_49, h⟩ := h
                    rw [n_49] at hl
                    refine lv_pop G.1 G.2.1 d_Na_sign_169 rfl ?_
                    refine lv_iinc (v := x7h152 + 1) (lv' := [(7, .int (x7h152 + 1)), (0, .ref (ad a0)), (2, .int x2h152), (3, .ref (yP y_43 a3 k3)), (6, .int x6h152)]) G.1 G.2.1 d_Na_sign_170 hl (k := 4) rfl rfl (by decide) rfl (fun ls hl => ?_)
                    refine W.eq (g2 := F0 m 173 ls []) rfl ?_
                    refine lv_goto (tgt := 152) G.1 G.2.1 d_Na_sign_173 (by decide) ?_
                    have h := hK_152 y_43 s_42 (d_h152 + d_44) (e_h152 + e_45) x2h152 x6h152 (x7h152 + 1) h
                    exact ih_152 y_43 s_42 (d_h152 + d_44) (e_h152 + e_45) x2h152 x6h152 (x7h152 + 1) (Nat.lt_of_lt_of_le h.2 (Nat.le_of_lt_succ hμ_152)) h.1 H locs hP hD hS ls (lv_sub hl [1, 2, 3, 4, 0] rfl)
              exact L_152 _ y_33 s_32 (d_h59 + d_6 + d_16 + d_25 + d_34) (e_h59 + e_7 + e_17 + e_26 + e_35) x2h59 r_3 0 (Nat.lt_succ_self _) hI_152 H locs hP hD hS ls (lv_sub hl [2, 3, 4, 1, 0] rfl)
            · skip
              have h := h.2 c61
              refine lv_aload_n G.1 G.2.1 d_Na_sign_64 rfl (lv_at hl 0 rfl) ?_
              refine lv_iload G.1 G.2.1 d_Na_sign_65 (lv_at hl 6 rfl) ?_
              refine lv_iload_n G.1 G.2.1 d_Na_sign_67 rfl (lv_at hl 1 rfl) ?_
              refine lv_iload_n G.1 G.2.1 d_Na_sign_68 rfl (lv_at hl 2 rfl) ?_
              refine lv_aload_n G.1 G.2.1 d_Na_sign_69 rfl (lv_at hl 3 rfl) ?_
              refine lv_iload G.1 G.2.1 d_Na_sign_70 (lv_at hl 4 rfl) ?_
              refine ucVi (As := [.int x6h59, .int x1h59, .int x2h59, .ref (yP y_h59 a3 k3), .int x4h59]) (rest := []) G hP hD hS (cu_Na_isSameSign l D g ad y_h59 _ s_h59 a0 x6h59 x1h59 x2h59 a3 k3 x4h59 H.size h_a0 ⟨h_a3.1, h_a3.2⟩ h) w9_Na_isSameSign q500 ⟨Nat.le_of_ble_eq_true rfl, Nat.le_of_ble_eq_true rfl⟩ rfl rfl h_a0 (q := (RNa, TNa, 11)) rfl rfl hl.1 rfl (Nat.le_of_ble_eq_true rfl) rfl hd d_Na_sign_72 (fun r_50 s_51 H locs h hP hD hS => ?_)
              refine lv_if_eq (tgt := 81) G.1 G.2.1 d_Na_sign_75 (by decide) (fun c75 => ?_) (fun c75 => ?_)
              · skip
                have h := h.1 c75
                refine lv_aload_n G.1 G.2.1 d_Na_sign_81 rfl (lv_at hl 0 rfl) ?_
                refine W.eq (g2 := F0 m 82 ls [.ref (ad a0)]) rfl ?_
                refine ugf (v := .ref (ad (lk a0 5))) G hP h_a0 iNa rfl 5 (by decide) rfl q509 rfl rfl d_Na_sign_82 ?_
                refine ugf (v := .ref (yP y_h59 (lk a0 5) 0)) G hP (lk_5_5 h_a0) iIn rfl 0 (by decide) rfl q381 rfl rfl d_Na_sign_85 ?_
                refine lv_iload G.1 G.2.1 d_Na_sign_88 (lv_at hl 6 rfl) ?_
                refine uiald G hP (kdp (lk_5_5 h_a0) rfl) (typ (lk_5_5 h_a0) rfl) h d_Na_sign_90 (fun x_52 h => ?_)
                refine lv_istore (lv' := [(6, .int x_52), (0, .ref (ad a0)), (1, .int x1h59), (2, .int x2h59), (3, .ref (yP y_h59 a3 k3)), (4, .int x4h59), (5, .int x5h59)]) G.1 G.2.1 d_Na_sign_91 hl (by decide) rfl (fun ls hl => ?_)
                refine lv_goto (tgt := 59) G.1 G.2.1 d_Na_sign_93 (by decide) ?_
                have h := hK_59 y_h59 s_51 d_h59 e_h59 x1h59 x2h59 x4h59 x5h59 x_52 h
                exact ih_59 y_h59 s_51 d_h59 e_h59 x1h59 x2h59 x4h59 x5h59 x_52 (Nat.lt_of_lt_of_le h.2 (Nat.le_of_lt_succ hμ_59)) h.1 H locs hP hD hS ls (lv_sub hl [1, 2, 3, 4, 5, 6, 0] rfl)
              · skip
                have h := h.2 c75
                refine lv_iload G.1 G.2.1 d_Na_sign_78 (lv_at hl 6 rfl) ?_
                refine W.eq (g2 := F0 m 80 ls [.int x6h59]) rfl ?_
                exact hret _ (y_h59, s_51, d_h59, e_h59) _ _ _ _ _ ls h hP hD hS (Nat.le_refl _) (Nat.le_refl _) hd.1 hd.2 d_Na_sign_80
        exact L_59 _ y_h12 s_h12 d_h12 e_h12 x1h12 x2h12 x4h12 ((x5h12 ^^^ ((x5h12.toUInt32 >>> ((8 : Int32).toUInt32 &&& Int32.toUInt32 31)).toInt32)) &&& 255) x_1 (Nat.lt_succ_self _) hI_59 H locs hP hD hS ls (lv_sub hl [2, 3, 4, 5, 6, 1, 0] rfl)
      · skip
        have h := h.2 c15
        refine lv_iload G.1 G.2.1 d_Na_sign_18 (lv_at hl 5 rfl) ?_
        refine lv_bipush (v := 31) G.1 G.2.1 d_Na_sign_20 (by decide) ?_
        refine lv_imul G.1 G.2.1 d_Na_sign_22 ?_
        refine lv_aload_n G.1 G.2.1 d_Na_sign_23 rfl (lv_at hl 3 rfl) ?_
        refine lv_iload G.1 G.2.1 d_Na_sign_24 (lv_at hl 6 rfl) ?_
        refine uiald G hP h_a3.1 h_a3.2 h d_Na_sign_26 (fun x_53 h => ?_)
        refine lv_iadd G.1 G.2.1 d_Na_sign_27 ?_
        refine lv_istore (lv' := [(5, .int ((x5h12 * 31) + x_53)), (0, .ref (ad a0)), (1, .int x1h12), (2, .int x2h12), (3, .ref (yP y_h12 a3 k3)), (4, .int x4h12), (6, .int x6h12)]) G.1 G.2.1 d_Na_sign_28 hl (by decide) rfl (fun ls hl => ?_)
        refine W.eq (g2 := F0 m 30 ls []) rfl ?_
        refine lv_iinc (v := x6h12 + 1) (lv' := [(6, .int (x6h12 + 1)), (5, .int ((x5h12 * 31) + x_53)), (0, .ref (ad a0)), (1, .int x1h12), (2, .int x2h12), (3, .ref (yP y_h12 a3 k3)), (4, .int x4h12)]) G.1 G.2.1 d_Na_sign_30 hl (k := 6) rfl rfl (by decide) rfl (fun ls hl => ?_)
        refine lv_goto (tgt := 12) G.1 G.2.1 d_Na_sign_33 (by decide) ?_
        have h := hK_12 y_h12 s_h12 d_h12 e_h12 x1h12 x2h12 x4h12 ((x5h12 * 31) + x_53) (x6h12 + 1) h
        exact ih_12 y_h12 s_h12 d_h12 e_h12 x1h12 x2h12 x4h12 ((x5h12 * 31) + x_53) (x6h12 + 1) (Nat.lt_of_lt_of_le h.2 (Nat.le_of_lt_succ hμ_12)) h.1 H locs hP hD hS ls (lv_sub hl [2, 3, 4, 5, 6, 1, 0] rfl)
  exact L_12 _ y σ 0 0 v1 v2 v4 ((v1 * 31) + v4) 0 (Nat.lt_succ_self _) hI_12 H locs hP hD hS ls (lv_sub hl [2, 3, 4, 5, 6, 1, 0] rfl)
def y_Wd_addClass : MethodName := ⟨"ClassWorks$World", "addClass", "(IIII)V"⟩
abbrev b_Wd_addClass : ByteArray := prog_11_method_6_code
theorem q807 : Cond.methodLink "ClassWorks$World" 84 y_In_add ∈ lw_ok := lw_okmem (List.mem_of_getElem? (i := 807) (by decide +kernel)) rfl
theorem d_Wd_addClass_0 : decode b_Wd_addClass 0 = .ok (.iload 4, 2) := by decide +kernel
theorem d_Wd_addClass_2 : decode b_Wd_addClass 2 = .ok (.bipush 19, 2) := by decide +kernel
theorem d_Wd_addClass_4 : decode b_Wd_addClass 4 = .ok (.imul, 1) := by decide +kernel
theorem d_Wd_addClass_5 : decode b_Wd_addClass 5 = .ok (.istore 5, 2) := by decide +kernel
theorem d_Wd_addClass_7 : decode b_Wd_addClass 7 = .ok (.iconst 0, 1) := by decide +kernel
theorem d_Wd_addClass_8 : decode b_Wd_addClass 8 = .ok (.istore 6, 2) := by decide +kernel
theorem d_Wd_addClass_10 : decode b_Wd_addClass 10 = .ok (.iload 6, 2) := by decide +kernel
theorem d_Wd_addClass_12 : decode b_Wd_addClass 12 = .ok (.bipush 19, 2) := by decide +kernel
theorem d_Wd_addClass_14 : decode b_Wd_addClass 14 = .ok (.if_icmp .ge 20, 3) := by decide +kernel
theorem d_Wd_addClass_17 : decode b_Wd_addClass 17 = .ok (.aload_n 0, 1) := by decide +kernel
theorem d_Wd_addClass_18 : decode b_Wd_addClass 18 = .ok (.getfield 28, 3) := by decide +kernel
theorem d_Wd_addClass_21 : decode b_Wd_addClass 21 = .ok (.iload 5, 2) := by decide +kernel
theorem d_Wd_addClass_23 : decode b_Wd_addClass 23 = .ok (.iload 6, 2) := by decide +kernel
theorem d_Wd_addClass_25 : decode b_Wd_addClass 25 = .ok (.iadd, 1) := by decide +kernel
theorem d_Wd_addClass_26 : decode b_Wd_addClass 26 = .ok (.iconst 0, 1) := by decide +kernel
theorem d_Wd_addClass_27 : decode b_Wd_addClass 27 = .ok (.iastore, 1) := by decide +kernel
theorem d_Wd_addClass_28 : decode b_Wd_addClass 28 = .ok (.iinc 6 1, 3) := by decide +kernel
theorem d_Wd_addClass_31 : decode b_Wd_addClass 31 = .ok (.goto (-21), 3) := by decide +kernel
theorem d_Wd_addClass_34 : decode b_Wd_addClass 34 = .ok (.aload_n 0, 1) := by decide +kernel
theorem d_Wd_addClass_35 : decode b_Wd_addClass 35 = .ok (.getfield 28, 3) := by decide +kernel
theorem d_Wd_addClass_38 : decode b_Wd_addClass 38 = .ok (.iload 5, 2) := by decide +kernel
theorem d_Wd_addClass_40 : decode b_Wd_addClass 40 = .ok (.iconst 0, 1) := by decide +kernel
theorem d_Wd_addClass_41 : decode b_Wd_addClass 41 = .ok (.iadd, 1) := by decide +kernel
theorem d_Wd_addClass_42 : decode b_Wd_addClass 42 = .ok (.iload_n 1, 1) := by decide +kernel
theorem d_Wd_addClass_43 : decode b_Wd_addClass 43 = .ok (.iastore, 1) := by decide +kernel
theorem d_Wd_addClass_44 : decode b_Wd_addClass 44 = .ok (.aload_n 0, 1) := by decide +kernel
theorem d_Wd_addClass_45 : decode b_Wd_addClass 45 = .ok (.getfield 28, 3) := by decide +kernel
theorem d_Wd_addClass_48 : decode b_Wd_addClass 48 = .ok (.iload 5, 2) := by decide +kernel
theorem d_Wd_addClass_50 : decode b_Wd_addClass 50 = .ok (.iconst 1, 1) := by decide +kernel
theorem d_Wd_addClass_51 : decode b_Wd_addClass 51 = .ok (.iadd, 1) := by decide +kernel
theorem d_Wd_addClass_52 : decode b_Wd_addClass 52 = .ok (.iload_n 2, 1) := by decide +kernel
theorem d_Wd_addClass_53 : decode b_Wd_addClass 53 = .ok (.iastore, 1) := by decide +kernel
theorem d_Wd_addClass_54 : decode b_Wd_addClass 54 = .ok (.aload_n 0, 1) := by decide +kernel
theorem d_Wd_addClass_55 : decode b_Wd_addClass 55 = .ok (.getfield 28, 3) := by decide +kernel
theorem d_Wd_addClass_58 : decode b_Wd_addClass 58 = .ok (.iload 5, 2) := by decide +kernel
theorem d_Wd_addClass_60 : decode b_Wd_addClass 60 = .ok (.iconst 2, 1) := by decide +kernel
theorem d_Wd_addClass_61 : decode b_Wd_addClass 61 = .ok (.iadd, 1) := by decide +kernel
theorem d_Wd_addClass_62 : decode b_Wd_addClass 62 = .ok (.iload_n 3, 1) := by decide +kernel
theorem d_Wd_addClass_63 : decode b_Wd_addClass 63 = .ok (.iastore, 1) := by decide +kernel
theorem d_Wd_addClass_64 : decode b_Wd_addClass 64 = .ok (.aload_n 0, 1) := by decide +kernel
theorem d_Wd_addClass_65 : decode b_Wd_addClass 65 = .ok (.getfield 28, 3) := by decide +kernel
theorem d_Wd_addClass_68 : decode b_Wd_addClass 68 = .ok (.iload 5, 2) := by decide +kernel
theorem d_Wd_addClass_70 : decode b_Wd_addClass 70 = .ok (.bipush 8, 2) := by decide +kernel
theorem d_Wd_addClass_72 : decode b_Wd_addClass 72 = .ok (.iadd, 1) := by decide +kernel
theorem d_Wd_addClass_73 : decode b_Wd_addClass 73 = .ok (.aload_n 0, 1) := by decide +kernel
theorem d_Wd_addClass_74 : decode b_Wd_addClass 74 = .ok (.getfield 41, 3) := by decide +kernel
theorem d_Wd_addClass_77 : decode b_Wd_addClass 77 = .ok (.getfield 91, 3) := by decide +kernel
theorem d_Wd_addClass_80 : decode b_Wd_addClass 80 = .ok (.iastore, 1) := by decide +kernel
theorem d_Wd_addClass_81 : decode b_Wd_addClass 81 = .ok (.aload_n 0, 1) := by decide +kernel
theorem d_Wd_addClass_82 : decode b_Wd_addClass 82 = .ok (.getfield 28, 3) := by decide +kernel
theorem d_Wd_addClass_85 : decode b_Wd_addClass 85 = .ok (.iload 5, 2) := by decide +kernel
theorem d_Wd_addClass_87 : decode b_Wd_addClass 87 = .ok (.bipush 10, 2) := by decide +kernel
theorem d_Wd_addClass_89 : decode b_Wd_addClass 89 = .ok (.iadd, 1) := by decide +kernel
theorem d_Wd_addClass_90 : decode b_Wd_addClass 90 = .ok (.aload_n 0, 1) := by decide +kernel
theorem d_Wd_addClass_91 : decode b_Wd_addClass 91 = .ok (.getfield 45, 3) := by decide +kernel
theorem d_Wd_addClass_94 : decode b_Wd_addClass 94 = .ok (.getfield 91, 3) := by decide +kernel
theorem d_Wd_addClass_97 : decode b_Wd_addClass 97 = .ok (.iastore, 1) := by decide +kernel
theorem d_Wd_addClass_98 : decode b_Wd_addClass 98 = .ok (.aload_n 0, 1) := by decide +kernel
theorem d_Wd_addClass_99 : decode b_Wd_addClass 99 = .ok (.getfield 60, 3) := by decide +kernel
theorem d_Wd_addClass_102 : decode b_Wd_addClass 102 = .ok (.getfield 91, 3) := by decide +kernel
theorem d_Wd_addClass_105 : decode b_Wd_addClass 105 = .ok (.istore 6, 2) := by decide +kernel
theorem d_Wd_addClass_107 : decode b_Wd_addClass 107 = .ok (.iload 6, 2) := by decide +kernel
theorem d_Wd_addClass_109 : decode b_Wd_addClass 109 = .ok (.iload_n 1, 1) := by decide +kernel
theorem d_Wd_addClass_110 : decode b_Wd_addClass 110 = .ok (.if_icmp .gt 18, 3) := by decide +kernel
theorem d_Wd_addClass_113 : decode b_Wd_addClass 113 = .ok (.aload_n 0, 1) := by decide +kernel
theorem d_Wd_addClass_114 : decode b_Wd_addClass 114 = .ok (.getfield 60, 3) := by decide +kernel
theorem d_Wd_addClass_117 : decode b_Wd_addClass 117 = .ok (.iconst 0, 1) := by decide +kernel
theorem d_Wd_addClass_118 : decode b_Wd_addClass 118 = .ok (.invokevirtual 84, 3) := by decide +kernel
theorem d_Wd_addClass_121 : decode b_Wd_addClass 121 = .ok (.pop, 1) := by decide +kernel
theorem d_Wd_addClass_122 : decode b_Wd_addClass 122 = .ok (.iinc 6 1, 3) := by decide +kernel
theorem d_Wd_addClass_125 : decode b_Wd_addClass 125 = .ok (.goto (-18), 3) := by decide +kernel
theorem d_Wd_addClass_128 : decode b_Wd_addClass 128 = .ok (.aload_n 0, 1) := by decide +kernel
theorem d_Wd_addClass_129 : decode b_Wd_addClass 129 = .ok (.getfield 60, 3) := by decide +kernel
theorem d_Wd_addClass_132 : decode b_Wd_addClass 132 = .ok (.iload_n 1, 1) := by decide +kernel
theorem d_Wd_addClass_133 : decode b_Wd_addClass 133 = .ok (.iload 4, 2) := by decide +kernel
theorem d_Wd_addClass_135 : decode b_Wd_addClass 135 = .ok (.iconst 1, 1) := by decide +kernel
theorem d_Wd_addClass_136 : decode b_Wd_addClass 136 = .ok (.iadd, 1) := by decide +kernel
theorem d_Wd_addClass_137 : decode b_Wd_addClass 137 = .ok (.invokevirtual 94, 3) := by decide +kernel
theorem d_Wd_addClass_140 : decode b_Wd_addClass 140 = .ok (.return_, 1) := by decide +kernel
abbrev ra_Wd_addClass (mc ms : Nat) : Room := { frames := 5, cells := mc, slots := ms, locals := 421 }
def wba_Wd_addClass_107 (mc ms : Nat) (Post : Ly → St → Nat → Nat → Prop) (K_107 : Ly → St → Nat → Nat → Int32 → Int32 → Int32 → Prop) (a0 : Nat) (y_h107 : Ly) (s_h107 : St) (d_h107 e_h107 : Nat) (x1h107 : Int32) (x4h107 : Int32) (x6h107 : Int32) : Prop := (d_h107 ≤ mc ∧ e_h107 ≤ ms) ∧ ((x1h107 < x6h107 → wu_In_put y_h107 (fun (s_7 : St) => Post y_h107 s_7 d_h107 e_h107) s_h107 (lk a0 14) x1h107 (x4h107 + 1)) ∧ (¬ (x1h107 < x6h107) → ∃ mc_13 ms_14 : Nat, (d_h107 + mc_13 ≤ mc ∧ e_h107 + ms_14 ≤ ms) ∧ wa_In_add mc_13 ms_14 y_h107 (fun (y_10 : Ly) (s_9 : St) (r_8 : Int32) (d_11 e_12 : Nat) => (d_h107 + d_11 ≤ mc ∧ e_h107 + e_12 ≤ ms) ∧ K_107 y_10 s_9 (d_h107 + d_11) (e_h107 + e_12) x1h107 x4h107 (x6h107 + 1)) s_h107 (lk a0 14) 0))
def wla_Wd_addClass_107 (mc ms : Nat) (Post : Ly → St → Nat → Nat → Prop) (a0 : Nat) (y_h107 : Ly) (s_h107 : St) (d_h107 e_h107 : Nat) (x1h107 : Int32) (x4h107 : Int32) (x6h107 : Int32) : Prop := ∃ (I : Ly → St → Nat → Nat → Int32 → Int32 → Int32 → Prop) (μ : Ly → St → Nat → Nat → Int32 → Int32 → Int32 → Nat), I y_h107 s_h107 d_h107 e_h107 x1h107 x4h107 x6h107 ∧ ∀ (u1 : Ly) (u2 : St) (u3 u4 : Nat) (t0 : Int32) (t1 : Int32) (t2 : Int32), I u1 u2 u3 u4 t0 t1 t2 → wba_Wd_addClass_107 mc ms Post (fun z1 z2 z3 z4 t0q t1q t2q => I z1 z2 z3 z4 t0q t1q t2q ∧ μ z1 z2 z3 z4 t0q t1q t2q < μ u1 u2 u3 u4 t0 t1 t2) a0 u1 u2 u3 u4 t0 t1 t2
def wba_Wd_addClass_10 (mc ms : Nat) (Post : Ly → St → Nat → Nat → Prop) (K_10 : Ly → St → Nat → Nat → Int32 → Int32 → Int32 → Int32 → Int32 → Int32 → Prop) (a0 : Nat) (y_h10 : Ly) (s_h10 : St) (d_h10 e_h10 : Nat) (x1h10 : Int32) (x2h10 : Int32) (x3h10 : Int32) (x4h10 : Int32) (x5h10 : Int32) (x6h10 : Int32) : Prop := (d_h10 ≤ mc ∧ e_h10 ≤ ms) ∧ ((19 ≤ x6h10 → xS y_h10 s_h10 a0 6 (x5h10 + 0) x1h10 (fun s_1 : St => xS y_h10 s_1 a0 6 (x5h10 + 1) x2h10 (fun s_2 : St => xS y_h10 s_2 a0 6 (x5h10 + 2) x3h10 (fun s_3 : St => xS y_h10 s_3 a0 6 (x5h10 + 8) (sV s_3 (lk a0 8) 1) (fun s_4 : St => xS y_h10 s_4 a0 6 (x5h10 + 10) (sV s_4 (lk a0 9) 1) (fun s_5 : St => wla_Wd_addClass_107 mc ms Post a0 y_h10 s_5 d_h10 e_h10 x1h10 x4h10 (sV s_5 (lk a0 14) 1))))))) ∧ (¬ (19 ≤ x6h10) → xS y_h10 s_h10 a0 6 (x5h10 + x6h10) 0 (fun s_16 : St => K_10 y_h10 s_16 d_h10 e_h10 x1h10 x2h10 x3h10 x4h10 x5h10 (x6h10 + 1))))
def wla_Wd_addClass_10 (mc ms : Nat) (Post : Ly → St → Nat → Nat → Prop) (a0 : Nat) (y_h10 : Ly) (s_h10 : St) (d_h10 e_h10 : Nat) (x1h10 : Int32) (x2h10 : Int32) (x3h10 : Int32) (x4h10 : Int32) (x5h10 : Int32) (x6h10 : Int32) : Prop := ∃ (I : Ly → St → Nat → Nat → Int32 → Int32 → Int32 → Int32 → Int32 → Int32 → Prop) (μ : Ly → St → Nat → Nat → Int32 → Int32 → Int32 → Int32 → Int32 → Int32 → Nat), I y_h10 s_h10 d_h10 e_h10 x1h10 x2h10 x3h10 x4h10 x5h10 x6h10 ∧ ∀ (u1 : Ly) (u2 : St) (u3 u4 : Nat) (t0 : Int32) (t1 : Int32) (t2 : Int32) (t3 : Int32) (t4 : Int32) (t5 : Int32), I u1 u2 u3 u4 t0 t1 t2 t3 t4 t5 → wba_Wd_addClass_10 mc ms Post (fun z1 z2 z3 z4 t0q t1q t2q t3q t4q t5q => I z1 z2 z3 z4 t0q t1q t2q t3q t4q t5q ∧ μ z1 z2 z3 z4 t0q t1q t2q t3q t4q t5q < μ u1 u2 u3 u4 t0 t1 t2 t3 t4 t5) a0 u1 u2 u3 u4 t0 t1 t2 t3 t4 t5
def wa_Wd_addClass (mc ms : Nat) (y : Ly) (Post : Ly → St → Nat → Nat → Prop) (σ : St) (a0 : Nat) (v1 : Int32) (v2 : Int32) (v3 : Int32) (v4 : Int32) : Prop := wla_Wd_addClass_10 mc ms Post a0 y σ 0 0 v1 v2 v3 v4 (v4 * 19) 0
set_option maxHeartbeats 4000000 in
set_option maxRecDepth 100000 in
theorem ca_Wd_addClass (l : Launch) (D : va_G) (g : Nat → ClassId) (ad : Nat → Nat) (mc ms : Nat) (y : Ly) (Post : Ly → St → Nat → Nat → Prop) (σ : St) (a0 : Nat) (v1 : Int32) (v2 : Int32) (v3 : Int32) (v4 : Int32) (sz uz : Nat) (h_a0 : cl a0 = 9) (h : wa_Wd_addClass mc ms y Post σ a0 v1 v2 v3 v4) : Met l y_Wd_addClass (mw y_Wd_addClass b_Wd_addClass 7 (none)) (ra_Wd_addClass mc ms) (PCu g D [] [.ref (ad a0), .int v1, .int v2, .int v3, .int v4] sz uz (ws g ad y σ)) (va_Qv (fun (u : Ly × St × Nat × Nat) => Post u.1 u.2.1 u.2.2.1 u.2.2.2) (QU D (va_A (ws g ad y σ) sz) (fun u => ws g ad u.1 u.2.1) sz uz (fun u => u.2.2.1) (fun u => u.2.2.2)) (va_A (ws g ad y σ) sz)) mc ms (va_A (ws g ad y σ) sz) := by
  refine ofVu (by decide +kernel) (Nat.le_of_ble_eq_true rfl) ?_
  intro p e s m args below meth c A Q ls H locs G hsz hP hD hS hl hret
  subst hsz
  have hl : lv_has ls 7 [(0, .ref (ad a0)), (1, .int v1), (2, .int v2), (3, .int v3), (4, .int v4)] := hl
  have hd : 0 ≤ mc ∧ 0 ≤ ms := ⟨Nat.zero_le _, Nat.zero_le _⟩
  unfold wa_Wd_addClass at h
  refine lv_iload G.1 G.2.1 d_Wd_addClass_0 (lv_at hl 4 rfl) ?_
  refine lv_bipush (v := 19) G.1 G.2.1 d_Wd_addClass_2 (by decide) ?_
  refine lv_imul G.1 G.2.1 d_Wd_addClass_4 ?_
  refine lv_istore (lv' := [(5, .int (v4 * 19)), (0, .ref (ad a0)), (1, .int v1), (2, .int v2), (3, .int v3), (4, .int v4)]) G.1 G.2.1 d_Wd_addClass_5 hl (by decide) rfl (fun ls hl => ?_)
  refine lv_iconst (v := 0) G.1 G.2.1 d_Wd_addClass_7 (by decide) ?_
  refine lv_istore (lv' := [(6, .int 0), (5, .int (v4 * 19)), (0, .ref (ad a0)), (1, .int v1), (2, .int v2), (3, .int v3), (4, .int v4)]) G.1 G.2.1 d_Wd_addClass_8 hl (by decide) rfl (fun ls hl => ?_)
  unfold wla_Wd_addClass_10 at h
  obtain ⟨I_10, μ_10, hI_10, hB_10⟩ := h
  have L_10 : ∀ (n_10 : Nat) (y_h10 : Ly) (s_h10 : St) (d_h10 e_h10 : Nat) (x1h10 : Int32) (x2h10 : Int32) (x3h10 : Int32) (x4h10 : Int32) (x5h10 : Int32) (x6h10 : Int32), μ_10 y_h10 s_h10 d_h10 e_h10 x1h10 x2h10 x3h10 x4h10 x5h10 x6h10 < n_10 → I_10 y_h10 s_h10 d_h10 e_h10 x1h10 x2h10 x3h10 x4h10 x5h10 x6h10 → ∀ (H : Heap) (locs : List Loc), va_P D CL (ws g ad y_h10 s_h10) H → va_D A (ws g ad y_h10 s_h10) → va_S A s.heap H locs → ∀ ls, lv_has ls 7 [(0, .ref (ad a0)), (1, .int x1h10), (2, .int x2h10), (3, .int x3h10), (4, .int x4h10), (5, .int x5h10), (6, .int x6h10)] → W p l e (ra_Wd_addClass mc ms) s m args below meth c H locs d_h10 e_h10 Q (F0 m 10 ls []) := by
    intro n_10
    induction n_10 with
    | zero => intro y_h10 s_h10 d_h10 e_h10 x1h10 x2h10 x3h10 x4h10 x5h10 x6h10 hμ; exact absurd hμ (Nat.not_lt_zero _)
    | succ n_10 ih_10 =>
      intro y_h10 s_h10 d_h10 e_h10 x1h10 x2h10 x3h10 x4h10 x5h10 x6h10 hμ_10 hJ H locs hP hD hS ls hl
      obtain ⟨K_10, hK_10, h⟩ : ∃ K : Ly → St → Nat → Nat → Int32 → Int32 → Int32 → Int32 → Int32 → Int32 → Prop, (∀ z1 z2 z3 z4 (t0 : Int32) (t1 : Int32) (t2 : Int32) (t3 : Int32) (t4 : Int32) (t5 : Int32), K z1 z2 z3 z4 t0 t1 t2 t3 t4 t5 → I_10 z1 z2 z3 z4 t0 t1 t2 t3 t4 t5 ∧ μ_10 z1 z2 z3 z4 t0 t1 t2 t3 t4 t5 < μ_10 y_h10 s_h10 d_h10 e_h10 x1h10 x2h10 x3h10 x4h10 x5h10 x6h10) ∧ wba_Wd_addClass_10 mc ms Post K a0 y_h10 s_h10 d_h10 e_h10 x1h10 x2h10 x3h10 x4h10 x5h10 x6h10 := ⟨_, fun _ _ _ _ _ _ _ _ _ _ h => h, hB_10 y_h10 s_h10 d_h10 e_h10 x1h10 x2h10 x3h10 x4h10 x5h10 x6h10 hJ⟩
      unfold wba_Wd_addClass_10 at h
      obtain ⟨hd, h⟩ := h
      refine lv_iload G.1 G.2.1 d_Wd_addClass_10 (lv_at hl 6 rfl) ?_
      refine lv_bipush (v := 19) G.1 G.2.1 d_Wd_addClass_12 (by decide) ?_
      refine lv_icmp_ge (tgt := 34) G.1 G.2.1 d_Wd_addClass_14 (by decide) (fun c14 => ?_) (fun c14 => ?_)
      · skip
        have h := h.1 c14
        refine lv_aload_n G.1 G.2.1 d_Wd_addClass_34 rfl (lv_at hl 0 rfl) ?_
        refine ugf (v := .ref (yP y_h10 a0 6)) G hP h_a0 iWd rfl 6 (by decide) rfl q831 rfl rfl d_Wd_addClass_35 ?_
        refine lv_iload G.1 G.2.1 d_Wd_addClass_38 (lv_at hl 5 rfl) ?_
        refine lv_iconst (v := 0) G.1 G.2.1 d_Wd_addClass_40 (by decide) ?_
        refine lv_iadd G.1 G.2.1 d_Wd_addClass_41 ?_
        refine lv_iload_n G.1 G.2.1 d_Wd_addClass_42 rfl (lv_at hl 1 rfl) ?_
        refine uiast G hP hD hS (kdp h_a0 rfl) (typ h_a0 rfl) h d_Wd_addClass_43 (fun s_1 H locs h hP hD hS => ?_)
        refine lv_aload_n G.1 G.2.1 d_Wd_addClass_44 rfl (lv_at hl 0 rfl) ?_
        refine W.eq (g2 := F0 m 45 ls [.ref (ad a0)]) rfl ?_
        refine ugf (v := .ref (yP y_h10 a0 6)) G hP h_a0 iWd rfl 6 (by decide) rfl q831 rfl rfl d_Wd_addClass_45 ?_
        refine lv_iload G.1 G.2.1 d_Wd_addClass_48 (lv_at hl 5 rfl) ?_
        refine lv_iconst (v := 1) G.1 G.2.1 d_Wd_addClass_50 (by decide) ?_
        refine lv_iadd G.1 G.2.1 d_Wd_addClass_51 ?_
        refine lv_iload_n G.1 G.2.1 d_Wd_addClass_52 rfl (lv_at hl 2 rfl) ?_
        refine uiast G hP hD hS (kdp h_a0 rfl) (typ h_a0 rfl) h d_Wd_addClass_53 (fun s_2 H locs h hP hD hS => ?_)
        refine lv_aload_n G.1 G.2.1 d_Wd_addClass_54 rfl (lv_at hl 0 rfl) ?_
        refine ugf (v := .ref (yP y_h10 a0 6)) G hP h_a0 iWd rfl 6 (by decide) rfl q831 rfl rfl d_Wd_addClass_55 ?_
        refine lv_iload G.1 G.2.1 d_Wd_addClass_58 (lv_at hl 5 rfl) ?_
        refine lv_iconst (v := 2) G.1 G.2.1 d_Wd_addClass_60 (by decide) ?_
        refine lv_iadd G.1 G.2.1 d_Wd_addClass_61 ?_
        refine lv_iload_n G.1 G.2.1 d_Wd_addClass_62 rfl (lv_at hl 3 rfl) ?_
        refine W.eq (g2 := F0 m 63 ls [.int x3h10, .int (x5h10 + 2), .ref (yP y_h10 a0 6)]) rfl ?_
        refine uiast G hP hD hS (kdp h_a0 rfl) (typ h_a0 rfl) h d_Wd_addClass_63 (fun s_3 H locs h hP hD hS => ?_)
        refine lv_aload_n G.1 G.2.1 d_Wd_addClass_64 rfl (lv_at hl 0 rfl) ?_
        refine ugf (v := .ref (yP y_h10 a0 6)) G hP h_a0 iWd rfl 6 (by decide) rfl q831 rfl rfl d_Wd_addClass_65 ?_
        refine lv_iload G.1 G.2.1 d_Wd_addClass_68 (lv_at hl 5 rfl) ?_
        refine lv_bipush (v := 8) G.1 G.2.1 d_Wd_addClass_70 (by decide) ?_
        refine lv_iadd G.1 G.2.1 d_Wd_addClass_72 ?_
        refine lv_aload_n G.1 G.2.1 d_Wd_addClass_73 rfl (lv_at hl 0 rfl) ?_
        refine ugf (v := .ref (ad (lk a0 8))) G hP h_a0 iWd rfl 8 (by decide) rfl q835 rfl rfl d_Wd_addClass_74 ?_
        refine ugf (v := .int (sV s_3 (lk a0 8) 1)) G hP (lk_9_8 h_a0) iIn rfl 1 (by decide) rfl q391 rfl rfl d_Wd_addClass_77 ?_
        refine uiast G hP hD hS (kdp h_a0 rfl) (typ h_a0 rfl) h d_Wd_addClass_80 (fun s_4 H locs h hP hD hS => ?_)
        refine lv_aload_n G.1 G.2.1 d_Wd_addClass_81 rfl (lv_at hl 0 rfl) ?_
        refine ugf (v := .ref (yP y_h10 a0 6)) G hP h_a0 iWd rfl 6 (by decide) rfl q831 rfl rfl d_Wd_addClass_82 ?_
        refine W.eq (g2 := F0 m 85 ls [.ref (yP y_h10 a0 6)]) rfl ?_
        refine lv_iload G.1 G.2.1 d_Wd_addClass_85 (lv_at hl 5 rfl) ?_
        refine lv_bipush (v := 10) G.1 G.2.1 d_Wd_addClass_87 (by decide) ?_
        refine lv_iadd G.1 G.2.1 d_Wd_addClass_89 ?_
        refine lv_aload_n G.1 G.2.1 d_Wd_addClass_90 rfl (lv_at hl 0 rfl) ?_
        refine ugf (v := .ref (ad (lk a0 9))) G hP h_a0 iWd rfl 9 (by decide) rfl q839 rfl rfl d_Wd_addClass_91 ?_
        refine ugf (v := .int (sV s_4 (lk a0 9) 1)) G hP (lk_9_9 h_a0) iIn rfl 1 (by decide) rfl q391 rfl rfl d_Wd_addClass_94 ?_
        refine uiast G hP hD hS (kdp h_a0 rfl) (typ h_a0 rfl) h d_Wd_addClass_97 (fun s_5 H locs h hP hD hS => ?_)
        refine lv_aload_n G.1 G.2.1 d_Wd_addClass_98 rfl (lv_at hl 0 rfl) ?_
        refine ugf (v := .ref (ad (lk a0 14))) G hP h_a0 iWd rfl 14 (by decide) rfl q860 rfl rfl d_Wd_addClass_99 ?_
        refine ugf (v := .int (sV s_5 (lk a0 14) 1)) G hP (lk_9_14 h_a0) iIn rfl 1 (by decide) rfl q391 rfl rfl d_Wd_addClass_102 ?_
        refine lv_istore (lv' := [(6, .int (sV s_5 (lk a0 14) 1)), (0, .ref (ad a0)), (1, .int x1h10), (2, .int x2h10), (3, .int x3h10), (4, .int x4h10), (5, .int x5h10)]) G.1 G.2.1 d_Wd_addClass_105 hl (by decide) rfl (fun ls hl => ?_)
        unfold wla_Wd_addClass_107 at h
        obtain ⟨I_107, μ_107, hI_107, hB_107⟩ := h
        have L_107 : ∀ (n_107 : Nat) (y_h107 : Ly) (s_h107 : St) (d_h107 e_h107 : Nat) (x1h107 : Int32) (x4h107 : Int32) (x6h107 : Int32), μ_107 y_h107 s_h107 d_h107 e_h107 x1h107 x4h107 x6h107 < n_107 → I_107 y_h107 s_h107 d_h107 e_h107 x1h107 x4h107 x6h107 → ∀ (H : Heap) (locs : List Loc), va_P D CL (ws g ad y_h107 s_h107) H → va_D A (ws g ad y_h107 s_h107) → va_S A s.heap H locs → ∀ ls, lv_has ls 7 [(0, .ref (ad a0)), (1, .int x1h107), (4, .int x4h107), (6, .int x6h107)] → W p l e (ra_Wd_addClass mc ms) s m args below meth c H locs d_h107 e_h107 Q (F0 m 107 ls []) := by
          intro n_107
          induction n_107 with
          | zero => intro y_h107 s_h107 d_h107 e_h107 x1h107 x4h107 x6h107 hμ; exact absurd hμ (Nat.not_lt_zero _)
          | succ n_107 ih_107 =>
            intro y_h107 s_h107 d_h107 e_h107 x1h107 x4h107 x6h107 hμ_107 hJ H locs hP hD hS ls hl
            obtain ⟨K_107, hK_107, h⟩ : ∃ K : Ly → St → Nat → Nat → Int32 → Int32 → Int32 → Prop, (∀ z1 z2 z3 z4 (t0 : Int32) (t1 : Int32) (t2 : Int32), K z1 z2 z3 z4 t0 t1 t2 → I_107 z1 z2 z3 z4 t0 t1 t2 ∧ μ_107 z1 z2 z3 z4 t0 t1 t2 < μ_107 y_h107 s_h107 d_h107 e_h107 x1h107 x4h107 x6h107) ∧ wba_Wd_addClass_107 mc ms Post K a0 y_h107 s_h107 d_h107 e_h107 x1h107 x4h107 x6h107 := ⟨_, fun _ _ _ _ _ _ _ h => h, hB_107 y_h107 s_h107 d_h107 e_h107 x1h107 x4h107 x6h107 hJ⟩
            unfold wba_Wd_addClass_107 at h
            obtain ⟨hd, h⟩ := h
            refine lv_iload G.1 G.2.1 d_Wd_addClass_107 (lv_at hl 3 rfl) ?_
            refine lv_iload_n G.1 G.2.1 d_Wd_addClass_109 rfl (lv_at hl 1 rfl) ?_
            refine lv_icmp_gt (tgt := 128) G.1 G.2.1 d_Wd_addClass_110 (by decide) (fun c110 => ?_) (fun c110 => ?_)
            · skip
              have h := h.1 c110
              refine lv_aload_n G.1 G.2.1 d_Wd_addClass_128 rfl (lv_at hl 0 rfl) ?_
              refine ugf (v := .ref (ad (lk a0 14))) G hP h_a0 iWd rfl 14 (by decide) rfl q860 rfl rfl d_Wd_addClass_129 ?_
              refine lv_iload_n G.1 G.2.1 d_Wd_addClass_132 rfl (lv_at hl 1 rfl) ?_
              refine lv_iload G.1 G.2.1 d_Wd_addClass_133 (lv_at hl 2 rfl) ?_
              refine lv_iconst (v := 1) G.1 G.2.1 d_Wd_addClass_135 (by decide) ?_
              refine lv_iadd G.1 G.2.1 d_Wd_addClass_136 ?_
              refine ucVv (As := [.int x1h107, .int (x4h107 + 1)]) (rest := []) G hP hD hS (cu_In_put l D g ad y_h107 _ s_h107 (lk a0 14) x1h107 (x4h107 + 1) H.size (lk_9_14 h_a0) h) w9_In_put q808 ⟨Nat.le_of_ble_eq_true rfl, Nat.le_of_ble_eq_true rfl⟩ rfl rfl (lk_9_14 h_a0) (q := (RIn, TIn, 2)) rfl rfl hl.1 rfl (Nat.le_of_ble_eq_true rfl) rfl hd d_Wd_addClass_137 (fun s_7 H locs h hP hD hS => ?_)
              exact hret (y_h107, s_7, d_h107, e_h107) _ _ _ _ _ ls h hP hD hS (Nat.le_refl _) (Nat.le_refl _) hd.1 hd.2 d_Wd_addClass_140
            · skip
              have h := h.2 c110
              refine lv_aload_n G.1 G.2.1 d_Wd_addClass_113 rfl (lv_at hl 0 rfl) ?_
              refine ugf (v := .ref (ad (lk a0 14))) G hP h_a0 iWd rfl 14 (by decide) rfl q860 rfl rfl d_Wd_addClass_114 ?_
              refine lv_iconst (v := 0) G.1 G.2.1 d_Wd_addClass_117 (by decide) ?_
              obtain ⟨mc_13, ms_14, hr_15, h⟩ := h
              refine uaVi (As := [.int 0]) (rest := []) G hP hD hS (ca_In_add l D g [] ad mc_13 ms_14 y_h107 _ s_h107 (lk a0 14) 0 H.size (us H) (lk_9_14 h_a0) h) w9_In_add q807 ⟨Nat.le_of_ble_eq_true rfl, Nat.le_of_ble_eq_true rfl⟩ rfl rfl (lk_9_14 h_a0) (q := (RIn, TIn, 2)) rfl rfl hl.1 rfl (Nat.le_of_ble_eq_true rfl) rfl hr_15 d_Wd_addClass_118 (fun r_8 y_10 s_9 d_11 e_12 H locs h hP hD hS => ?_)
              obtain ⟨hd, h⟩ := h
              refine lv_pop G.1 G.2.1 d_Wd_addClass_121 rfl ?_
              refine lv_iinc (v := x6h107 + 1) (lv' := [(6, .int (x6h107 + 1)), (0, .ref (ad a0)), (1, .int x1h107), (4, .int x4h107)]) G.1 G.2.1 d_Wd_addClass_122 hl (k := 3) rfl rfl (by decide) rfl (fun ls hl => ?_)
              refine lv_goto (tgt := 107) G.1 G.2.1 d_Wd_addClass_125 (by decide) ?_
              have h := hK_107 y_10 s_9 (d_h107 + d_11) (e_h107 + e_12) x1h107 x4h107 (x6h107 + 1) h
              exact ih_107 y_10 s_9 (d_h107 + d_11) (e_h107 + e_12) x1h107 x4h107 (x6h107 + 1) (Nat.lt_of_lt_of_le h.2 (Nat.le_of_lt_succ hμ_107)) h.1 H locs hP hD hS ls (lv_sub hl [1, 2, 3, 0] rfl)
        exact L_107 _ y_h10 s_5 d_h10 e_h10 x1h10 x4h10 (sV s_5 (lk a0 14) 1) (Nat.lt_succ_self _) hI_107 H locs hP hD hS ls (lv_sub hl [1, 2, 5, 0] rfl)
      · skip
        have h := h.2 c14
        refine lv_aload_n G.1 G.2.1 d_Wd_addClass_17 rfl (lv_at hl 0 rfl) ?_
        refine ugf (v := .ref (yP y_h10 a0 6)) G hP h_a0 iWd rfl 6 (by decide) rfl q831 rfl rfl d_Wd_addClass_18 ?_
        refine lv_iload G.1 G.2.1 d_Wd_addClass_21 (lv_at hl 5 rfl) ?_
        refine lv_iload G.1 G.2.1 d_Wd_addClass_23 (lv_at hl 6 rfl) ?_
        refine lv_iadd G.1 G.2.1 d_Wd_addClass_25 ?_
        refine lv_iconst (v := 0) G.1 G.2.1 d_Wd_addClass_26 (by decide) ?_
        refine uiast G hP hD hS (kdp h_a0 rfl) (typ h_a0 rfl) h d_Wd_addClass_27 (fun s_16 H locs h hP hD hS => ?_)
        refine lv_iinc (v := x6h10 + 1) (lv' := [(6, .int (x6h10 + 1)), (0, .ref (ad a0)), (1, .int x1h10), (2, .int x2h10), (3, .int x3h10), (4, .int x4h10), (5, .int x5h10)]) G.1 G.2.1 d_Wd_addClass_28 hl (k := 6) rfl rfl (by decide) rfl (fun ls hl => ?_)
        refine W.eq (g2 := F0 m 31 ls []) rfl ?_
        refine lv_goto (tgt := 10) G.1 G.2.1 d_Wd_addClass_31 (by decide) ?_
        have h := hK_10 y_h10 s_16 d_h10 e_h10 x1h10 x2h10 x3h10 x4h10 x5h10 (x6h10 + 1) h
        exact ih_10 y_h10 s_16 d_h10 e_h10 x1h10 x2h10 x3h10 x4h10 x5h10 (x6h10 + 1) (Nat.lt_of_lt_of_le h.2 (Nat.le_of_lt_succ hμ_10)) h.1 H locs hP hD hS ls (lv_sub hl [1, 2, 3, 4, 5, 6, 0] rfl)
  exact L_10 _ y σ 0 0 v1 v2 v3 v4 (v4 * 19) 0 (Nat.lt_succ_self _) hI_10 H locs hP hD hS ls (lv_sub hl [2, 3, 4, 5, 6, 1, 0] rfl)
theorem q556 : Cond.fieldLink "ClassWorks$Words" 31 "ClassWorks$Words" "names" "LClassWorks$Names;" ∈ lw_ok := lw_okmem (List.mem_of_getElem? (i := 556) (by decide +kernel)) rfl
theorem q1282 : Cond.methodLink "ClassWorks$Words" 66 y_Na_number ∈ lw_ok := lw_okmem (List.mem_of_getElem? (i := 1282) (by decide +kernel)) rfl
theorem q1272 : Cond.methodLink "ClassWorks$Words" 47 y_Wo_isLetter ∈ lw_ok := lw_okmem (List.mem_of_getElem? (i := 1272) (by decide +kernel)) rfl
theorem q1274 : Cond.code y_Wo_isLetter b_Wo_isLetter 1 (some (.boolean)) ∈ lw_ok := lw_okmem (List.mem_of_getElem? (i := 1274) (by decide +kernel)) rfl
theorem q1273 : Cond.static y_Wo_isLetter ∈ lw_ok := lw_okmem (List.mem_of_getElem? (i := 1273) (by decide +kernel)) rfl
theorem w9_Wo_isLetter : CWv y_Wo_isLetter b_Wo_isLetter 1 (some (.boolean)) 1 ∧ Cond.static y_Wo_isLetter ∈ lw_ok := ⟨⟨q1274, q339, by decide +kernel, by decide +kernel, by decide +kernel⟩, q1273⟩
def y_Wo_nameEnd : MethodName := ⟨"ClassWorks$Words", "nameEnd", "(I)I"⟩
abbrev b_Wo_nameEnd : ByteArray := prog_10_method_5_code
theorem d_Wo_nameEnd_0 : decode b_Wo_nameEnd 0 = .ok (.iload_n 1, 1) := by decide +kernel
theorem d_Wo_nameEnd_1 : decode b_Wo_nameEnd 1 = .ok (.istore_n 2, 1) := by decide +kernel
theorem d_Wo_nameEnd_2 : decode b_Wo_nameEnd 2 = .ok (.iload_n 2, 1) := by decide +kernel
theorem d_Wo_nameEnd_3 : decode b_Wo_nameEnd 3 = .ok (.aload_n 0, 1) := by decide +kernel
theorem d_Wo_nameEnd_4 : decode b_Wo_nameEnd 4 = .ok (.getfield 28, 3) := by decide +kernel
theorem d_Wo_nameEnd_7 : decode b_Wo_nameEnd 7 = .ok (.if_icmp .ge 33, 3) := by decide +kernel
theorem d_Wo_nameEnd_10 : decode b_Wo_nameEnd 10 = .ok (.aload_n 0, 1) := by decide +kernel
theorem d_Wo_nameEnd_11 : decode b_Wo_nameEnd 11 = .ok (.getfield 35, 3) := by decide +kernel
theorem d_Wo_nameEnd_14 : decode b_Wo_nameEnd 14 = .ok (.iload_n 2, 1) := by decide +kernel
theorem d_Wo_nameEnd_15 : decode b_Wo_nameEnd 15 = .ok (.baload, 1) := by decide +kernel
theorem d_Wo_nameEnd_16 : decode b_Wo_nameEnd 16 = .ok (.invokestatic 47, 3) := by decide +kernel
theorem d_Wo_nameEnd_19 : decode b_Wo_nameEnd 19 = .ok (.ifCond .ne 15, 3) := by decide +kernel
theorem d_Wo_nameEnd_22 : decode b_Wo_nameEnd 22 = .ok (.aload_n 0, 1) := by decide +kernel
theorem d_Wo_nameEnd_23 : decode b_Wo_nameEnd 23 = .ok (.getfield 35, 3) := by decide +kernel
theorem d_Wo_nameEnd_26 : decode b_Wo_nameEnd 26 = .ok (.iload_n 2, 1) := by decide +kernel
theorem d_Wo_nameEnd_27 : decode b_Wo_nameEnd 27 = .ok (.baload, 1) := by decide +kernel
theorem d_Wo_nameEnd_28 : decode b_Wo_nameEnd 28 = .ok (.invokestatic 54, 3) := by decide +kernel
theorem d_Wo_nameEnd_31 : decode b_Wo_nameEnd 31 = .ok (.ifCond .eq 9, 3) := by decide +kernel
theorem d_Wo_nameEnd_34 : decode b_Wo_nameEnd 34 = .ok (.iinc 2 1, 3) := by decide +kernel
theorem d_Wo_nameEnd_37 : decode b_Wo_nameEnd 37 = .ok (.goto (-35), 3) := by decide +kernel
theorem d_Wo_nameEnd_40 : decode b_Wo_nameEnd 40 = .ok (.iload_n 2, 1) := by decide +kernel
theorem d_Wo_nameEnd_41 : decode b_Wo_nameEnd 41 = .ok (.iload_n 1, 1) := by decide +kernel
theorem d_Wo_nameEnd_42 : decode b_Wo_nameEnd 42 = .ok (.isub, 1) := by decide +kernel
theorem d_Wo_nameEnd_43 : decode b_Wo_nameEnd 43 = .ok (.bipush 12, 2) := by decide +kernel
theorem d_Wo_nameEnd_45 : decode b_Wo_nameEnd 45 = .ok (.if_icmp .le 5, 3) := by decide +kernel
theorem d_Wo_nameEnd_48 : decode b_Wo_nameEnd 48 = .ok (.iconst (-1), 1) := by decide +kernel
theorem d_Wo_nameEnd_49 : decode b_Wo_nameEnd 49 = .ok (.ireturn, 1) := by decide +kernel
theorem d_Wo_nameEnd_50 : decode b_Wo_nameEnd 50 = .ok (.aload_n 0, 1) := by decide +kernel
theorem d_Wo_nameEnd_51 : decode b_Wo_nameEnd 51 = .ok (.iconst 1, 1) := by decide +kernel
theorem d_Wo_nameEnd_52 : decode b_Wo_nameEnd 52 = .ok (.aload_n 0, 1) := by decide +kernel
theorem d_Wo_nameEnd_53 : decode b_Wo_nameEnd 53 = .ok (.getfield 31, 3) := by decide +kernel
theorem d_Wo_nameEnd_56 : decode b_Wo_nameEnd 56 = .ok (.aload_n 0, 1) := by decide +kernel
theorem d_Wo_nameEnd_57 : decode b_Wo_nameEnd 57 = .ok (.getfield 35, 3) := by decide +kernel
theorem d_Wo_nameEnd_60 : decode b_Wo_nameEnd 60 = .ok (.iload_n 1, 1) := by decide +kernel
theorem d_Wo_nameEnd_61 : decode b_Wo_nameEnd 61 = .ok (.iload_n 2, 1) := by decide +kernel
theorem d_Wo_nameEnd_62 : decode b_Wo_nameEnd 62 = .ok (.iload_n 1, 1) := by decide +kernel
theorem d_Wo_nameEnd_63 : decode b_Wo_nameEnd 63 = .ok (.isub, 1) := by decide +kernel
theorem d_Wo_nameEnd_64 : decode b_Wo_nameEnd 64 = .ok (.invokevirtual 66, 3) := by decide +kernel
theorem d_Wo_nameEnd_67 : decode b_Wo_nameEnd 67 = .ok (.iload_n 1, 1) := by decide +kernel
theorem d_Wo_nameEnd_68 : decode b_Wo_nameEnd 68 = .ok (.invokevirtual 43, 3) := by decide +kernel
theorem d_Wo_nameEnd_71 : decode b_Wo_nameEnd 71 = .ok (.iload_n 2, 1) := by decide +kernel
theorem d_Wo_nameEnd_72 : decode b_Wo_nameEnd 72 = .ok (.ireturn, 1) := by decide +kernel
abbrev ra_Wo_nameEnd (mc ms : Nat) : Room := { frames := 6, cells := mc, slots := ms, locals := 446 }
def wja_Wo_nameEnd_40 (mc ms : Nat) (Post : Ly → St → Int32 → Nat → Nat → Prop) (a0 : Nat) (y_j40 : Ly) (s_j40 : St) (d_j40 e_j40 : Nat) (x1j40 : Int32) (x2j40 : Int32) : Prop := (d_j40 ≤ mc ∧ e_j40 ≤ ms) ∧ (((x2j40 - x1j40) ≤ 12 → (kd (cl (sX s_j40 a0 6).1) (sX s_j40 a0 6).2 = 2 ∧ tyx (cl (sX s_j40 a0 6).1) (sX s_j40 a0 6).2 = 1) ∧ ∃ mc_7 ms_8 : Nat, (d_j40 + mc_7 ≤ mc ∧ e_j40 + ms_8 ≤ ms) ∧ wa_Na_number mc_7 ms_8 y_j40 (fun (y_4 : Ly) (s_3 : St) (r_2 : Int32) (d_5 e_6 : Nat) => (d_j40 + d_5 ≤ mc ∧ e_j40 + e_6 ≤ ms) ∧ wu_Wo_add y_4 (fun (s_11 : St) => Post y_4 s_11 x2j40 (d_j40 + d_5) (e_j40 + e_6)) s_3 a0 1 r_2 x1j40) s_j40 (lk a0 4) ((sX s_j40 a0 6).1) ((sX s_j40 a0 6).2) x1j40 (x2j40 - x1j40)) ∧ (¬ ((x2j40 - x1j40) ≤ 12) → Post y_j40 s_j40 (-1) d_j40 e_j40))
def wja_Wo_nameEnd_34 (mc ms : Nat) (Post : Ly → St → Int32 → Nat → Nat → Prop) (K_2 : Ly → St → Nat → Nat → Int32 → Int32 → Prop) (a0 : Nat) (y_j34 : Ly) (s_j34 : St) (d_j34 e_j34 : Nat) (x1j34 : Int32) (x2j34 : Int32) : Prop := (d_j34 ≤ mc ∧ e_j34 ≤ ms) ∧ K_2 y_j34 s_j34 d_j34 e_j34 x1j34 (x2j34 + 1)
def wba_Wo_nameEnd_2 (mc ms : Nat) (Post : Ly → St → Int32 → Nat → Nat → Prop) (K_2 : Ly → St → Nat → Nat → Int32 → Int32 → Prop) (a0 : Nat) (y_h2 : Ly) (s_h2 : St) (d_h2 e_h2 : Nat) (x1h2 : Int32) (x2h2 : Int32) : Prop := (d_h2 ≤ mc ∧ e_h2 ≤ ms) ∧ (((sV s_h2 a0 7) ≤ x2h2 → wja_Wo_nameEnd_40 mc ms Post a0 y_h2 s_h2 d_h2 e_h2 x1h2 x2h2) ∧ (¬ ((sV s_h2 a0 7) ≤ x2h2) → (kd (cl (sX s_h2 a0 6).1) (sX s_h2 a0 6).2 = 2 ∧ tyx (cl (sX s_h2 a0 6).1) (sX s_h2 a0 6).2 = 1) ∧ xA y_h2 s_h2 ((sX s_h2 a0 6).1) ((sX s_h2 a0 6).2) x2h2 (fun x_13 : Int32 => wu_Wo_isLetter y_h2 (fun (s_15 : St) (r_14 : Int32) => ((¬ r_14 = 0 → wja_Wo_nameEnd_34 mc ms Post K_2 a0 y_h2 s_15 d_h2 e_h2 x1h2 x2h2) ∧ (r_14 = 0 → (kd (cl (sX s_15 a0 6).1) (sX s_15 a0 6).2 = 2 ∧ tyx (cl (sX s_15 a0 6).1) (sX s_15 a0 6).2 = 1) ∧ xA y_h2 s_15 ((sX s_15 a0 6).1) ((sX s_15 a0 6).2) x2h2 (fun x_17 : Int32 => wu_Wo_isDigit y_h2 (fun (s_19 : St) (r_18 : Int32) => ((r_18 = 0 → wja_Wo_nameEnd_40 mc ms Post a0 y_h2 s_19 d_h2 e_h2 x1h2 x2h2) ∧ (¬ (r_18 = 0) → wja_Wo_nameEnd_34 mc ms Post K_2 a0 y_h2 s_19 d_h2 e_h2 x1h2 x2h2))) s_15 x_17)))) s_h2 x_13)))
def wla_Wo_nameEnd_2 (mc ms : Nat) (Post : Ly → St → Int32 → Nat → Nat → Prop) (a0 : Nat) (y_h2 : Ly) (s_h2 : St) (d_h2 e_h2 : Nat) (x1h2 : Int32) (x2h2 : Int32) : Prop := ∃ (I : Ly → St → Nat → Nat → Int32 → Int32 → Prop) (μ : Ly → St → Nat → Nat → Int32 → Int32 → Nat), I y_h2 s_h2 d_h2 e_h2 x1h2 x2h2 ∧ ∀ (u1 : Ly) (u2 : St) (u3 u4 : Nat) (t0 : Int32) (t1 : Int32), I u1 u2 u3 u4 t0 t1 → wba_Wo_nameEnd_2 mc ms Post (fun z1 z2 z3 z4 t0q t1q => I z1 z2 z3 z4 t0q t1q ∧ μ z1 z2 z3 z4 t0q t1q < μ u1 u2 u3 u4 t0 t1) a0 u1 u2 u3 u4 t0 t1
def wa_Wo_nameEnd (mc ms : Nat) (y : Ly) (Post : Ly → St → Int32 → Nat → Nat → Prop) (σ : St) (a0 : Nat) (v1 : Int32) : Prop := wla_Wo_nameEnd_2 mc ms Post a0 y σ 0 0 v1 v1
set_option maxHeartbeats 4000000 in
set_option maxRecDepth 100000 in
theorem ca_Wo_nameEnd (l : Launch) (D : va_G) (g : Nat → ClassId) (ad : Nat → Nat) (mc ms : Nat) (y : Ly) (Post : Ly → St → Int32 → Nat → Nat → Prop) (σ : St) (a0 : Nat) (v1 : Int32) (sz uz : Nat) (h_a0 : cl a0 = 8) (h : wa_Wo_nameEnd mc ms y Post σ a0 v1) : Met l y_Wo_nameEnd (mw y_Wo_nameEnd b_Wo_nameEnd 3 (some .int)) (ra_Wo_nameEnd mc ms) (PCu g D [] [.ref (ad a0), .int v1] sz uz (ws g ad y σ)) (va_Qi (fun (r : Int32) (u : Ly × St × Nat × Nat) => Post u.1 u.2.1 r u.2.2.1 u.2.2.2) (QU D (va_A (ws g ad y σ) sz) (fun u => ws g ad u.1 u.2.1) sz uz (fun u => u.2.2.1) (fun u => u.2.2.2)) (va_A (ws g ad y σ) sz)) mc ms (va_A (ws g ad y σ) sz) := by
  refine ofIu (by decide +kernel) (Nat.le_of_ble_eq_true rfl) ?_
  intro p e s m args below meth c A Q ls H locs G hsz hP hD hS hl hret
  subst hsz
  have hl : lv_has ls 3 [(0, .ref (ad a0)), (1, .int v1)] := hl
  have hd : 0 ≤ mc ∧ 0 ≤ ms := ⟨Nat.zero_le _, Nat.zero_le _⟩
  unfold wa_Wo_nameEnd at h
  refine lv_iload_n G.1 G.2.1 d_Wo_nameEnd_0 rfl (lv_at hl 1 rfl) ?_
  refine lv_istore_n (lv' := [(2, .int v1), (0, .ref (ad a0)), (1, .int v1)]) G.1 G.2.1 d_Wo_nameEnd_1 rfl hl (by decide) rfl (fun ls hl => ?_)
  unfold wla_Wo_nameEnd_2 at h
  obtain ⟨I_2, μ_2, hI_2, hB_2⟩ := h
  have L_2 : ∀ (n_2 : Nat) (y_h2 : Ly) (s_h2 : St) (d_h2 e_h2 : Nat) (x1h2 : Int32) (x2h2 : Int32), μ_2 y_h2 s_h2 d_h2 e_h2 x1h2 x2h2 < n_2 → I_2 y_h2 s_h2 d_h2 e_h2 x1h2 x2h2 → ∀ (H : Heap) (locs : List Loc), va_P D CL (ws g ad y_h2 s_h2) H → va_D A (ws g ad y_h2 s_h2) → va_S A s.heap H locs → ∀ ls, lv_has ls 3 [(0, .ref (ad a0)), (1, .int x1h2), (2, .int x2h2)] → W p l e (ra_Wo_nameEnd mc ms) s m args below meth c H locs d_h2 e_h2 Q (F0 m 2 ls []) := by
    intro n_2
    induction n_2 with
    | zero => intro y_h2 s_h2 d_h2 e_h2 x1h2 x2h2 hμ; exact absurd hμ (Nat.not_lt_zero _)
    | succ n_2 ih_2 =>
      intro y_h2 s_h2 d_h2 e_h2 x1h2 x2h2 hμ_2 hJ H locs hP hD hS ls hl
      obtain ⟨K_2, hK_2, h⟩ : ∃ K : Ly → St → Nat → Nat → Int32 → Int32 → Prop, (∀ z1 z2 z3 z4 (t0 : Int32) (t1 : Int32), K z1 z2 z3 z4 t0 t1 → I_2 z1 z2 z3 z4 t0 t1 ∧ μ_2 z1 z2 z3 z4 t0 t1 < μ_2 y_h2 s_h2 d_h2 e_h2 x1h2 x2h2) ∧ wba_Wo_nameEnd_2 mc ms Post K a0 y_h2 s_h2 d_h2 e_h2 x1h2 x2h2 := ⟨_, fun _ _ _ _ _ _ h => h, hB_2 y_h2 s_h2 d_h2 e_h2 x1h2 x2h2 hJ⟩
      unfold wba_Wo_nameEnd_2 at h
      obtain ⟨hd, h⟩ := h
      refine lv_iload_n G.1 G.2.1 d_Wo_nameEnd_2 rfl (lv_at hl 2 rfl) ?_
      refine lv_aload_n G.1 G.2.1 d_Wo_nameEnd_3 rfl (lv_at hl 0 rfl) ?_
      refine ugf (v := .int (sV s_h2 a0 7)) G hP h_a0 iWo rfl 7 (by decide) rfl q559 rfl rfl d_Wo_nameEnd_4 ?_
      have J_40 : ∀ (y_j40 : Ly) (s_j40 : St) (d_j40 e_j40 : Nat) (x1j40 : Int32) (x2j40 : Int32) (H : Heap) (locs : List Loc), wja_Wo_nameEnd_40 mc ms Post a0 y_j40 s_j40 d_j40 e_j40 x1j40 x2j40 → va_P D CL (ws g ad y_j40 s_j40) H → va_D A (ws g ad y_j40 s_j40) → va_S A s.heap H locs → ∀ ls, lv_has ls 3 [(0, .ref (ad a0)), (1, .int x1j40), (2, .int x2j40)] → W p l e (ra_Wo_nameEnd mc ms) s m args below meth c H locs d_j40 e_j40 Q (F0 m 40 ls []) := by
        intro y_j40 s_j40 d_j40 e_j40 x1j40 x2j40 H locs h hP hD hS ls hl
        unfold wja_Wo_nameEnd_40 at h
        obtain ⟨hd, h⟩ := h
        refine lv_iload_n G.1 G.2.1 d_Wo_nameEnd_40 rfl (lv_at hl 2 rfl) ?_
        refine lv_iload_n G.1 G.2.1 d_Wo_nameEnd_41 rfl (lv_at hl 1 rfl) ?_
        refine lv_isub G.1 G.2.1 d_Wo_nameEnd_42 ?_
        refine lv_bipush (v := 12) G.1 G.2.1 d_Wo_nameEnd_43 (by decide) ?_
        refine lv_icmp_le (tgt := 50) G.1 G.2.1 d_Wo_nameEnd_45 (by decide) (fun c45 => ?_) (fun c45 => ?_)
        · skip
          have h := h.1 c45
          refine lv_aload_n G.1 G.2.1 d_Wo_nameEnd_50 rfl (lv_at hl 0 rfl) ?_
          refine lv_iconst (v := 1) G.1 G.2.1 d_Wo_nameEnd_51 (by decide) ?_
          refine lv_aload_n G.1 G.2.1 d_Wo_nameEnd_52 rfl (lv_at hl 0 rfl) ?_
          refine ugf (v := .ref (ad (lk a0 4))) G hP h_a0 iWo rfl 4 (by decide) rfl q556 rfl rfl d_Wo_nameEnd_53 ?_
          refine lv_aload_n G.1 G.2.1 d_Wo_nameEnd_56 rfl (lv_at hl 0 rfl) ?_
          obtain ⟨n_1, h⟩ := h
          refine ugf (v := .ref (yP y_j40 ((sX s_j40 a0 6).1) ((sX s_j40 a0 6).2))) G hP h_a0 iWo rfl 6 (by decide) rfl q558 rfl rfl d_Wo_nameEnd_57 ?_
          refine W.eq (g2 := F0 m 60 ls [.ref (yP y_j40 ((sX s_j40 a0 6).1) ((sX s_j40 a0 6).2)), .ref (ad (lk a0 4)), .int 1, .ref (ad a0)]) rfl ?_
          refine lv_iload_n G.1 G.2.1 d_Wo_nameEnd_60 rfl (lv_at hl 1 rfl) ?_
          refine lv_iload_n G.1 G.2.1 d_Wo_nameEnd_61 rfl (lv_at hl 2 rfl) ?_
          refine lv_iload_n G.1 G.2.1 d_Wo_nameEnd_62 rfl (lv_at hl 1 rfl) ?_
          refine lv_isub G.1 G.2.1 d_Wo_nameEnd_63 ?_
          obtain ⟨mc_7, ms_8, hr_9, h⟩ := h
          refine uaVi (As := [.ref (yP y_j40 ((sX s_j40 a0 6).1) ((sX s_j40 a0 6).2)), .int x1j40, .int (x2j40 - x1j40)]) (rest := [.int 1, .ref (ad a0)]) G hP hD hS (ca_Na_number l D g ad mc_7 ms_8 y_j40 _ s_j40 (lk a0 4) ((sX s_j40 a0 6).1) ((sX s_j40 a0 6).2) x1j40 (x2j40 - x1j40) H.size (us H) (lk_8_4 h_a0) ⟨n_1.1, n_1.2⟩ h) w9_Na_number q1282 ⟨Nat.le_of_ble_eq_true rfl, Nat.le_of_ble_eq_true rfl⟩ rfl rfl (lk_8_4 h_a0) (q := (RNa, TNa, 11)) rfl rfl hl.1 rfl (Nat.le_of_ble_eq_true rfl) rfl hr_9 d_Wo_nameEnd_64 (fun r_2 y_4 s_3 d_5 e_6 H locs h hP hD hS => ?_)
          have hl := lv_sub (l' := [(1, .int x1j40), (2, .int x2j40)]) hl [1, 2] rfl
          obtain ⟨hd, h⟩ := h
          refine lv_iload_n G.1 G.2.1 d_Wo_nameEnd_67 rfl (lv_at hl 0 rfl) ?_
          refine ucVv (As := [.int 1, .int r_2, .int x1j40]) (rest := []) G hP hD hS (cu_Wo_add l D g ad y_4 _ s_3 a0 1 r_2 x1j40 H.size h_a0 h) w9_Wo_add q1283 ⟨Nat.le_of_ble_eq_true rfl, Nat.le_of_ble_eq_true rfl⟩ rfl rfl h_a0 (q := (RWo, TWo, 8)) rfl rfl hl.1 rfl (Nat.le_of_ble_eq_true rfl) rfl hd d_Wo_nameEnd_68 (fun s_11 H locs h hP hD hS => ?_)
          refine lv_iload_n G.1 G.2.1 d_Wo_nameEnd_71 rfl (lv_at hl 1 rfl) ?_
          exact hret _ (y_4, s_11, d_j40 + d_5, e_j40 + e_6) _ _ _ _ _ ls h hP hD hS (Nat.le_refl _) (Nat.le_refl _) hd.1 hd.2 d_Wo_nameEnd_72
        · skip
          have h := h.2 c45
          refine lv_iconst (v := (-1)) G.1 G.2.1 d_Wo_nameEnd_48 (by decide) ?_
          exact hret _ (y_j40, s_j40, d_j40, e_j40) _ _ _ _ _ ls h hP hD hS (Nat.le_refl _) (Nat.le_refl _) hd.1 hd.2 d_Wo_nameEnd_49
      refine lv_icmp_ge (tgt := 40) G.1 G.2.1 d_Wo_nameEnd_7 (by decide) (fun c7 => ?_) (fun c7 => ?_)
      · skip
        have h := h.1 c7
        exact J_40 y_h2 s_h2 d_h2 e_h2 x1h2 x2h2 H locs h hP hD hS ls (lv_sub hl [0, 1, 2] rfl)
      · skip
        have h := h.2 c7
        refine lv_aload_n G.1 G.2.1 d_Wo_nameEnd_10 rfl (lv_at hl 0 rfl) ?_
        obtain ⟨n_12, h⟩ := h
        refine ugf (v := .ref (yP y_h2 ((sX s_h2 a0 6).1) ((sX s_h2 a0 6).2))) G hP h_a0 iWo rfl 6 (by decide) rfl q558 rfl rfl d_Wo_nameEnd_11 ?_
        refine lv_iload_n G.1 G.2.1 d_Wo_nameEnd_14 rfl (lv_at hl 2 rfl) ?_
        refine ubald G hP n_12.1 n_12.2 h d_Wo_nameEnd_15 (fun x_13 h => ?_)
        refine ucSi (As := [.int x_13]) (rest := []) G hP hD hS (cu_Wo_isLetter l D g ad y_h2 _ s_h2 x_13 H.size  h) w9_Wo_isLetter q1272 ⟨Nat.le_of_ble_eq_true rfl, Nat.le_of_ble_eq_true rfl⟩ rfl rfl hl.1 rfl (Nat.le_of_ble_eq_true rfl) rfl hd d_Wo_nameEnd_16 (fun r_14 s_15 H locs h hP hD hS => ?_)
        have J_34 : ∀ (y_j34 : Ly) (s_j34 : St) (d_j34 e_j34 : Nat) (x1j34 : Int32) (x2j34 : Int32) (H : Heap) (locs : List Loc), wja_Wo_nameEnd_34 mc ms Post K_2 a0 y_j34 s_j34 d_j34 e_j34 x1j34 x2j34 → va_P D CL (ws g ad y_j34 s_j34) H → va_D A (ws g ad y_j34 s_j34) → va_S A s.heap H locs → ∀ ls, lv_has ls 3 [(0, .ref (ad a0)), (1, .int x1j34), (2, .int x2j34)] → W p l e (ra_Wo_nameEnd mc ms) s m args below meth c H locs d_j34 e_j34 Q (F0 m 34 ls []) := by
          intro y_j34 s_j34 d_j34 e_j34 x1j34 x2j34 H locs h hP hD hS ls hl
          unfold wja_Wo_nameEnd_34 at h
          obtain ⟨hd, h⟩ := h
          refine lv_iinc (v := x2j34 + 1) (lv' := [(2, .int (x2j34 + 1)), (0, .ref (ad a0)), (1, .int x1j34)]) G.1 G.2.1 d_Wo_nameEnd_34 hl (k := 2) rfl rfl (by decide) rfl (fun ls hl => ?_)
          refine lv_goto (tgt := 2) G.1 G.2.1 d_Wo_nameEnd_37 (by decide) ?_
          have h := hK_2 y_j34 s_j34 d_j34 e_j34 x1j34 (x2j34 + 1) h
          exact ih_2 y_j34 s_j34 d_j34 e_j34 x1j34 (x2j34 + 1) (Nat.lt_of_lt_of_le h.2 (Nat.le_of_lt_succ hμ_2)) h.1 H locs hP hD hS ls (lv_sub hl [1, 2, 0] rfl)
        refine lv_if_ne (tgt := 34) G.1 G.2.1 d_Wo_nameEnd_19 (by decide) (fun c19 => ?_) (fun c19 => ?_)
        · skip
          have h := h.1 c19
          exact J_34 y_h2 s_15 d_h2 e_h2 x1h2 x2h2 H locs h hP hD hS ls (lv_sub hl [0, 1, 2] rfl)
        · skip
          have h := h.2 c19
          refine lv_aload_n G.1 G.2.1 d_Wo_nameEnd_22 rfl (lv_at hl 0 rfl) ?_
          refine W.eq (g2 := F0 m 23 ls [.ref (ad a0)]) rfl ?_
          obtain ⟨n_16, h⟩ := h
          refine ugf (v := .ref (yP y_h2 ((sX s_15 a0 6).1) ((sX s_15 a0 6).2))) G hP h_a0 iWo rfl 6 (by decide) rfl q558 rfl rfl d_Wo_nameEnd_23 ?_
          refine lv_iload_n G.1 G.2.1 d_Wo_nameEnd_26 rfl (lv_at hl 2 rfl) ?_
          refine ubald G hP n_16.1 n_16.2 h d_Wo_nameEnd_27 (fun x_17 h => ?_)
          refine ucSi (As := [.int x_17]) (rest := []) G hP hD hS (cu_Wo_isDigit l D g ad y_h2 _ s_15 x_17 H.size  h) w9_Wo_isDigit q1279 ⟨Nat.le_of_ble_eq_true rfl, Nat.le_of_ble_eq_true rfl⟩ rfl rfl hl.1 rfl (Nat.le_of_ble_eq_true rfl) rfl hd d_Wo_nameEnd_28 (fun r_18 s_19 H locs h hP hD hS => ?_)
          refine lv_if_eq (tgt := 40) G.1 G.2.1 d_Wo_nameEnd_31 (by decide) (fun c31 => ?_) (fun c31 => ?_)
          · skip
            have h := h.1 c31
            exact J_40 y_h2 s_19 d_h2 e_h2 x1h2 x2h2 H locs h hP hD hS ls (lv_sub hl [0, 1, 2] rfl)
          · skip
            have h := h.2 c31
            exact J_34 y_h2 s_19 d_h2 e_h2 x1h2 x2h2 H locs h hP hD hS ls (lv_sub hl [0, 1, 2] rfl)
  exact L_2 _ y σ 0 0 v1 v1 (Nat.lt_succ_self _) hI_2 H locs hP hD hS ls (lv_sub hl [1, 2, 0] rfl)
def y_Wo_markEnd : MethodName := ⟨"ClassWorks$Words", "markEnd", "(I)I"⟩
abbrev b_Wo_markEnd : ByteArray := prog_10_method_7_code
theorem d_Wo_markEnd_0 : decode b_Wo_markEnd 0 = .ok (.iload_n 1, 1) := by decide +kernel
theorem d_Wo_markEnd_1 : decode b_Wo_markEnd 1 = .ok (.iconst 1, 1) := by decide +kernel
theorem d_Wo_markEnd_2 : decode b_Wo_markEnd 2 = .ok (.iadd, 1) := by decide +kernel
theorem d_Wo_markEnd_3 : decode b_Wo_markEnd 3 = .ok (.istore_n 2, 1) := by decide +kernel
theorem d_Wo_markEnd_4 : decode b_Wo_markEnd 4 = .ok (.iload_n 2, 1) := by decide +kernel
theorem d_Wo_markEnd_5 : decode b_Wo_markEnd 5 = .ok (.aload_n 0, 1) := by decide +kernel
theorem d_Wo_markEnd_6 : decode b_Wo_markEnd 6 = .ok (.getfield 28, 3) := by decide +kernel
theorem d_Wo_markEnd_9 : decode b_Wo_markEnd 9 = .ok (.if_icmp .ge 31, 3) := by decide +kernel
theorem d_Wo_markEnd_12 : decode b_Wo_markEnd 12 = .ok (.aload_n 0, 1) := by decide +kernel
theorem d_Wo_markEnd_13 : decode b_Wo_markEnd 13 = .ok (.getfield 35, 3) := by decide +kernel
theorem d_Wo_markEnd_16 : decode b_Wo_markEnd 16 = .ok (.iload_n 2, 1) := by decide +kernel
theorem d_Wo_markEnd_17 : decode b_Wo_markEnd 17 = .ok (.baload, 1) := by decide +kernel
theorem d_Wo_markEnd_18 : decode b_Wo_markEnd 18 = .ok (.bipush 97, 2) := by decide +kernel
theorem d_Wo_markEnd_20 : decode b_Wo_markEnd 20 = .ok (.if_icmp .lt 20, 3) := by decide +kernel
theorem d_Wo_markEnd_23 : decode b_Wo_markEnd 23 = .ok (.aload_n 0, 1) := by decide +kernel
theorem d_Wo_markEnd_24 : decode b_Wo_markEnd 24 = .ok (.getfield 35, 3) := by decide +kernel
theorem d_Wo_markEnd_27 : decode b_Wo_markEnd 27 = .ok (.iload_n 2, 1) := by decide +kernel
theorem d_Wo_markEnd_28 : decode b_Wo_markEnd 28 = .ok (.baload, 1) := by decide +kernel
theorem d_Wo_markEnd_29 : decode b_Wo_markEnd 29 = .ok (.bipush 122, 2) := by decide +kernel
theorem d_Wo_markEnd_31 : decode b_Wo_markEnd 31 = .ok (.if_icmp .gt 9, 3) := by decide +kernel
theorem d_Wo_markEnd_34 : decode b_Wo_markEnd 34 = .ok (.iinc 2 1, 3) := by decide +kernel
theorem d_Wo_markEnd_37 : decode b_Wo_markEnd 37 = .ok (.goto (-33), 3) := by decide +kernel
theorem d_Wo_markEnd_40 : decode b_Wo_markEnd 40 = .ok (.iload_n 2, 1) := by decide +kernel
theorem d_Wo_markEnd_41 : decode b_Wo_markEnd 41 = .ok (.aload_n 0, 1) := by decide +kernel
theorem d_Wo_markEnd_42 : decode b_Wo_markEnd 42 = .ok (.getfield 28, 3) := by decide +kernel
theorem d_Wo_markEnd_45 : decode b_Wo_markEnd 45 = .ok (.if_icmp .eq 22, 3) := by decide +kernel
theorem d_Wo_markEnd_48 : decode b_Wo_markEnd 48 = .ok (.aload_n 0, 1) := by decide +kernel
theorem d_Wo_markEnd_49 : decode b_Wo_markEnd 49 = .ok (.getfield 35, 3) := by decide +kernel
theorem d_Wo_markEnd_52 : decode b_Wo_markEnd 52 = .ok (.iload_n 2, 1) := by decide +kernel
theorem d_Wo_markEnd_53 : decode b_Wo_markEnd 53 = .ok (.baload, 1) := by decide +kernel
theorem d_Wo_markEnd_54 : decode b_Wo_markEnd 54 = .ok (.bipush 62, 2) := by decide +kernel
theorem d_Wo_markEnd_56 : decode b_Wo_markEnd 56 = .ok (.if_icmp .ne 11, 3) := by decide +kernel
theorem d_Wo_markEnd_59 : decode b_Wo_markEnd 59 = .ok (.iload_n 2, 1) := by decide +kernel
theorem d_Wo_markEnd_60 : decode b_Wo_markEnd 60 = .ok (.iload_n 1, 1) := by decide +kernel
theorem d_Wo_markEnd_61 : decode b_Wo_markEnd 61 = .ok (.isub, 1) := by decide +kernel
theorem d_Wo_markEnd_62 : decode b_Wo_markEnd 62 = .ok (.bipush 6, 2) := by decide +kernel
theorem d_Wo_markEnd_64 : decode b_Wo_markEnd 64 = .ok (.if_icmp .le 5, 3) := by decide +kernel
theorem d_Wo_markEnd_67 : decode b_Wo_markEnd 67 = .ok (.iconst (-1), 1) := by decide +kernel
theorem d_Wo_markEnd_68 : decode b_Wo_markEnd 68 = .ok (.ireturn, 1) := by decide +kernel
theorem d_Wo_markEnd_69 : decode b_Wo_markEnd 69 = .ok (.aload_n 0, 1) := by decide +kernel
theorem d_Wo_markEnd_70 : decode b_Wo_markEnd 70 = .ok (.getfield 31, 3) := by decide +kernel
theorem d_Wo_markEnd_73 : decode b_Wo_markEnd 73 = .ok (.aload_n 0, 1) := by decide +kernel
theorem d_Wo_markEnd_74 : decode b_Wo_markEnd 74 = .ok (.getfield 35, 3) := by decide +kernel
theorem d_Wo_markEnd_77 : decode b_Wo_markEnd 77 = .ok (.iload_n 1, 1) := by decide +kernel
theorem d_Wo_markEnd_78 : decode b_Wo_markEnd 78 = .ok (.iload_n 2, 1) := by decide +kernel
theorem d_Wo_markEnd_79 : decode b_Wo_markEnd 79 = .ok (.iconst 1, 1) := by decide +kernel
theorem d_Wo_markEnd_80 : decode b_Wo_markEnd 80 = .ok (.iadd, 1) := by decide +kernel
theorem d_Wo_markEnd_81 : decode b_Wo_markEnd 81 = .ok (.iload_n 1, 1) := by decide +kernel
theorem d_Wo_markEnd_82 : decode b_Wo_markEnd 82 = .ok (.isub, 1) := by decide +kernel
theorem d_Wo_markEnd_83 : decode b_Wo_markEnd 83 = .ok (.invokevirtual 66, 3) := by decide +kernel
theorem d_Wo_markEnd_86 : decode b_Wo_markEnd 86 = .ok (.istore_n 3, 1) := by decide +kernel
theorem d_Wo_markEnd_87 : decode b_Wo_markEnd 87 = .ok (.iload_n 3, 1) := by decide +kernel
theorem d_Wo_markEnd_88 : decode b_Wo_markEnd 88 = .ok (.bipush 7, 2) := by decide +kernel
theorem d_Wo_markEnd_90 : decode b_Wo_markEnd 90 = .ok (.if_icmp .eq 11, 3) := by decide +kernel
theorem d_Wo_markEnd_93 : decode b_Wo_markEnd 93 = .ok (.iload_n 3, 1) := by decide +kernel
theorem d_Wo_markEnd_94 : decode b_Wo_markEnd 94 = .ok (.bipush 8, 2) := by decide +kernel
theorem d_Wo_markEnd_96 : decode b_Wo_markEnd 96 = .ok (.if_icmp .eq 5, 3) := by decide +kernel
theorem d_Wo_markEnd_99 : decode b_Wo_markEnd 99 = .ok (.iconst (-1), 1) := by decide +kernel
theorem d_Wo_markEnd_100 : decode b_Wo_markEnd 100 = .ok (.ireturn, 1) := by decide +kernel
theorem d_Wo_markEnd_101 : decode b_Wo_markEnd 101 = .ok (.aload_n 0, 1) := by decide +kernel
theorem d_Wo_markEnd_102 : decode b_Wo_markEnd 102 = .ok (.iconst 4, 1) := by decide +kernel
theorem d_Wo_markEnd_103 : decode b_Wo_markEnd 103 = .ok (.iload_n 3, 1) := by decide +kernel
theorem d_Wo_markEnd_104 : decode b_Wo_markEnd 104 = .ok (.iload_n 1, 1) := by decide +kernel
theorem d_Wo_markEnd_105 : decode b_Wo_markEnd 105 = .ok (.invokevirtual 43, 3) := by decide +kernel
theorem d_Wo_markEnd_108 : decode b_Wo_markEnd 108 = .ok (.iload_n 2, 1) := by decide +kernel
theorem d_Wo_markEnd_109 : decode b_Wo_markEnd 109 = .ok (.iconst 1, 1) := by decide +kernel
theorem d_Wo_markEnd_110 : decode b_Wo_markEnd 110 = .ok (.iadd, 1) := by decide +kernel
theorem d_Wo_markEnd_111 : decode b_Wo_markEnd 111 = .ok (.ireturn, 1) := by decide +kernel
abbrev ra_Wo_markEnd (mc ms : Nat) : Room := { frames := 6, cells := mc, slots := ms, locals := 446 }
def wja_Wo_markEnd_67 (mc ms : Nat) (Post : Ly → St → Int32 → Nat → Nat → Prop) (a0 : Nat) (y_j67 : Ly) (s_j67 : St) (d_j67 e_j67 : Nat) : Prop := (d_j67 ≤ mc ∧ e_j67 ≤ ms) ∧ Post y_j67 s_j67 (-1) d_j67 e_j67
def wja_Wo_markEnd_101 (mc ms : Nat) (Post : Ly → St → Int32 → Nat → Nat → Prop) (a0 : Nat) (y_j101 : Ly) (s_j101 : St) (d_j101 e_j101 : Nat) (x1j101 : Int32) (x2j101 : Int32) (x3j101 : Int32) : Prop := (d_j101 ≤ mc ∧ e_j101 ≤ ms) ∧ wu_Wo_add y_j101 (fun (s_13 : St) => Post y_j101 s_13 (x2j101 + 1) d_j101 e_j101) s_j101 a0 4 x3j101 x1j101
def wja_Wo_markEnd_40 (mc ms : Nat) (Post : Ly → St → Int32 → Nat → Nat → Prop) (a0 : Nat) (y_j40 : Ly) (s_j40 : St) (d_j40 e_j40 : Nat) (x1j40 : Int32) (x2j40 : Int32) : Prop := (d_j40 ≤ mc ∧ e_j40 ≤ ms) ∧ ((x2j40 = (sV s_j40 a0 7) → wja_Wo_markEnd_67 mc ms Post a0 y_j40 s_j40 d_j40 e_j40) ∧ (¬ (x2j40 = (sV s_j40 a0 7)) → (kd (cl (sX s_j40 a0 6).1) (sX s_j40 a0 6).2 = 2 ∧ tyx (cl (sX s_j40 a0 6).1) (sX s_j40 a0 6).2 = 1) ∧ xA y_j40 s_j40 ((sX s_j40 a0 6).1) ((sX s_j40 a0 6).2) x2j40 (fun x_2 : Int32 => ((¬ x_2 = 62 → wja_Wo_markEnd_67 mc ms Post a0 y_j40 s_j40 d_j40 e_j40) ∧ (x_2 = 62 → (((x2j40 - x1j40) ≤ 6 → (kd (cl (sX s_j40 a0 6).1) (sX s_j40 a0 6).2 = 2 ∧ tyx (cl (sX s_j40 a0 6).1) (sX s_j40 a0 6).2 = 1) ∧ ∃ mc_9 ms_10 : Nat, (d_j40 + mc_9 ≤ mc ∧ e_j40 + ms_10 ≤ ms) ∧ wa_Na_number mc_9 ms_10 y_j40 (fun (y_6 : Ly) (s_5 : St) (r_4 : Int32) (d_7 e_8 : Nat) => (d_j40 + d_7 ≤ mc ∧ e_j40 + e_8 ≤ ms) ∧ ((r_4 = 7 → wja_Wo_markEnd_101 mc ms Post a0 y_6 s_5 (d_j40 + d_7) (e_j40 + e_8) x1j40 x2j40 r_4) ∧ (¬ (r_4 = 7) → ((r_4 = 8 → wja_Wo_markEnd_101 mc ms Post a0 y_6 s_5 (d_j40 + d_7) (e_j40 + e_8) x1j40 x2j40 r_4) ∧ (¬ (r_4 = 8) → Post y_6 s_5 (-1) (d_j40 + d_7) (e_j40 + e_8)))))) s_j40 (lk a0 4) ((sX s_j40 a0 6).1) ((sX s_j40 a0 6).2) x1j40 ((x2j40 + 1) - x1j40)) ∧ (¬ ((x2j40 - x1j40) ≤ 6) → wja_Wo_markEnd_67 mc ms Post a0 y_j40 s_j40 d_j40 e_j40)))))))
def wba_Wo_markEnd_4 (mc ms : Nat) (Post : Ly → St → Int32 → Nat → Nat → Prop) (K_4 : Ly → St → Nat → Nat → Int32 → Int32 → Prop) (a0 : Nat) (y_h4 : Ly) (s_h4 : St) (d_h4 e_h4 : Nat) (x1h4 : Int32) (x2h4 : Int32) : Prop := (d_h4 ≤ mc ∧ e_h4 ≤ ms) ∧ (((sV s_h4 a0 7) ≤ x2h4 → wja_Wo_markEnd_40 mc ms Post a0 y_h4 s_h4 d_h4 e_h4 x1h4 x2h4) ∧ (¬ ((sV s_h4 a0 7) ≤ x2h4) → (kd (cl (sX s_h4 a0 6).1) (sX s_h4 a0 6).2 = 2 ∧ tyx (cl (sX s_h4 a0 6).1) (sX s_h4 a0 6).2 = 1) ∧ xA y_h4 s_h4 ((sX s_h4 a0 6).1) ((sX s_h4 a0 6).2) x2h4 (fun x_15 : Int32 => ((x_15 < 97 → wja_Wo_markEnd_40 mc ms Post a0 y_h4 s_h4 d_h4 e_h4 x1h4 x2h4) ∧ (¬ (x_15 < 97) → (kd (cl (sX s_h4 a0 6).1) (sX s_h4 a0 6).2 = 2 ∧ tyx (cl (sX s_h4 a0 6).1) (sX s_h4 a0 6).2 = 1) ∧ xA y_h4 s_h4 ((sX s_h4 a0 6).1) ((sX s_h4 a0 6).2) x2h4 (fun x_17 : Int32 => ((122 < x_17 → wja_Wo_markEnd_40 mc ms Post a0 y_h4 s_h4 d_h4 e_h4 x1h4 x2h4) ∧ (¬ (122 < x_17) → K_4 y_h4 s_h4 d_h4 e_h4 x1h4 (x2h4 + 1)))))))))
def wla_Wo_markEnd_4 (mc ms : Nat) (Post : Ly → St → Int32 → Nat → Nat → Prop) (a0 : Nat) (y_h4 : Ly) (s_h4 : St) (d_h4 e_h4 : Nat) (x1h4 : Int32) (x2h4 : Int32) : Prop := ∃ (I : Ly → St → Nat → Nat → Int32 → Int32 → Prop) (μ : Ly → St → Nat → Nat → Int32 → Int32 → Nat), I y_h4 s_h4 d_h4 e_h4 x1h4 x2h4 ∧ ∀ (u1 : Ly) (u2 : St) (u3 u4 : Nat) (t0 : Int32) (t1 : Int32), I u1 u2 u3 u4 t0 t1 → wba_Wo_markEnd_4 mc ms Post (fun z1 z2 z3 z4 t0q t1q => I z1 z2 z3 z4 t0q t1q ∧ μ z1 z2 z3 z4 t0q t1q < μ u1 u2 u3 u4 t0 t1) a0 u1 u2 u3 u4 t0 t1
def wa_Wo_markEnd (mc ms : Nat) (y : Ly) (Post : Ly → St → Int32 → Nat → Nat → Prop) (σ : St) (a0 : Nat) (v1 : Int32) : Prop := wla_Wo_markEnd_4 mc ms Post a0 y σ 0 0 v1 (v1 + 1)
set_option maxHeartbeats 4000000 in
set_option maxRecDepth 100000 in
theorem ca_Wo_markEnd (l : Launch) (D : va_G) (g : Nat → ClassId) (ad : Nat → Nat) (mc ms : Nat) (y : Ly) (Post : Ly → St → Int32 → Nat → Nat → Prop) (σ : St) (a0 : Nat) (v1 : Int32) (sz uz : Nat) (h_a0 : cl a0 = 8) (h : wa_Wo_markEnd mc ms y Post σ a0 v1) : Met l y_Wo_markEnd (mw y_Wo_markEnd b_Wo_markEnd 4 (some .int)) (ra_Wo_markEnd mc ms) (PCu g D [] [.ref (ad a0), .int v1] sz uz (ws g ad y σ)) (va_Qi (fun (r : Int32) (u : Ly × St × Nat × Nat) => Post u.1 u.2.1 r u.2.2.1 u.2.2.2) (QU D (va_A (ws g ad y σ) sz) (fun u => ws g ad u.1 u.2.1) sz uz (fun u => u.2.2.1) (fun u => u.2.2.2)) (va_A (ws g ad y σ) sz)) mc ms (va_A (ws g ad y σ) sz) := by
  refine ofIu (by decide +kernel) (Nat.le_of_ble_eq_true rfl) ?_
  intro p e s m args below meth c A Q ls H locs G hsz hP hD hS hl hret
  subst hsz
  have hl : lv_has ls 4 [(0, .ref (ad a0)), (1, .int v1)] := hl
  have hd : 0 ≤ mc ∧ 0 ≤ ms := ⟨Nat.zero_le _, Nat.zero_le _⟩
  unfold wa_Wo_markEnd at h
  refine lv_iload_n G.1 G.2.1 d_Wo_markEnd_0 rfl (lv_at hl 1 rfl) ?_
  refine lv_iconst (v := 1) G.1 G.2.1 d_Wo_markEnd_1 (by decide) ?_
  refine lv_iadd G.1 G.2.1 d_Wo_markEnd_2 ?_
  refine lv_istore_n (lv' := [(2, .int (v1 + 1)), (0, .ref (ad a0)), (1, .int v1)]) G.1 G.2.1 d_Wo_markEnd_3 rfl hl (by decide) rfl (fun ls hl => ?_)
  unfold wla_Wo_markEnd_4 at h
  obtain ⟨I_4, μ_4, hI_4, hB_4⟩ := h
  have L_4 : ∀ (n_4 : Nat) (y_h4 : Ly) (s_h4 : St) (d_h4 e_h4 : Nat) (x1h4 : Int32) (x2h4 : Int32), μ_4 y_h4 s_h4 d_h4 e_h4 x1h4 x2h4 < n_4 → I_4 y_h4 s_h4 d_h4 e_h4 x1h4 x2h4 → ∀ (H : Heap) (locs : List Loc), va_P D CL (ws g ad y_h4 s_h4) H → va_D A (ws g ad y_h4 s_h4) → va_S A s.heap H locs → ∀ ls, lv_has ls 4 [(0, .ref (ad a0)), (1, .int x1h4), (2, .int x2h4)] → W p l e (ra_Wo_markEnd mc ms) s m args below meth c H locs d_h4 e_h4 Q (F0 m 4 ls []) := by
    intro n_4
    induction n_4 with
    | zero => intro y_h4 s_h4 d_h4 e_h4 x1h4 x2h4 hμ; exact absurd hμ (Nat.not_lt_zero _)
    | succ n_4 ih_4 =>
      intro y_h4 s_h4 d_h4 e_h4 x1h4 x2h4 hμ_4 hJ H locs hP hD hS ls hl
      obtain ⟨K_4, hK_4, h⟩ : ∃ K : Ly → St → Nat → Nat → Int32 → Int32 → Prop, (∀ z1 z2 z3 z4 (t0 : Int32) (t1 : Int32), K z1 z2 z3 z4 t0 t1 → I_4 z1 z2 z3 z4 t0 t1 ∧ μ_4 z1 z2 z3 z4 t0 t1 < μ_4 y_h4 s_h4 d_h4 e_h4 x1h4 x2h4) ∧ wba_Wo_markEnd_4 mc ms Post K a0 y_h4 s_h4 d_h4 e_h4 x1h4 x2h4 := ⟨_, fun _ _ _ _ _ _ h => h, hB_4 y_h4 s_h4 d_h4 e_h4 x1h4 x2h4 hJ⟩
      unfold wba_Wo_markEnd_4 at h
      obtain ⟨hd, h⟩ := h
      refine lv_iload_n G.1 G.2.1 d_Wo_markEnd_4 rfl (lv_at hl 2 rfl) ?_
      refine lv_aload_n G.1 G.2.1 d_Wo_markEnd_5 rfl (lv_at hl 0 rfl) ?_
      refine ugf (v := .int (sV s_h4 a0 7)) G hP h_a0 iWo rfl 7 (by decide) rfl q559 rfl rfl d_Wo_markEnd_6 ?_
      have J_40 : ∀ (y_j40 : Ly) (s_j40 : St) (d_j40 e_j40 : Nat) (x1j40 : Int32) (x2j40 : Int32) (H : Heap) (locs : List Loc), wja_Wo_markEnd_40 mc ms Post a0 y_j40 s_j40 d_j40 e_j40 x1j40 x2j40 → va_P D CL (ws g ad y_j40 s_j40) H → va_D A (ws g ad y_j40 s_j40) → va_S A s.heap H locs → ∀ ls, lv_has ls 4 [(0, .ref (ad a0)), (1, .int x1j40), (2, .int x2j40)] → W p l e (ra_Wo_markEnd mc ms) s m args below meth c H locs d_j40 e_j40 Q (F0 m 40 ls []) := by
        intro y_j40 s_j40 d_j40 e_j40 x1j40 x2j40 H locs h hP hD hS ls hl
        unfold wja_Wo_markEnd_40 at h
        obtain ⟨hd, h⟩ := h
        refine lv_iload_n G.1 G.2.1 d_Wo_markEnd_40 rfl (lv_at hl 2 rfl) ?_
        refine lv_aload_n G.1 G.2.1 d_Wo_markEnd_41 rfl (lv_at hl 0 rfl) ?_
        refine ugf (v := .int (sV s_j40 a0 7)) G hP h_a0 iWo rfl 7 (by decide) rfl q559 rfl rfl d_Wo_markEnd_42 ?_
        have J_67 : ∀ (y_j67 : Ly) (s_j67 : St) (d_j67 e_j67 : Nat) (H : Heap) (locs : List Loc), wja_Wo_markEnd_67 mc ms Post a0 y_j67 s_j67 d_j67 e_j67 → va_P D CL (ws g ad y_j67 s_j67) H → va_D A (ws g ad y_j67 s_j67) → va_S A s.heap H locs → ∀ ls, lv_has ls 4 [] → W p l e (ra_Wo_markEnd mc ms) s m args below meth c H locs d_j67 e_j67 Q (F0 m 67 ls []) := by
          intro y_j67 s_j67 d_j67 e_j67 H locs h hP hD hS ls hl
          unfold wja_Wo_markEnd_67 at h
          obtain ⟨hd, h⟩ := h
          refine lv_iconst (v := (-1)) G.1 G.2.1 d_Wo_markEnd_67 (by decide) ?_
          exact hret _ (y_j67, s_j67, d_j67, e_j67) _ _ _ _ _ ls h hP hD hS (Nat.le_refl _) (Nat.le_refl _) hd.1 hd.2 d_Wo_markEnd_68
        refine lv_icmp_eq (tgt := 67) G.1 G.2.1 d_Wo_markEnd_45 (by decide) (fun c45 => ?_) (fun c45 => ?_)
        · skip
          have h := h.1 c45
          exact J_67 y_j40 s_j40 d_j40 e_j40 H locs h hP hD hS ls (lv_sub hl [] rfl)
        · skip
          have h := h.2 c45
          refine lv_aload_n G.1 G.2.1 d_Wo_markEnd_48 rfl (lv_at hl 0 rfl) ?_
          obtain ⟨n_1, h⟩ := h
          refine ugf (v := .ref (yP y_j40 ((sX s_j40 a0 6).1) ((sX s_j40 a0 6).2))) G hP h_a0 iWo rfl 6 (by decide) rfl q558 rfl rfl d_Wo_markEnd_49 ?_
          refine lv_iload_n G.1 G.2.1 d_Wo_markEnd_52 rfl (lv_at hl 2 rfl) ?_
          refine ubald G hP n_1.1 n_1.2 h d_Wo_markEnd_53 (fun x_2 h => ?_)
          refine lv_bipush (v := 62) G.1 G.2.1 d_Wo_markEnd_54 (by decide) ?_
          refine lv_icmp_ne (tgt := 67) G.1 G.2.1 d_Wo_markEnd_56 (by decide) (fun c56 => ?_) (fun c56 => ?_)
          · skip
            have h := h.1 c56
            exact J_67 y_j40 s_j40 d_j40 e_j40 H locs h hP hD hS ls (lv_sub hl [] rfl)
          · skip
            have h := h.2 c56
            refine lv_iload_n G.1 G.2.1 d_Wo_markEnd_59 rfl (lv_at hl 2 rfl) ?_
            refine W.eq (g2 := F0 m 60 ls [.int x2j40]) rfl ?_
            refine lv_iload_n G.1 G.2.1 d_Wo_markEnd_60 rfl (lv_at hl 1 rfl) ?_
            refine lv_isub G.1 G.2.1 d_Wo_markEnd_61 ?_
            refine lv_bipush (v := 6) G.1 G.2.1 d_Wo_markEnd_62 (by decide) ?_
            refine lv_icmp_le (tgt := 69) G.1 G.2.1 d_Wo_markEnd_64 (by decide) (fun c64 => ?_) (fun c64 => ?_)
            · skip
              have h := h.1 c64
              refine lv_aload_n G.1 G.2.1 d_Wo_markEnd_69 rfl (lv_at hl 0 rfl) ?_
              refine ugf (v := .ref (ad (lk a0 4))) G hP h_a0 iWo rfl 4 (by decide) rfl q556 rfl rfl d_Wo_markEnd_70 ?_
              refine lv_aload_n G.1 G.2.1 d_Wo_markEnd_73 rfl (lv_at hl 0 rfl) ?_
              obtain ⟨n_3, h⟩ := h
              refine ugf (v := .ref (yP y_j40 ((sX s_j40 a0 6).1) ((sX s_j40 a0 6).2))) G hP h_a0 iWo rfl 6 (by decide) rfl q558 rfl rfl d_Wo_markEnd_74 ?_
              refine lv_iload_n G.1 G.2.1 d_Wo_markEnd_77 rfl (lv_at hl 1 rfl) ?_
              refine lv_iload_n G.1 G.2.1 d_Wo_markEnd_78 rfl (lv_at hl 2 rfl) ?_
              refine lv_iconst (v := 1) G.1 G.2.1 d_Wo_markEnd_79 (by decide) ?_
              refine lv_iadd G.1 G.2.1 d_Wo_markEnd_80 ?_
              refine W.eq (g2 := F0 m 81 ls [.int (x2j40 + 1), .int x1j40, .ref (yP y_j40 ((sX s_j40 a0 6).1) ((sX s_j40 a0 6).2)), .ref (ad (lk a0 4))]) rfl ?_
              refine lv_iload_n G.1 G.2.1 d_Wo_markEnd_81 rfl (lv_at hl 1 rfl) ?_
              refine lv_isub G.1 G.2.1 d_Wo_markEnd_82 ?_
              obtain ⟨mc_9, ms_10, hr_11, h⟩ := h
              refine uaVi (As := [.ref (yP y_j40 ((sX s_j40 a0 6).1) ((sX s_j40 a0 6).2)), .int x1j40, .int ((x2j40 + 1) - x1j40)]) (rest := []) G hP hD hS (ca_Na_number l D g ad mc_9 ms_10 y_j40 _ s_j40 (lk a0 4) ((sX s_j40 a0 6).1) ((sX s_j40 a0 6).2) x1j40 ((x2j40 + 1) - x1j40) H.size (us H) (lk_8_4 h_a0) ⟨n_3.1, n_3.2⟩ h) w9_Na_number q1282 ⟨Nat.le_of_ble_eq_true rfl, Nat.le_of_ble_eq_true rfl⟩ rfl rfl (lk_8_4 h_a0) (q := (RNa, TNa, 11)) rfl rfl hl.1 rfl (Nat.le_of_ble_eq_true rfl) rfl hr_11 d_Wo_markEnd_83 (fun r_4 y_6 s_5 d_7 e_8 H locs h hP hD hS => ?_)
              obtain ⟨hd, h⟩ := h
              refine lv_istore_n (lv' := [(3, .int r_4), (0, .ref (ad a0)), (1, .int x1j40), (2, .int x2j40)]) G.1 G.2.1 d_Wo_markEnd_86 rfl hl (by decide) rfl (fun ls hl => ?_)
              refine lv_iload_n G.1 G.2.1 d_Wo_markEnd_87 rfl (lv_at hl 0 rfl) ?_
              refine lv_bipush (v := 7) G.1 G.2.1 d_Wo_markEnd_88 (by decide) ?_
              have J_101 : ∀ (y_j101 : Ly) (s_j101 : St) (d_j101 e_j101 : Nat) (x1j101 : Int32) (x2j101 : Int32) (x3j101 : Int32) (H : Heap) (locs : List Loc), wja_Wo_markEnd_101 mc ms Post a0 y_j101 s_j101 d_j101 e_j101 x1j101 x2j101 x3j101 → va_P D CL (ws g ad y_j101 s_j101) H → va_D A (ws g ad y_j101 s_j101) → va_S A s.heap H locs → ∀ ls, lv_has ls 4 [(0, .ref (ad a0)), (1, .int x1j101), (2, .int x2j101), (3, .int x3j101)] → W p l e (ra_Wo_markEnd mc ms) s m args below meth c H locs d_j101 e_j101 Q (F0 m 101 ls []) := by
                intro y_j101 s_j101 d_j101 e_j101 x1j101 x2j101 x3j101 H locs h hP hD hS ls hl
                unfold wja_Wo_markEnd_101 at h
                obtain ⟨hd, h⟩ := h
                refine lv_aload_n G.1 G.2.1 d_Wo_markEnd_101 rfl (lv_at hl 0 rfl) ?_
                refine lv_iconst (v := 4) G.1 G.2.1 d_Wo_markEnd_102 (by decide) ?_
                refine lv_iload_n G.1 G.2.1 d_Wo_markEnd_103 rfl (lv_at hl 3 rfl) ?_
                refine lv_iload_n G.1 G.2.1 d_Wo_markEnd_104 rfl (lv_at hl 1 rfl) ?_
                refine ucVv (As := [.int 4, .int x3j101, .int x1j101]) (rest := []) G hP hD hS (cu_Wo_add l D g ad y_j101 _ s_j101 a0 4 x3j101 x1j101 H.size h_a0 h) w9_Wo_add q1283 ⟨Nat.le_of_ble_eq_true rfl, Nat.le_of_ble_eq_true rfl⟩ rfl rfl h_a0 (q := (RWo, TWo, 8)) rfl rfl hl.1 rfl (Nat.le_of_ble_eq_true rfl) rfl hd d_Wo_markEnd_105 (fun s_13 H locs h hP hD hS => ?_)
                refine lv_iload_n G.1 G.2.1 d_Wo_markEnd_108 rfl (lv_at hl 2 rfl) ?_
                refine lv_iconst (v := 1) G.1 G.2.1 d_Wo_markEnd_109 (by decide) ?_
                refine lv_iadd G.1 G.2.1 d_Wo_markEnd_110 ?_
                exact hret _ (y_j101, s_13, d_j101, e_j101) _ _ _ _ _ ls h hP hD hS (Nat.le_refl _) (Nat.le_refl _) hd.1 hd.2 d_Wo_markEnd_111
              refine lv_icmp_eq (tgt := 101) G.1 G.2.1 d_Wo_markEnd_90 (by decide) (fun c90 => ?_) (fun c90 => ?_)
              · skip
                have h := h.1 c90
                exact J_101 y_6 s_5 (d_j40 + d_7) (e_j40 + e_8) x1j40 x2j40 r_4 H locs h hP hD hS ls (lv_sub hl [1, 2, 3, 0] rfl)
              · skip
                have h := h.2 c90
                refine lv_iload_n G.1 G.2.1 d_Wo_markEnd_93 rfl (lv_at hl 0 rfl) ?_
                refine lv_bipush (v := 8) G.1 G.2.1 d_Wo_markEnd_94 (by decide) ?_
                refine lv_icmp_eq (tgt := 101) G.1 G.2.1 d_Wo_markEnd_96 (by decide) (fun c96 => ?_) (fun c96 => ?_)
                · skip
                  have h := h.1 c96
                  exact J_101 y_6 s_5 (d_j40 + d_7) (e_j40 + e_8) x1j40 x2j40 r_4 H locs h hP hD hS ls (lv_sub hl [1, 2, 3, 0] rfl)
                · skip
                  have h := h.2 c96
                  refine lv_iconst (v := (-1)) G.1 G.2.1 d_Wo_markEnd_99 (by decide) ?_
                  exact hret _ (y_6, s_5, d_j40 + d_7, e_j40 + e_8) _ _ _ _ _ ls h hP hD hS (Nat.le_refl _) (Nat.le_refl _) hd.1 hd.2 d_Wo_markEnd_100
            · skip
              have h := h.2 c64
              exact J_67 y_j40 s_j40 d_j40 e_j40 H locs h hP hD hS ls (lv_sub hl [] rfl)
      refine lv_icmp_ge (tgt := 40) G.1 G.2.1 d_Wo_markEnd_9 (by decide) (fun c9 => ?_) (fun c9 => ?_)
      · skip
        have h := h.1 c9
        exact J_40 y_h4 s_h4 d_h4 e_h4 x1h4 x2h4 H locs h hP hD hS ls (lv_sub hl [0, 1, 2] rfl)
      · skip
        have h := h.2 c9
        refine lv_aload_n G.1 G.2.1 d_Wo_markEnd_12 rfl (lv_at hl 0 rfl) ?_
        obtain ⟨n_14, h⟩ := h
        refine ugf (v := .ref (yP y_h4 ((sX s_h4 a0 6).1) ((sX s_h4 a0 6).2))) G hP h_a0 iWo rfl 6 (by decide) rfl q558 rfl rfl d_Wo_markEnd_13 ?_
        refine lv_iload_n G.1 G.2.1 d_Wo_markEnd_16 rfl (lv_at hl 2 rfl) ?_
        refine ubald G hP n_14.1 n_14.2 h d_Wo_markEnd_17 (fun x_15 h => ?_)
        refine lv_bipush (v := 97) G.1 G.2.1 d_Wo_markEnd_18 (by decide) ?_
        refine lv_icmp_lt (tgt := 40) G.1 G.2.1 d_Wo_markEnd_20 (by decide) (fun c20 => ?_) (fun c20 => ?_)
        · skip
          have h := h.1 c20
          exact J_40 y_h4 s_h4 d_h4 e_h4 x1h4 x2h4 H locs h hP hD hS ls (lv_sub hl [0, 1, 2] rfl)
        · skip
          have h := h.2 c20
          refine lv_aload_n G.1 G.2.1 d_Wo_markEnd_23 rfl (lv_at hl 0 rfl) ?_
          refine W.eq (g2 := F0 m 24 ls [.ref (ad a0)]) rfl ?_
          obtain ⟨n_16, h⟩ := h
          refine ugf (v := .ref (yP y_h4 ((sX s_h4 a0 6).1) ((sX s_h4 a0 6).2))) G hP h_a0 iWo rfl 6 (by decide) rfl q558 rfl rfl d_Wo_markEnd_24 ?_
          refine lv_iload_n G.1 G.2.1 d_Wo_markEnd_27 rfl (lv_at hl 2 rfl) ?_
          refine ubald G hP n_16.1 n_16.2 h d_Wo_markEnd_28 (fun x_17 h => ?_)
          refine lv_bipush (v := 122) G.1 G.2.1 d_Wo_markEnd_29 (by decide) ?_
          refine lv_icmp_gt (tgt := 40) G.1 G.2.1 d_Wo_markEnd_31 (by decide) (fun c31 => ?_) (fun c31 => ?_)
          · skip
            have h := h.1 c31
            exact J_40 y_h4 s_h4 d_h4 e_h4 x1h4 x2h4 H locs h hP hD hS ls (lv_sub hl [0, 1, 2] rfl)
          · skip
            have h := h.2 c31
            refine lv_iinc (v := x2h4 + 1) (lv' := [(2, .int (x2h4 + 1)), (0, .ref (ad a0)), (1, .int x1h4)]) G.1 G.2.1 d_Wo_markEnd_34 hl (k := 2) rfl rfl (by decide) rfl (fun ls hl => ?_)
            refine lv_goto (tgt := 4) G.1 G.2.1 d_Wo_markEnd_37 (by decide) ?_
            have h := hK_4 y_h4 s_h4 d_h4 e_h4 x1h4 (x2h4 + 1) h
            exact ih_4 y_h4 s_h4 d_h4 e_h4 x1h4 (x2h4 + 1) (Nat.lt_of_lt_of_le h.2 (Nat.le_of_lt_succ hμ_4)) h.1 H locs hP hD hS ls (lv_sub hl [1, 2, 0] rfl)
  exact L_4 _ y σ 0 0 v1 (v1 + 1) (Nat.lt_succ_self _) hI_4 H locs hP hD hS ls (lv_sub hl [1, 2, 0] rfl)
theorem q1287 : Cond.methodLink "ClassWorks$Words" 57 y_Wo_numberEnd ∈ lw_ok := lw_okmem (List.mem_of_getElem? (i := 1287) (by decide +kernel)) rfl
theorem q1290 : Cond.code y_Wo_numberEnd b_Wo_numberEnd 7 (some .int) ∈ lw_ok := lw_okmem (List.mem_of_getElem? (i := 1290) (by decide +kernel)) rfl
theorem q1289 : Cond.instanceMethod y_Wo_numberEnd ∈ lw_ok := lw_okmem (List.mem_of_getElem? (i := 1289) (by decide +kernel)) rfl
theorem q12 : Cond.selects y_Wo_numberEnd.cls y_Wo_numberEnd y_Wo_numberEnd ∈ lw_ok := lw_okmem (List.mem_of_getElem? (i := 12) (by decide +kernel)) rfl
theorem w9_Wo_numberEnd : CWv y_Wo_numberEnd b_Wo_numberEnd 7 (some .int) 1 ∧ Cond.instanceMethod y_Wo_numberEnd ∈ lw_ok ∧ Cond.selects y_Wo_numberEnd.cls y_Wo_numberEnd y_Wo_numberEnd ∈ lw_ok := ⟨⟨q1290, q339, by decide +kernel, by decide +kernel, by decide +kernel⟩, q1289, q12⟩
theorem q1298 : Cond.methodLink "ClassWorks$Words" 63 y_Wo_isSign ∈ lw_ok := lw_okmem (List.mem_of_getElem? (i := 1298) (by decide +kernel)) rfl
theorem q1300 : Cond.code y_Wo_isSign b_Wo_isSign 1 (some (.boolean)) ∈ lw_ok := lw_okmem (List.mem_of_getElem? (i := 1300) (by decide +kernel)) rfl
theorem q1299 : Cond.static y_Wo_isSign ∈ lw_ok := lw_okmem (List.mem_of_getElem? (i := 1299) (by decide +kernel)) rfl
theorem w9_Wo_isSign : CWv y_Wo_isSign b_Wo_isSign 1 (some (.boolean)) 1 ∧ Cond.static y_Wo_isSign ∈ lw_ok := ⟨⟨q1300, q339, by decide +kernel, by decide +kernel, by decide +kernel⟩, q1299⟩
theorem q1294 : Cond.methodLink "ClassWorks$Words" 60 y_Wo_markEnd ∈ lw_ok := lw_okmem (List.mem_of_getElem? (i := 1294) (by decide +kernel)) rfl
theorem q1297 : Cond.code y_Wo_markEnd b_Wo_markEnd 4 (some .int) ∈ lw_ok := lw_okmem (List.mem_of_getElem? (i := 1297) (by decide +kernel)) rfl
theorem q1296 : Cond.instanceMethod y_Wo_markEnd ∈ lw_ok := lw_okmem (List.mem_of_getElem? (i := 1296) (by decide +kernel)) rfl
theorem q13 : Cond.selects y_Wo_markEnd.cls y_Wo_markEnd y_Wo_markEnd ∈ lw_ok := lw_okmem (List.mem_of_getElem? (i := 13) (by decide +kernel)) rfl
theorem w9_Wo_markEnd : CWv y_Wo_markEnd b_Wo_markEnd 4 (some .int) 1 ∧ Cond.instanceMethod y_Wo_markEnd ∈ lw_ok ∧ Cond.selects y_Wo_markEnd.cls y_Wo_markEnd y_Wo_markEnd ∈ lw_ok := ⟨⟨q1297, q339, by decide +kernel, by decide +kernel, by decide +kernel⟩, q1296, q13⟩
theorem q1275 : Cond.methodLink "ClassWorks$Words" 51 y_Wo_nameEnd ∈ lw_ok := lw_okmem (List.mem_of_getElem? (i := 1275) (by decide +kernel)) rfl
theorem q1278 : Cond.code y_Wo_nameEnd b_Wo_nameEnd 3 (some .int) ∈ lw_ok := lw_okmem (List.mem_of_getElem? (i := 1278) (by decide +kernel)) rfl
theorem q1277 : Cond.instanceMethod y_Wo_nameEnd ∈ lw_ok := lw_okmem (List.mem_of_getElem? (i := 1277) (by decide +kernel)) rfl
theorem q10 : Cond.selects y_Wo_nameEnd.cls y_Wo_nameEnd y_Wo_nameEnd ∈ lw_ok := lw_okmem (List.mem_of_getElem? (i := 10) (by decide +kernel)) rfl
theorem w9_Wo_nameEnd : CWv y_Wo_nameEnd b_Wo_nameEnd 3 (some .int) 1 ∧ Cond.instanceMethod y_Wo_nameEnd ∈ lw_ok ∧ Cond.selects y_Wo_nameEnd.cls y_Wo_nameEnd y_Wo_nameEnd ∈ lw_ok := ⟨⟨q1278, q339, by decide +kernel, by decide +kernel, by decide +kernel⟩, q1277, q10⟩
def y_Wo_word : MethodName := ⟨"ClassWorks$Words", "word", "(I)I"⟩
abbrev b_Wo_word : ByteArray := prog_10_method_4_code
theorem d_Wo_word_0 : decode b_Wo_word 0 = .ok (.aload_n 0, 1) := by decide +kernel
theorem d_Wo_word_1 : decode b_Wo_word 1 = .ok (.getfield 35, 3) := by decide +kernel
theorem d_Wo_word_4 : decode b_Wo_word 4 = .ok (.iload_n 1, 1) := by decide +kernel
theorem d_Wo_word_5 : decode b_Wo_word 5 = .ok (.baload, 1) := by decide +kernel
theorem d_Wo_word_6 : decode b_Wo_word 6 = .ok (.istore_n 2, 1) := by decide +kernel
theorem d_Wo_word_7 : decode b_Wo_word 7 = .ok (.iload_n 1, 1) := by decide +kernel
theorem d_Wo_word_8 : decode b_Wo_word 8 = .ok (.iconst 1, 1) := by decide +kernel
theorem d_Wo_word_9 : decode b_Wo_word 9 = .ok (.iadd, 1) := by decide +kernel
theorem d_Wo_word_10 : decode b_Wo_word 10 = .ok (.istore_n 3, 1) := by decide +kernel
theorem d_Wo_word_11 : decode b_Wo_word 11 = .ok (.iload_n 2, 1) := by decide +kernel
theorem d_Wo_word_12 : decode b_Wo_word 12 = .ok (.invokestatic 47, 3) := by decide +kernel
theorem d_Wo_word_15 : decode b_Wo_word 15 = .ok (.ifCond .eq 12, 3) := by decide +kernel
theorem d_Wo_word_18 : decode b_Wo_word 18 = .ok (.aload_n 0, 1) := by decide +kernel
theorem d_Wo_word_19 : decode b_Wo_word 19 = .ok (.iload_n 1, 1) := by decide +kernel
theorem d_Wo_word_20 : decode b_Wo_word 20 = .ok (.invokevirtual 51, 3) := by decide +kernel
theorem d_Wo_word_23 : decode b_Wo_word 23 = .ok (.istore_n 3, 1) := by decide +kernel
theorem d_Wo_word_24 : decode b_Wo_word 24 = .ok (.goto 59, 3) := by decide +kernel
theorem d_Wo_word_27 : decode b_Wo_word 27 = .ok (.iload_n 2, 1) := by decide +kernel
theorem d_Wo_word_28 : decode b_Wo_word 28 = .ok (.invokestatic 54, 3) := by decide +kernel
theorem d_Wo_word_31 : decode b_Wo_word 31 = .ok (.ifCond .ne 9, 3) := by decide +kernel
theorem d_Wo_word_34 : decode b_Wo_word 34 = .ok (.iload_n 2, 1) := by decide +kernel
theorem d_Wo_word_35 : decode b_Wo_word 35 = .ok (.bipush 45, 2) := by decide +kernel
theorem d_Wo_word_37 : decode b_Wo_word 37 = .ok (.if_icmp .ne 12, 3) := by decide +kernel
theorem d_Wo_word_40 : decode b_Wo_word 40 = .ok (.aload_n 0, 1) := by decide +kernel
theorem d_Wo_word_41 : decode b_Wo_word 41 = .ok (.iload_n 1, 1) := by decide +kernel
theorem d_Wo_word_42 : decode b_Wo_word 42 = .ok (.invokevirtual 57, 3) := by decide +kernel
theorem d_Wo_word_45 : decode b_Wo_word 45 = .ok (.istore_n 3, 1) := by decide +kernel
theorem d_Wo_word_46 : decode b_Wo_word 46 = .ok (.goto 37, 3) := by decide +kernel
theorem d_Wo_word_49 : decode b_Wo_word 49 = .ok (.iload_n 2, 1) := by decide +kernel
theorem d_Wo_word_50 : decode b_Wo_word 50 = .ok (.bipush 60, 2) := by decide +kernel
theorem d_Wo_word_52 : decode b_Wo_word 52 = .ok (.if_icmp .ne 12, 3) := by decide +kernel
theorem d_Wo_word_55 : decode b_Wo_word 55 = .ok (.aload_n 0, 1) := by decide +kernel
theorem d_Wo_word_56 : decode b_Wo_word 56 = .ok (.iload_n 1, 1) := by decide +kernel
theorem d_Wo_word_57 : decode b_Wo_word 57 = .ok (.invokevirtual 60, 3) := by decide +kernel
theorem d_Wo_word_60 : decode b_Wo_word 60 = .ok (.istore_n 3, 1) := by decide +kernel
theorem d_Wo_word_61 : decode b_Wo_word 61 = .ok (.goto 22, 3) := by decide +kernel
theorem d_Wo_word_64 : decode b_Wo_word 64 = .ok (.iload_n 2, 1) := by decide +kernel
theorem d_Wo_word_65 : decode b_Wo_word 65 = .ok (.invokestatic 63, 3) := by decide +kernel
theorem d_Wo_word_68 : decode b_Wo_word 68 = .ok (.ifCond .eq 13, 3) := by decide +kernel
theorem d_Wo_word_71 : decode b_Wo_word 71 = .ok (.aload_n 0, 1) := by decide +kernel
theorem d_Wo_word_72 : decode b_Wo_word 72 = .ok (.iconst 3, 1) := by decide +kernel
theorem d_Wo_word_73 : decode b_Wo_word 73 = .ok (.iload_n 2, 1) := by decide +kernel
theorem d_Wo_word_74 : decode b_Wo_word 74 = .ok (.iload_n 1, 1) := by decide +kernel
theorem d_Wo_word_75 : decode b_Wo_word 75 = .ok (.invokevirtual 43, 3) := by decide +kernel
theorem d_Wo_word_78 : decode b_Wo_word 78 = .ok (.goto 5, 3) := by decide +kernel
theorem d_Wo_word_81 : decode b_Wo_word 81 = .ok (.iconst (-1), 1) := by decide +kernel
theorem d_Wo_word_82 : decode b_Wo_word 82 = .ok (.istore_n 3, 1) := by decide +kernel
theorem d_Wo_word_83 : decode b_Wo_word 83 = .ok (.iload_n 3, 1) := by decide +kernel
theorem d_Wo_word_84 : decode b_Wo_word 84 = .ok (.ifCond .ge 15, 3) := by decide +kernel
theorem d_Wo_word_87 : decode b_Wo_word 87 = .ok (.aload_n 0, 1) := by decide +kernel
theorem d_Wo_word_88 : decode b_Wo_word 88 = .ok (.iconst 5, 1) := by decide +kernel
theorem d_Wo_word_89 : decode b_Wo_word 89 = .ok (.iconst 0, 1) := by decide +kernel
theorem d_Wo_word_90 : decode b_Wo_word 90 = .ok (.iload_n 1, 1) := by decide +kernel
theorem d_Wo_word_91 : decode b_Wo_word 91 = .ok (.invokevirtual 43, 3) := by decide +kernel
theorem d_Wo_word_94 : decode b_Wo_word 94 = .ok (.aload_n 0, 1) := by decide +kernel
theorem d_Wo_word_95 : decode b_Wo_word 95 = .ok (.getfield 28, 3) := by decide +kernel
theorem d_Wo_word_98 : decode b_Wo_word 98 = .ok (.ireturn, 1) := by decide +kernel
theorem d_Wo_word_99 : decode b_Wo_word 99 = .ok (.iload_n 3, 1) := by decide +kernel
theorem d_Wo_word_100 : decode b_Wo_word 100 = .ok (.ireturn, 1) := by decide +kernel
abbrev ra_Wo_word (mc ms : Nat) : Room := { frames := 7, cells := mc, slots := ms, locals := 469 }
def wja_Wo_word_83 (mc ms : Nat) (Post : Ly → St → Int32 → Nat → Nat → Prop) (a0 : Nat) (y_j83 : Ly) (s_j83 : St) (d_j83 e_j83 : Nat) (x1j83 : Int32) (x3j83 : Int32) : Prop := (d_j83 ≤ mc ∧ e_j83 ≤ ms) ∧ ((0 ≤ x3j83 → Post y_j83 s_j83 x3j83 d_j83 e_j83) ∧ (¬ (0 ≤ x3j83) → wu_Wo_add y_j83 (fun (s_6 : St) => Post y_j83 s_6 (sV s_6 a0 7) d_j83 e_j83) s_j83 a0 5 0 x1j83))
def wja_Wo_word_40 (mc ms : Nat) (Post : Ly → St → Int32 → Nat → Nat → Prop) (a0 : Nat) (y_j40 : Ly) (s_j40 : St) (d_j40 e_j40 : Nat) (x1j40 : Int32) : Prop := (d_j40 ≤ mc ∧ e_j40 ≤ ms) ∧ wu_Wo_numberEnd y_j40 (fun (s_10 : St) (r_9 : Int32) => wja_Wo_word_83 mc ms Post a0 y_j40 s_10 d_j40 e_j40 x1j40 r_9) s_j40 a0 x1j40
def wa_Wo_word (mc ms : Nat) (y : Ly) (Post : Ly → St → Int32 → Nat → Nat → Prop) (σ : St) (a0 : Nat) (v1 : Int32) : Prop := (kd (cl (sX σ a0 6).1) (sX σ a0 6).2 = 2 ∧ tyx (cl (sX σ a0 6).1) (sX σ a0 6).2 = 1) ∧ xA y σ ((sX σ a0 6).1) ((sX σ a0 6).2) v1 (fun x_2 : Int32 => wu_Wo_isLetter y (fun (s_4 : St) (r_3 : Int32) => ((r_3 = 0 → wu_Wo_isDigit y (fun (s_8 : St) (r_7 : Int32) => ((¬ r_7 = 0 → wja_Wo_word_40 mc ms Post a0 y s_8 0 0 v1) ∧ (r_7 = 0 → ((¬ x_2 = 45 → ((¬ x_2 = 60 → wu_Wo_isSign y (fun (s_12 : St) (r_11 : Int32) => ((r_11 = 0 → wja_Wo_word_83 mc ms Post a0 y s_12 0 0 v1 (-1)) ∧ (¬ (r_11 = 0) → wu_Wo_add y (fun (s_14 : St) => wja_Wo_word_83 mc ms Post a0 y s_14 0 0 v1 (v1 + 1)) s_12 a0 3 x_2 v1))) s_8 x_2) ∧ (x_2 = 60 → ∃ mc_20 ms_21 : Nat, (0 + mc_20 ≤ mc ∧ 0 + ms_21 ≤ ms) ∧ wa_Wo_markEnd mc_20 ms_21 y (fun (y_17 : Ly) (s_16 : St) (r_15 : Int32) (d_18 e_19 : Nat) => (0 + d_18 ≤ mc ∧ 0 + e_19 ≤ ms) ∧ wja_Wo_word_83 mc ms Post a0 y_17 s_16 (0 + d_18) (0 + e_19) v1 r_15) s_8 a0 v1))) ∧ (x_2 = 45 → wja_Wo_word_40 mc ms Post a0 y s_8 0 0 v1))))) s_4 x_2) ∧ (¬ (r_3 = 0) → ∃ mc_28 ms_29 : Nat, (0 + mc_28 ≤ mc ∧ 0 + ms_29 ≤ ms) ∧ wa_Wo_nameEnd mc_28 ms_29 y (fun (y_25 : Ly) (s_24 : St) (r_23 : Int32) (d_26 e_27 : Nat) => (0 + d_26 ≤ mc ∧ 0 + e_27 ≤ ms) ∧ wja_Wo_word_83 mc ms Post a0 y_25 s_24 (0 + d_26) (0 + e_27) v1 r_23) s_4 a0 v1))) σ x_2)
set_option maxHeartbeats 4000000 in
set_option maxRecDepth 100000 in
theorem ca_Wo_word (l : Launch) (D : va_G) (g : Nat → ClassId) (ad : Nat → Nat) (mc ms : Nat) (y : Ly) (Post : Ly → St → Int32 → Nat → Nat → Prop) (σ : St) (a0 : Nat) (v1 : Int32) (sz uz : Nat) (h_a0 : cl a0 = 8) (h : wa_Wo_word mc ms y Post σ a0 v1) : Met l y_Wo_word (mw y_Wo_word b_Wo_word 4 (some .int)) (ra_Wo_word mc ms) (PCu g D [] [.ref (ad a0), .int v1] sz uz (ws g ad y σ)) (va_Qi (fun (r : Int32) (u : Ly × St × Nat × Nat) => Post u.1 u.2.1 r u.2.2.1 u.2.2.2) (QU D (va_A (ws g ad y σ) sz) (fun u => ws g ad u.1 u.2.1) sz uz (fun u => u.2.2.1) (fun u => u.2.2.2)) (va_A (ws g ad y σ) sz)) mc ms (va_A (ws g ad y σ) sz) := by
  refine ofIu (by decide +kernel) (Nat.le_of_ble_eq_true rfl) ?_
  intro p e s m args below meth c A Q ls H locs G hsz hP hD hS hl hret
  subst hsz
  have hl : lv_has ls 4 [(0, .ref (ad a0)), (1, .int v1)] := hl
  have hd : 0 ≤ mc ∧ 0 ≤ ms := ⟨Nat.zero_le _, Nat.zero_le _⟩
  unfold wa_Wo_word at h
  refine lv_aload_n G.1 G.2.1 d_Wo_word_0 rfl (lv_at hl 0 rfl) ?_
  obtain ⟨n_1, h⟩ := h
  refine ugf (v := .ref (yP y ((sX σ a0 6).1) ((sX σ a0 6).2))) G hP h_a0 iWo rfl 6 (by decide) rfl q558 rfl rfl d_Wo_word_1 ?_
  refine lv_iload_n G.1 G.2.1 d_Wo_word_4 rfl (lv_at hl 1 rfl) ?_
  refine ubald G hP n_1.1 n_1.2 h d_Wo_word_5 (fun x_2 h => ?_)
  refine lv_istore_n (lv' := [(2, .int x_2), (0, .ref (ad a0)), (1, .int v1)]) G.1 G.2.1 d_Wo_word_6 rfl hl (by decide) rfl (fun ls hl => ?_)
  refine lv_iload_n G.1 G.2.1 d_Wo_word_7 rfl (lv_at hl 2 rfl) ?_
  refine lv_iconst (v := 1) G.1 G.2.1 d_Wo_word_8 (by decide) ?_
  refine lv_iadd G.1 G.2.1 d_Wo_word_9 ?_
  refine lv_istore_n (lv' := [(3, .int (v1 + 1)), (2, .int x_2), (0, .ref (ad a0)), (1, .int v1)]) G.1 G.2.1 d_Wo_word_10 rfl hl (by decide) rfl (fun ls hl => ?_)
  refine lv_iload_n G.1 G.2.1 d_Wo_word_11 rfl (lv_at hl 1 rfl) ?_
  refine ucSi (As := [.int x_2]) (rest := []) G hP hD hS (cu_Wo_isLetter l D g ad y _ σ x_2 H.size  h) w9_Wo_isLetter q1272 ⟨Nat.le_of_ble_eq_true rfl, Nat.le_of_ble_eq_true rfl⟩ rfl rfl hl.1 rfl (Nat.le_of_ble_eq_true rfl) rfl hd d_Wo_word_12 (fun r_3 s_4 H locs h hP hD hS => ?_)
  have J_83 : ∀ (y_j83 : Ly) (s_j83 : St) (d_j83 e_j83 : Nat) (x1j83 : Int32) (x3j83 : Int32) (H : Heap) (locs : List Loc), wja_Wo_word_83 mc ms Post a0 y_j83 s_j83 d_j83 e_j83 x1j83 x3j83 → va_P D CL (ws g ad y_j83 s_j83) H → va_D A (ws g ad y_j83 s_j83) → va_S A s.heap H locs → ∀ ls, lv_has ls 4 [(0, .ref (ad a0)), (1, .int x1j83), (3, .int x3j83)] → W p l e (ra_Wo_word mc ms) s m args below meth c H locs d_j83 e_j83 Q (F0 m 83 ls []) := by
    intro y_j83 s_j83 d_j83 e_j83 x1j83 x3j83 H locs h hP hD hS ls hl
    unfold wja_Wo_word_83 at h
    obtain ⟨hd, h⟩ := h
    refine lv_iload_n G.1 G.2.1 d_Wo_word_83 rfl (lv_at hl 2 rfl) ?_
    refine lv_if_ge (tgt := 99) G.1 G.2.1 d_Wo_word_84 (by decide) (fun c84 => ?_) (fun c84 => ?_)
    · skip
      have h := h.1 c84
      refine lv_iload_n G.1 G.2.1 d_Wo_word_99 rfl (lv_at hl 2 rfl) ?_
      exact hret _ (y_j83, s_j83, d_j83, e_j83) _ _ _ _ _ ls h hP hD hS (Nat.le_refl _) (Nat.le_refl _) hd.1 hd.2 d_Wo_word_100
    · skip
      have h := h.2 c84
      refine lv_aload_n G.1 G.2.1 d_Wo_word_87 rfl (lv_at hl 0 rfl) ?_
      refine lv_iconst (v := 5) G.1 G.2.1 d_Wo_word_88 (by decide) ?_
      refine lv_iconst (v := 0) G.1 G.2.1 d_Wo_word_89 (by decide) ?_
      refine lv_iload_n G.1 G.2.1 d_Wo_word_90 rfl (lv_at hl 1 rfl) ?_
      refine ucVv (As := [.int 5, .int 0, .int x1j83]) (rest := []) G hP hD hS (cu_Wo_add l D g ad y_j83 _ s_j83 a0 5 0 x1j83 H.size h_a0 h) w9_Wo_add q1283 ⟨Nat.le_of_ble_eq_true rfl, Nat.le_of_ble_eq_true rfl⟩ rfl rfl h_a0 (q := (RWo, TWo, 8)) rfl rfl hl.1 rfl (Nat.le_of_ble_eq_true rfl) rfl hd d_Wo_word_91 (fun s_6 H locs h hP hD hS => ?_)
      refine lv_aload_n G.1 G.2.1 d_Wo_word_94 rfl (lv_at hl 0 rfl) ?_
      refine ugf (v := .int (sV s_6 a0 7)) G hP h_a0 iWo rfl 7 (by decide) rfl q559 rfl rfl d_Wo_word_95 ?_
      exact hret _ (y_j83, s_6, d_j83, e_j83) _ _ _ _ _ ls h hP hD hS (Nat.le_refl _) (Nat.le_refl _) hd.1 hd.2 d_Wo_word_98
  refine W.eq (g2 := F0 m 15 ls [.int r_3]) rfl ?_
  refine lv_if_eq (tgt := 27) G.1 G.2.1 d_Wo_word_15 (by decide) (fun c15 => ?_) (fun c15 => ?_)
  · skip
    have h := h.1 c15
    refine lv_iload_n G.1 G.2.1 d_Wo_word_27 rfl (lv_at hl 1 rfl) ?_
    refine ucSi (As := [.int x_2]) (rest := []) G hP hD hS (cu_Wo_isDigit l D g ad y _ s_4 x_2 H.size  h) w9_Wo_isDigit q1279 ⟨Nat.le_of_ble_eq_true rfl, Nat.le_of_ble_eq_true rfl⟩ rfl rfl hl.1 rfl (Nat.le_of_ble_eq_true rfl) rfl hd d_Wo_word_28 (fun r_7 s_8 H locs h hP hD hS => ?_)
    have J_40 : ∀ (y_j40 : Ly) (s_j40 : St) (d_j40 e_j40 : Nat) (x1j40 : Int32) (H : Heap) (locs : List Loc), wja_Wo_word_40 mc ms Post a0 y_j40 s_j40 d_j40 e_j40 x1j40 → va_P D CL (ws g ad y_j40 s_j40) H → va_D A (ws g ad y_j40 s_j40) → va_S A s.heap H locs → ∀ ls, lv_has ls 4 [(0, .ref (ad a0)), (1, .int x1j40)] → W p l e (ra_Wo_word mc ms) s m args below meth c H locs d_j40 e_j40 Q (F0 m 40 ls []) := by
      intro y_j40 s_j40 d_j40 e_j40 x1j40 H locs h hP hD hS ls hl
      unfold wja_Wo_word_40 at h
      obtain ⟨hd, h⟩ := h
      refine lv_aload_n G.1 G.2.1 d_Wo_word_40 rfl (lv_at hl 0 rfl) ?_
      refine lv_iload_n G.1 G.2.1 d_Wo_word_41 rfl (lv_at hl 1 rfl) ?_
      refine ucVi (As := [.int x1j40]) (rest := []) G hP hD hS (cu_Wo_numberEnd l D g ad y_j40 _ s_j40 a0 x1j40 H.size h_a0 h) w9_Wo_numberEnd q1287 ⟨Nat.le_of_ble_eq_true rfl, Nat.le_of_ble_eq_true rfl⟩ rfl rfl h_a0 (q := (RWo, TWo, 8)) rfl rfl hl.1 rfl (Nat.le_of_ble_eq_true rfl) rfl hd d_Wo_word_42 (fun r_9 s_10 H locs h hP hD hS => ?_)
      refine lv_istore_n (lv' := [(3, .int r_9), (0, .ref (ad a0)), (1, .int x1j40)]) G.1 G.2.1 d_Wo_word_45 rfl hl (by decide) rfl (fun ls hl => ?_)
      refine lv_goto (tgt := 83) G.1 G.2.1 d_Wo_word_46 (by decide) ?_
      exact J_83 y_j40 s_10 d_j40 e_j40 x1j40 r_9 H locs h hP hD hS ls (lv_sub hl [1, 2, 0] rfl)
    refine lv_if_ne (tgt := 40) G.1 G.2.1 d_Wo_word_31 (by decide) (fun c31 => ?_) (fun c31 => ?_)
    · skip
      have h := h.1 c31
      exact J_40 y s_8 0 0 v1 H locs h hP hD hS ls (lv_sub hl [2, 3] rfl)
    · skip
      have h := h.2 c31
      refine lv_iload_n G.1 G.2.1 d_Wo_word_34 rfl (lv_at hl 1 rfl) ?_
      refine lv_bipush (v := 45) G.1 G.2.1 d_Wo_word_35 (by decide) ?_
      refine lv_icmp_ne (tgt := 49) G.1 G.2.1 d_Wo_word_37 (by decide) (fun c37 => ?_) (fun c37 => ?_)
      · skip
        have h := h.1 c37
        refine lv_iload_n G.1 G.2.1 d_Wo_word_49 rfl (lv_at hl 1 rfl) ?_
        refine lv_bipush (v := 60) G.1 G.2.1 d_Wo_word_50 (by decide) ?_
        refine lv_icmp_ne (tgt := 64) G.1 G.2.1 d_Wo_word_52 (by decide) (fun c52 => ?_) (fun c52 => ?_)
        · skip
          have h := h.1 c52
          refine lv_iload_n G.1 G.2.1 d_Wo_word_64 rfl (lv_at hl 1 rfl) ?_
          refine ucSi (As := [.int x_2]) (rest := []) G hP hD hS (cu_Wo_isSign l D g ad y _ s_8 x_2 H.size  h) w9_Wo_isSign q1298 ⟨Nat.le_of_ble_eq_true rfl, Nat.le_of_ble_eq_true rfl⟩ rfl rfl hl.1 rfl (Nat.le_of_ble_eq_true rfl) rfl hd d_Wo_word_65 (fun r_11 s_12 H locs h hP hD hS => ?_)
          refine W.eq (g2 := F0 m 68 ls [.int r_11]) rfl ?_
          refine lv_if_eq (tgt := 81) G.1 G.2.1 d_Wo_word_68 (by decide) (fun c68 => ?_) (fun c68 => ?_)
          · skip
            have h := h.1 c68
            refine lv_iconst (v := (-1)) G.1 G.2.1 d_Wo_word_81 (by decide) ?_
            refine lv_istore_n (lv' := [(3, .int (-1)), (2, .int x_2), (0, .ref (ad a0)), (1, .int v1)]) G.1 G.2.1 d_Wo_word_82 rfl hl (by decide) rfl (fun ls hl => ?_)
            exact J_83 y s_12 0 0 v1 (-1) H locs h hP hD hS ls (lv_sub hl [2, 3, 0] rfl)
          · skip
            have h := h.2 c68
            refine lv_aload_n G.1 G.2.1 d_Wo_word_71 rfl (lv_at hl 2 rfl) ?_
            refine lv_iconst (v := 3) G.1 G.2.1 d_Wo_word_72 (by decide) ?_
            refine lv_iload_n G.1 G.2.1 d_Wo_word_73 rfl (lv_at hl 1 rfl) ?_
            refine lv_iload_n G.1 G.2.1 d_Wo_word_74 rfl (lv_at hl 3 rfl) ?_
            refine ucVv (As := [.int 3, .int x_2, .int v1]) (rest := []) G hP hD hS (cu_Wo_add l D g ad y _ s_12 a0 3 x_2 v1 H.size h_a0 h) w9_Wo_add q1283 ⟨Nat.le_of_ble_eq_true rfl, Nat.le_of_ble_eq_true rfl⟩ rfl rfl h_a0 (q := (RWo, TWo, 8)) rfl rfl hl.1 rfl (Nat.le_of_ble_eq_true rfl) rfl hd d_Wo_word_75 (fun s_14 H locs h hP hD hS => ?_)
            refine lv_goto (tgt := 83) G.1 G.2.1 d_Wo_word_78 (by decide) ?_
            exact J_83 y s_14 0 0 v1 (v1 + 1) H locs h hP hD hS ls (lv_sub hl [2, 3, 0] rfl)
        · skip
          have h := h.2 c52
          refine lv_aload_n G.1 G.2.1 d_Wo_word_55 rfl (lv_at hl 2 rfl) ?_
          refine lv_iload_n G.1 G.2.1 d_Wo_word_56 rfl (lv_at hl 3 rfl) ?_
          refine W.eq (g2 := F0 m 57 ls [.int v1, .ref (ad a0)]) rfl ?_
          obtain ⟨mc_20, ms_21, hr_22, h⟩ := h
          refine uaVi (As := [.int v1]) (rest := []) G hP hD hS (ca_Wo_markEnd l D g ad mc_20 ms_21 y _ s_8 a0 v1 H.size (us H) h_a0 h) w9_Wo_markEnd q1294 ⟨Nat.le_of_ble_eq_true rfl, Nat.le_of_ble_eq_true rfl⟩ rfl rfl h_a0 (q := (RWo, TWo, 8)) rfl rfl hl.1 rfl (Nat.le_of_ble_eq_true rfl) rfl hr_22 d_Wo_word_57 (fun r_15 y_17 s_16 d_18 e_19 H locs h hP hD hS => ?_)
          have hl := lv_sub (l' := [(0, .ref (ad a0)), (1, .int v1)]) hl [2, 3] rfl
          obtain ⟨hd, h⟩ := h
          refine lv_istore_n (lv' := [(3, .int r_15), (0, .ref (ad a0)), (1, .int v1)]) G.1 G.2.1 d_Wo_word_60 rfl hl (by decide) rfl (fun ls hl => ?_)
          refine lv_goto (tgt := 83) G.1 G.2.1 d_Wo_word_61 (by decide) ?_
          exact J_83 y_17 s_16 (0 + d_18) (0 + e_19) v1 r_15 H locs h hP hD hS ls (lv_sub hl [1, 2, 0] rfl)
      · skip
        have h := h.2 c37
        exact J_40 y s_8 0 0 v1 H locs h hP hD hS ls (lv_sub hl [2, 3] rfl)
  · skip
    have h := h.2 c15
    refine lv_aload_n G.1 G.2.1 d_Wo_word_18 rfl (lv_at hl 2 rfl) ?_
    refine lv_iload_n G.1 G.2.1 d_Wo_word_19 rfl (lv_at hl 3 rfl) ?_
    obtain ⟨mc_28, ms_29, hr_30, h⟩ := h
    refine uaVi (As := [.int v1]) (rest := []) G hP hD hS (ca_Wo_nameEnd l D g ad mc_28 ms_29 y _ s_4 a0 v1 H.size (us H) h_a0 h) w9_Wo_nameEnd q1275 ⟨Nat.le_of_ble_eq_true rfl, Nat.le_of_ble_eq_true rfl⟩ rfl rfl h_a0 (q := (RWo, TWo, 8)) rfl rfl hl.1 rfl (Nat.le_of_ble_eq_true rfl) rfl hr_30 d_Wo_word_20 (fun r_23 y_25 s_24 d_26 e_27 H locs h hP hD hS => ?_)
    have hl := lv_sub (l' := [(0, .ref (ad a0)), (1, .int v1)]) hl [2, 3] rfl
    obtain ⟨hd, h⟩ := h
    refine lv_istore_n (lv' := [(3, .int r_23), (0, .ref (ad a0)), (1, .int v1)]) G.1 G.2.1 d_Wo_word_23 rfl hl (by decide) rfl (fun ls hl => ?_)
    refine lv_goto (tgt := 83) G.1 G.2.1 d_Wo_word_24 (by decide) ?_
    exact J_83 y_25 s_24 (0 + d_26) (0 + e_27) v1 r_23 H locs h hP hD hS ls (lv_sub hl [1, 2, 0] rfl)
theorem q553 : Cond.fieldLink "ClassWorks$Words" 21 "ClassWorks$Words" "after" "I" ∈ lw_ok := lw_okmem (List.mem_of_getElem? (i := 553) (by decide +kernel)) rfl
theorem q1268 : Cond.methodLink "ClassWorks$Words" 39 y_Wo_word ∈ lw_ok := lw_okmem (List.mem_of_getElem? (i := 1268) (by decide +kernel)) rfl
theorem q1271 : Cond.code y_Wo_word b_Wo_word 4 (some .int) ∈ lw_ok := lw_okmem (List.mem_of_getElem? (i := 1271) (by decide +kernel)) rfl
theorem q1270 : Cond.instanceMethod y_Wo_word ∈ lw_ok := lw_okmem (List.mem_of_getElem? (i := 1270) (by decide +kernel)) rfl
theorem q9 : Cond.selects y_Wo_word.cls y_Wo_word y_Wo_word ∈ lw_ok := lw_okmem (List.mem_of_getElem? (i := 9) (by decide +kernel)) rfl
theorem w9_Wo_word : CWv y_Wo_word b_Wo_word 4 (some .int) 1 ∧ Cond.instanceMethod y_Wo_word ∈ lw_ok ∧ Cond.selects y_Wo_word.cls y_Wo_word y_Wo_word ∈ lw_ok := ⟨⟨q1271, q339, by decide +kernel, by decide +kernel, by decide +kernel⟩, q1270, q9⟩
def y_Wo_load : MethodName := ⟨"ClassWorks$Words", "load", "([BII)Z"⟩
abbrev b_Wo_load : ByteArray := prog_10_method_2_code
theorem d_Wo_load_0 : decode b_Wo_load 0 = .ok (.aload_n 0, 1) := by decide +kernel
theorem d_Wo_load_1 : decode b_Wo_load 1 = .ok (.aload_n 1, 1) := by decide +kernel
theorem d_Wo_load_2 : decode b_Wo_load 2 = .ok (.putfield 35, 3) := by decide +kernel
theorem d_Wo_load_5 : decode b_Wo_load 5 = .ok (.aload_n 0, 1) := by decide +kernel
theorem d_Wo_load_6 : decode b_Wo_load 6 = .ok (.iload_n 2, 1) := by decide +kernel
theorem d_Wo_load_7 : decode b_Wo_load 7 = .ok (.putfield 28, 3) := by decide +kernel
theorem d_Wo_load_10 : decode b_Wo_load 10 = .ok (.aload_n 0, 1) := by decide +kernel
theorem d_Wo_load_11 : decode b_Wo_load 11 = .ok (.getfield 28, 3) := by decide +kernel
theorem d_Wo_load_14 : decode b_Wo_load 14 = .ok (.iload_n 3, 1) := by decide +kernel
theorem d_Wo_load_15 : decode b_Wo_load 15 = .ok (.if_icmp .ge 30, 3) := by decide +kernel
theorem d_Wo_load_18 : decode b_Wo_load 18 = .ok (.aload_n 0, 1) := by decide +kernel
theorem d_Wo_load_19 : decode b_Wo_load 19 = .ok (.getfield 35, 3) := by decide +kernel
theorem d_Wo_load_22 : decode b_Wo_load 22 = .ok (.aload_n 0, 1) := by decide +kernel
theorem d_Wo_load_23 : decode b_Wo_load 23 = .ok (.getfield 28, 3) := by decide +kernel
theorem d_Wo_load_26 : decode b_Wo_load 26 = .ok (.baload, 1) := by decide +kernel
theorem d_Wo_load_27 : decode b_Wo_load 27 = .ok (.bipush 10, 2) := by decide +kernel
theorem d_Wo_load_29 : decode b_Wo_load 29 = .ok (.if_icmp .eq 16, 3) := by decide +kernel
theorem d_Wo_load_32 : decode b_Wo_load 32 = .ok (.aload_n 0, 1) := by decide +kernel
theorem d_Wo_load_33 : decode b_Wo_load 33 = .ok (.dup, 1) := by decide +kernel
theorem d_Wo_load_34 : decode b_Wo_load 34 = .ok (.getfield 28, 3) := by decide +kernel
theorem d_Wo_load_37 : decode b_Wo_load 37 = .ok (.iconst 1, 1) := by decide +kernel
theorem d_Wo_load_38 : decode b_Wo_load 38 = .ok (.iadd, 1) := by decide +kernel
theorem d_Wo_load_39 : decode b_Wo_load 39 = .ok (.putfield 28, 3) := by decide +kernel
theorem d_Wo_load_42 : decode b_Wo_load 42 = .ok (.goto (-32), 3) := by decide +kernel
theorem d_Wo_load_45 : decode b_Wo_load 45 = .ok (.aload_n 0, 1) := by decide +kernel
theorem d_Wo_load_46 : decode b_Wo_load 46 = .ok (.aload_n 0, 1) := by decide +kernel
theorem d_Wo_load_47 : decode b_Wo_load 47 = .ok (.getfield 28, 3) := by decide +kernel
theorem d_Wo_load_50 : decode b_Wo_load 50 = .ok (.iconst 1, 1) := by decide +kernel
theorem d_Wo_load_51 : decode b_Wo_load 51 = .ok (.iadd, 1) := by decide +kernel
theorem d_Wo_load_52 : decode b_Wo_load 52 = .ok (.putfield 21, 3) := by decide +kernel
theorem d_Wo_load_55 : decode b_Wo_load 55 = .ok (.aload_n 0, 1) := by decide +kernel
theorem d_Wo_load_56 : decode b_Wo_load 56 = .ok (.iconst 0, 1) := by decide +kernel
theorem d_Wo_load_57 : decode b_Wo_load 57 = .ok (.putfield 25, 3) := by decide +kernel
theorem d_Wo_load_60 : decode b_Wo_load 60 = .ok (.iload_n 2, 1) := by decide +kernel
theorem d_Wo_load_61 : decode b_Wo_load 61 = .ok (.istore 4, 2) := by decide +kernel
theorem d_Wo_load_63 : decode b_Wo_load 63 = .ok (.iload 4, 2) := by decide +kernel
theorem d_Wo_load_65 : decode b_Wo_load 65 = .ok (.aload_n 0, 1) := by decide +kernel
theorem d_Wo_load_66 : decode b_Wo_load 66 = .ok (.getfield 28, 3) := by decide +kernel
theorem d_Wo_load_69 : decode b_Wo_load 69 = .ok (.if_icmp .ge 45, 3) := by decide +kernel
theorem d_Wo_load_72 : decode b_Wo_load 72 = .ok (.aload_n 0, 1) := by decide +kernel
theorem d_Wo_load_73 : decode b_Wo_load 73 = .ok (.getfield 35, 3) := by decide +kernel
theorem d_Wo_load_76 : decode b_Wo_load 76 = .ok (.iload 4, 2) := by decide +kernel
theorem d_Wo_load_78 : decode b_Wo_load 78 = .ok (.baload, 1) := by decide +kernel
theorem d_Wo_load_79 : decode b_Wo_load 79 = .ok (.bipush 35, 2) := by decide +kernel
theorem d_Wo_load_81 : decode b_Wo_load 81 = .ok (.if_icmp .eq 33, 3) := by decide +kernel
theorem d_Wo_load_84 : decode b_Wo_load 84 = .ok (.aload_n 0, 1) := by decide +kernel
theorem d_Wo_load_85 : decode b_Wo_load 85 = .ok (.getfield 35, 3) := by decide +kernel
theorem d_Wo_load_88 : decode b_Wo_load 88 = .ok (.iload 4, 2) := by decide +kernel
theorem d_Wo_load_90 : decode b_Wo_load 90 = .ok (.baload, 1) := by decide +kernel
theorem d_Wo_load_91 : decode b_Wo_load 91 = .ok (.bipush 32, 2) := by decide +kernel
theorem d_Wo_load_93 : decode b_Wo_load 93 = .ok (.if_icmp .ne 10, 3) := by decide +kernel
theorem d_Wo_load_96 : decode b_Wo_load 96 = .ok (.iload 4, 2) := by decide +kernel
theorem d_Wo_load_98 : decode b_Wo_load 98 = .ok (.iconst 1, 1) := by decide +kernel
theorem d_Wo_load_99 : decode b_Wo_load 99 = .ok (.iadd, 1) := by decide +kernel
theorem d_Wo_load_100 : decode b_Wo_load 100 = .ok (.goto 9, 3) := by decide +kernel
theorem d_Wo_load_103 : decode b_Wo_load 103 = .ok (.aload_n 0, 1) := by decide +kernel
theorem d_Wo_load_104 : decode b_Wo_load 104 = .ok (.iload 4, 2) := by decide +kernel
theorem d_Wo_load_106 : decode b_Wo_load 106 = .ok (.invokevirtual 39, 3) := by decide +kernel
theorem d_Wo_load_109 : decode b_Wo_load 109 = .ok (.istore 4, 2) := by decide +kernel
theorem d_Wo_load_111 : decode b_Wo_load 111 = .ok (.goto (-48), 3) := by decide +kernel
theorem d_Wo_load_114 : decode b_Wo_load 114 = .ok (.aload_n 0, 1) := by decide +kernel
theorem d_Wo_load_115 : decode b_Wo_load 115 = .ok (.iconst 0, 1) := by decide +kernel
theorem d_Wo_load_116 : decode b_Wo_load 116 = .ok (.iconst 0, 1) := by decide +kernel
theorem d_Wo_load_117 : decode b_Wo_load 117 = .ok (.aload_n 0, 1) := by decide +kernel
theorem d_Wo_load_118 : decode b_Wo_load 118 = .ok (.getfield 28, 3) := by decide +kernel
theorem d_Wo_load_121 : decode b_Wo_load 121 = .ok (.invokevirtual 43, 3) := by decide +kernel
theorem d_Wo_load_124 : decode b_Wo_load 124 = .ok (.aload_n 0, 1) := by decide +kernel
theorem d_Wo_load_125 : decode b_Wo_load 125 = .ok (.getfield 9, 3) := by decide +kernel
theorem d_Wo_load_128 : decode b_Wo_load 128 = .ok (.iconst 0, 1) := by decide +kernel
theorem d_Wo_load_129 : decode b_Wo_load 129 = .ok (.iaload, 1) := by decide +kernel
theorem d_Wo_load_130 : decode b_Wo_load 130 = .ok (.ifCond .eq 7, 3) := by decide +kernel
theorem d_Wo_load_133 : decode b_Wo_load 133 = .ok (.iconst 1, 1) := by decide +kernel
theorem d_Wo_load_134 : decode b_Wo_load 134 = .ok (.goto 4, 3) := by decide +kernel
theorem d_Wo_load_137 : decode b_Wo_load 137 = .ok (.iconst 0, 1) := by decide +kernel
theorem d_Wo_load_138 : decode b_Wo_load 138 = .ok (.ireturn, 1) := by decide +kernel
abbrev ra_Wo_load (mc ms : Nat) : Room := { frames := 8, cells := mc, slots := ms, locals := 492 }
def wja_Wo_load_138 (mc ms : Nat) (Post : Ly → St → Int32 → Nat → Nat → Prop) (a0 : Nat) (a1 : Nat) (k1 : Nat) (y_j138 : Ly) (s_j138 : St) (d_j138 e_j138 : Nat) (z0j138 : Int32) : Prop := (d_j138 ≤ mc ∧ e_j138 ≤ ms) ∧ (nb z0j138 ∧ Post y_j138 s_j138 z0j138 d_j138 e_j138)
def wja_Wo_load_114 (mc ms : Nat) (Post : Ly → St → Int32 → Nat → Nat → Prop) (a0 : Nat) (a1 : Nat) (k1 : Nat) (y_j114 : Ly) (s_j114 : St) (d_j114 e_j114 : Nat) : Prop := (d_j114 ≤ mc ∧ e_j114 ≤ ms) ∧ wu_Wo_add y_j114 (fun (s_6 : St) => xA y_j114 s_6 a0 0 0 (fun x_7 : Int32 => ((x_7 = 0 → wja_Wo_load_138 mc ms Post a0 a1 k1 y_j114 s_6 d_j114 e_j114 0) ∧ (¬ (x_7 = 0) → wja_Wo_load_138 mc ms Post a0 a1 k1 y_j114 s_6 d_j114 e_j114 1)))) s_j114 a0 0 0 (sV s_j114 a0 7)
def wja_Wo_load_109 (mc ms : Nat) (Post : Ly → St → Int32 → Nat → Nat → Prop) (K_63 : Ly → St → Nat → Nat → Int32 → Prop) (a0 : Nat) (a1 : Nat) (k1 : Nat) (y_j109 : Ly) (s_j109 : St) (d_j109 e_j109 : Nat) (z0j109 : Int32) : Prop := (d_j109 ≤ mc ∧ e_j109 ≤ ms) ∧ K_63 y_j109 s_j109 d_j109 e_j109 z0j109
def wba_Wo_load_63 (mc ms : Nat) (Post : Ly → St → Int32 → Nat → Nat → Prop) (K_63 : Ly → St → Nat → Nat → Int32 → Prop) (a0 : Nat) (a1 : Nat) (k1 : Nat) (y_h63 : Ly) (s_h63 : St) (d_h63 e_h63 : Nat) (x4h63 : Int32) : Prop := (d_h63 ≤ mc ∧ e_h63 ≤ ms) ∧ (((sV s_h63 a0 7) ≤ x4h63 → wja_Wo_load_114 mc ms Post a0 a1 k1 y_h63 s_h63 d_h63 e_h63) ∧ (¬ ((sV s_h63 a0 7) ≤ x4h63) → (kd (cl (sX s_h63 a0 6).1) (sX s_h63 a0 6).2 = 2 ∧ tyx (cl (sX s_h63 a0 6).1) (sX s_h63 a0 6).2 = 1) ∧ xA y_h63 s_h63 ((sX s_h63 a0 6).1) ((sX s_h63 a0 6).2) x4h63 (fun x_9 : Int32 => ((x_9 = 35 → wja_Wo_load_114 mc ms Post a0 a1 k1 y_h63 s_h63 d_h63 e_h63) ∧ (¬ (x_9 = 35) → (kd (cl (sX s_h63 a0 6).1) (sX s_h63 a0 6).2 = 2 ∧ tyx (cl (sX s_h63 a0 6).1) (sX s_h63 a0 6).2 = 1) ∧ xA y_h63 s_h63 ((sX s_h63 a0 6).1) ((sX s_h63 a0 6).2) x4h63 (fun x_11 : Int32 => ((¬ x_11 = 32 → ∃ mc_17 ms_18 : Nat, (d_h63 + mc_17 ≤ mc ∧ e_h63 + ms_18 ≤ ms) ∧ wa_Wo_word mc_17 ms_18 y_h63 (fun (y_14 : Ly) (s_13 : St) (r_12 : Int32) (d_15 e_16 : Nat) => (d_h63 + d_15 ≤ mc ∧ e_h63 + e_16 ≤ ms) ∧ wja_Wo_load_109 mc ms Post K_63 a0 a1 k1 y_14 s_13 (d_h63 + d_15) (e_h63 + e_16) r_12) s_h63 a0 x4h63) ∧ (x_11 = 32 → wja_Wo_load_109 mc ms Post K_63 a0 a1 k1 y_h63 s_h63 d_h63 e_h63 (x4h63 + 1)))))))))
def wla_Wo_load_63 (mc ms : Nat) (Post : Ly → St → Int32 → Nat → Nat → Prop) (a0 : Nat) (a1 : Nat) (k1 : Nat) (y_h63 : Ly) (s_h63 : St) (d_h63 e_h63 : Nat) (x4h63 : Int32) : Prop := ∃ (I : Ly → St → Nat → Nat → Int32 → Prop) (μ : Ly → St → Nat → Nat → Int32 → Nat), I y_h63 s_h63 d_h63 e_h63 x4h63 ∧ ∀ (u1 : Ly) (u2 : St) (u3 u4 : Nat) (t0 : Int32), I u1 u2 u3 u4 t0 → wba_Wo_load_63 mc ms Post (fun z1 z2 z3 z4 t0q => I z1 z2 z3 z4 t0q ∧ μ z1 z2 z3 z4 t0q < μ u1 u2 u3 u4 t0) a0 a1 k1 u1 u2 u3 u4 t0
def wja_Wo_load_45 (mc ms : Nat) (Post : Ly → St → Int32 → Nat → Nat → Prop) (a0 : Nat) (a1 : Nat) (k1 : Nat) (y_j45 : Ly) (s_j45 : St) (d_j45 e_j45 : Nat) (x2j45 : Int32) : Prop := (d_j45 ≤ mc ∧ e_j45 ≤ ms) ∧ xP (uV s_j45 a0 3 ((sV s_j45 a0 7) + 1)) (fun s_3 : St => xP (uV s_3 a0 5 0) (fun s_4 : St => wla_Wo_load_63 mc ms Post a0 a1 k1 y_j45 s_4 d_j45 e_j45 x2j45))
def wba_Wo_load_10 (mc ms : Nat) (Post : Ly → St → Int32 → Nat → Nat → Prop) (K_10 : Ly → St → Nat → Nat → Int32 → Int32 → Prop) (a0 : Nat) (a1 : Nat) (k1 : Nat) (y_h10 : Ly) (s_h10 : St) (d_h10 e_h10 : Nat) (x2h10 : Int32) (x3h10 : Int32) : Prop := (d_h10 ≤ mc ∧ e_h10 ≤ ms) ∧ ((x3h10 ≤ (sV s_h10 a0 7) → wja_Wo_load_45 mc ms Post a0 a1 k1 y_h10 s_h10 d_h10 e_h10 x2h10) ∧ (¬ (x3h10 ≤ (sV s_h10 a0 7)) → (kd (cl (sX s_h10 a0 6).1) (sX s_h10 a0 6).2 = 2 ∧ tyx (cl (sX s_h10 a0 6).1) (sX s_h10 a0 6).2 = 1) ∧ xA y_h10 s_h10 ((sX s_h10 a0 6).1) ((sX s_h10 a0 6).2) (sV s_h10 a0 7) (fun x_21 : Int32 => ((x_21 = 10 → wja_Wo_load_45 mc ms Post a0 a1 k1 y_h10 s_h10 d_h10 e_h10 x2h10) ∧ (¬ (x_21 = 10) → xP (uV s_h10 a0 7 ((sV s_h10 a0 7) + 1)) (fun s_22 : St => K_10 y_h10 s_22 d_h10 e_h10 x2h10 x3h10))))))
def wla_Wo_load_10 (mc ms : Nat) (Post : Ly → St → Int32 → Nat → Nat → Prop) (a0 : Nat) (a1 : Nat) (k1 : Nat) (y_h10 : Ly) (s_h10 : St) (d_h10 e_h10 : Nat) (x2h10 : Int32) (x3h10 : Int32) : Prop := ∃ (I : Ly → St → Nat → Nat → Int32 → Int32 → Prop) (μ : Ly → St → Nat → Nat → Int32 → Int32 → Nat), I y_h10 s_h10 d_h10 e_h10 x2h10 x3h10 ∧ ∀ (u1 : Ly) (u2 : St) (u3 u4 : Nat) (t0 : Int32) (t1 : Int32), I u1 u2 u3 u4 t0 t1 → wba_Wo_load_10 mc ms Post (fun z1 z2 z3 z4 t0q t1q => I z1 z2 z3 z4 t0q t1q ∧ μ z1 z2 z3 z4 t0q t1q < μ u1 u2 u3 u4 t0 t1) a0 a1 k1 u1 u2 u3 u4 t0 t1
def wa_Wo_load (mc ms : Nat) (y : Ly) (Post : Ly → St → Int32 → Nat → Nat → Prop) (σ : St) (a0 : Nat) (a1 : Nat) (k1 : Nat) (v2 : Int32) (v3 : Int32) : Prop := xP (uX σ a0 6 (a1, k1)) (fun s_1 : St => xP (uV s_1 a0 7 v2) (fun s_2 : St => wla_Wo_load_10 mc ms Post a0 a1 k1 y s_2 0 0 v2 v3))
set_option maxHeartbeats 4000000 in
set_option maxRecDepth 100000 in
theorem ca_Wo_load (l : Launch) (D : va_G) (g : Nat → ClassId) (ad : Nat → Nat) (mc ms : Nat) (y : Ly) (Post : Ly → St → Int32 → Nat → Nat → Prop) (σ : St) (a0 : Nat) (a1 : Nat) (k1 : Nat) (v2 : Int32) (v3 : Int32) (sz uz : Nat) (h_a0 : cl a0 = 8) (h_a1 : kd (cl a1) k1 = 2 ∧ tyx (cl a1) k1 = 1) (h : wa_Wo_load mc ms y Post σ a0 a1 k1 v2 v3) : Met l y_Wo_load (mw y_Wo_load b_Wo_load 5 (some (.boolean))) (ra_Wo_load mc ms) (PCu g D [] [.ref (ad a0), .ref (yP y a1 k1), .int v2, .int v3] sz uz (ws g ad y σ)) (va_Qi (fun (r : Int32) (u : Ly × St × Nat × Nat) => Post u.1 u.2.1 r u.2.2.1 u.2.2.2) (QU D (va_A (ws g ad y σ) sz) (fun u => ws g ad u.1 u.2.1) sz uz (fun u => u.2.2.1) (fun u => u.2.2.2)) (va_A (ws g ad y σ) sz)) mc ms (va_A (ws g ad y σ) sz) := by
  refine ofZu (by decide +kernel) (Nat.le_of_ble_eq_true rfl) ?_
  intro p e s m args below meth c A Q ls H locs G hsz hP hD hS hl hret
  subst hsz
  have hl : lv_has ls 5 [(0, .ref (ad a0)), (1, .ref (yP y a1 k1)), (2, .int v2), (3, .int v3)] := hl
  have hd : 0 ≤ mc ∧ 0 ≤ ms := ⟨Nat.zero_le _, Nat.zero_le _⟩
  unfold wa_Wo_load at h
  refine lv_aload_n G.1 G.2.1 d_Wo_load_0 rfl (lv_at hl 0 rfl) ?_
  refine lv_aload_n G.1 G.2.1 d_Wo_load_1 rfl (lv_at hl 1 rfl) ?_
  refine upf G hP hD hS h 6 putX h_a0 iWo tWo tWo_ok nWo rfl (by decide) rfl q558 rfl rfl fX rfl rfl d_Wo_load_2 (fun s_1 H locs h hP hD hS => ?_)
  refine lv_aload_n G.1 G.2.1 d_Wo_load_5 rfl (lv_at hl 0 rfl) ?_
  refine lv_iload_n G.1 G.2.1 d_Wo_load_6 rfl (lv_at hl 2 rfl) ?_
  refine upf G hP hD hS h 7 putV h_a0 iWo tWo tWo_ok nWo rfl (by decide) rfl q559 rfl rfl fV rfl rfl d_Wo_load_7 (fun s_2 H locs h hP hD hS => ?_)
  unfold wla_Wo_load_10 at h
  obtain ⟨I_10, μ_10, hI_10, hB_10⟩ := h
  have L_10 : ∀ (n_10 : Nat) (y_h10 : Ly) (s_h10 : St) (d_h10 e_h10 : Nat) (x2h10 : Int32) (x3h10 : Int32), μ_10 y_h10 s_h10 d_h10 e_h10 x2h10 x3h10 < n_10 → I_10 y_h10 s_h10 d_h10 e_h10 x2h10 x3h10 → ∀ (H : Heap) (locs : List Loc), va_P D CL (ws g ad y_h10 s_h10) H → va_D A (ws g ad y_h10 s_h10) → va_S A s.heap H locs → ∀ ls, lv_has ls 5 [(0, .ref (ad a0)), (2, .int x2h10), (3, .int x3h10)] → W p l e (ra_Wo_load mc ms) s m args below meth c H locs d_h10 e_h10 Q (F0 m 10 ls []) := by
    intro n_10
    induction n_10 with
    | zero => intro y_h10 s_h10 d_h10 e_h10 x2h10 x3h10 hμ; exact absurd hμ (Nat.not_lt_zero _)
    | succ n_10 ih_10 =>
      intro y_h10 s_h10 d_h10 e_h10 x2h10 x3h10 hμ_10 hJ H locs hP hD hS ls hl
      obtain ⟨K_10, hK_10, h⟩ : ∃ K : Ly → St → Nat → Nat → Int32 → Int32 → Prop, (∀ z1 z2 z3 z4 (t0 : Int32) (t1 : Int32), K z1 z2 z3 z4 t0 t1 → I_10 z1 z2 z3 z4 t0 t1 ∧ μ_10 z1 z2 z3 z4 t0 t1 < μ_10 y_h10 s_h10 d_h10 e_h10 x2h10 x3h10) ∧ wba_Wo_load_10 mc ms Post K a0 a1 k1 y_h10 s_h10 d_h10 e_h10 x2h10 x3h10 := ⟨_, fun _ _ _ _ _ _ h => h, hB_10 y_h10 s_h10 d_h10 e_h10 x2h10 x3h10 hJ⟩
      unfold wba_Wo_load_10 at h
      obtain ⟨hd, h⟩ := h
      refine lv_aload_n G.1 G.2.1 d_Wo_load_10 rfl (lv_at hl 0 rfl) ?_
      refine ugf (v := .int (sV s_h10 a0 7)) G hP h_a0 iWo rfl 7 (by decide) rfl q559 rfl rfl d_Wo_load_11 ?_
      refine lv_iload_n G.1 G.2.1 d_Wo_load_14 rfl (lv_at hl 2 rfl) ?_
      have J_45 : ∀ (y_j45 : Ly) (s_j45 : St) (d_j45 e_j45 : Nat) (x2j45 : Int32) (H : Heap) (locs : List Loc), wja_Wo_load_45 mc ms Post a0 a1 k1 y_j45 s_j45 d_j45 e_j45 x2j45 → va_P D CL (ws g ad y_j45 s_j45) H → va_D A (ws g ad y_j45 s_j45) → va_S A s.heap H locs → ∀ ls, lv_has ls 5 [(0, .ref (ad a0)), (2, .int x2j45)] → W p l e (ra_Wo_load mc ms) s m args below meth c H locs d_j45 e_j45 Q (F0 m 45 ls []) := by
        intro y_j45 s_j45 d_j45 e_j45 x2j45 H locs h hP hD hS ls hl
        unfold wja_Wo_load_45 at h
        obtain ⟨hd, h⟩ := h
        refine lv_aload_n G.1 G.2.1 d_Wo_load_45 rfl (lv_at hl 0 rfl) ?_
        refine lv_aload_n G.1 G.2.1 d_Wo_load_46 rfl (lv_at hl 0 rfl) ?_
        refine ugf (v := .int (sV s_j45 a0 7)) G hP h_a0 iWo rfl 7 (by decide) rfl q559 rfl rfl d_Wo_load_47 ?_
        refine lv_iconst (v := 1) G.1 G.2.1 d_Wo_load_50 (by decide) ?_
        refine lv_iadd G.1 G.2.1 d_Wo_load_51 ?_
        refine upf G hP hD hS h 3 putV h_a0 iWo tWo tWo_ok nWo rfl (by decide) rfl q553 rfl rfl fV rfl rfl d_Wo_load_52 (fun s_3 H locs h hP hD hS => ?_)
        refine lv_aload_n G.1 G.2.1 d_Wo_load_55 rfl (lv_at hl 0 rfl) ?_
        refine lv_iconst (v := 0) G.1 G.2.1 d_Wo_load_56 (by decide) ?_
        refine upf G hP hD hS h 5 putV h_a0 iWo tWo tWo_ok nWo rfl (by decide) rfl q557 rfl rfl fV rfl rfl d_Wo_load_57 (fun s_4 H locs h hP hD hS => ?_)
        refine lv_iload_n G.1 G.2.1 d_Wo_load_60 rfl (lv_at hl 1 rfl) ?_
        refine lv_istore (lv' := [(4, .int x2j45), (0, .ref (ad a0)), (2, .int x2j45)]) G.1 G.2.1 d_Wo_load_61 hl (by decide) rfl (fun ls hl => ?_)
        unfold wla_Wo_load_63 at h
        obtain ⟨I_63, μ_63, hI_63, hB_63⟩ := h
        have L_63 : ∀ (n_63 : Nat) (y_h63 : Ly) (s_h63 : St) (d_h63 e_h63 : Nat) (x4h63 : Int32), μ_63 y_h63 s_h63 d_h63 e_h63 x4h63 < n_63 → I_63 y_h63 s_h63 d_h63 e_h63 x4h63 → ∀ (H : Heap) (locs : List Loc), va_P D CL (ws g ad y_h63 s_h63) H → va_D A (ws g ad y_h63 s_h63) → va_S A s.heap H locs → ∀ ls, lv_has ls 5 [(0, .ref (ad a0)), (4, .int x4h63)] → W p l e (ra_Wo_load mc ms) s m args below meth c H locs d_h63 e_h63 Q (F0 m 63 ls []) := by
          intro n_63
          induction n_63 with
          | zero => intro y_h63 s_h63 d_h63 e_h63 x4h63 hμ; exact absurd hμ (Nat.not_lt_zero _)
          | succ n_63 ih_63 =>
            intro y_h63 s_h63 d_h63 e_h63 x4h63 hμ_63 hJ H locs hP hD hS ls hl
            obtain ⟨K_63, hK_63, h⟩ : ∃ K : Ly → St → Nat → Nat → Int32 → Prop, (∀ z1 z2 z3 z4 (t0 : Int32), K z1 z2 z3 z4 t0 → I_63 z1 z2 z3 z4 t0 ∧ μ_63 z1 z2 z3 z4 t0 < μ_63 y_h63 s_h63 d_h63 e_h63 x4h63) ∧ wba_Wo_load_63 mc ms Post K a0 a1 k1 y_h63 s_h63 d_h63 e_h63 x4h63 := ⟨_, fun _ _ _ _ _ h => h, hB_63 y_h63 s_h63 d_h63 e_h63 x4h63 hJ⟩
            unfold wba_Wo_load_63 at h
            obtain ⟨hd, h⟩ := h
            refine lv_iload G.1 G.2.1 d_Wo_load_63 (lv_at hl 1 rfl) ?_
            refine lv_aload_n G.1 G.2.1 d_Wo_load_65 rfl (lv_at hl 0 rfl) ?_
            refine ugf (v := .int (sV s_h63 a0 7)) G hP h_a0 iWo rfl 7 (by decide) rfl q559 rfl rfl d_Wo_load_66 ?_
            have J_114 : ∀ (y_j114 : Ly) (s_j114 : St) (d_j114 e_j114 : Nat) (H : Heap) (locs : List Loc), wja_Wo_load_114 mc ms Post a0 a1 k1 y_j114 s_j114 d_j114 e_j114 → va_P D CL (ws g ad y_j114 s_j114) H → va_D A (ws g ad y_j114 s_j114) → va_S A s.heap H locs → ∀ ls, lv_has ls 5 [(0, .ref (ad a0))] → W p l e (ra_Wo_load mc ms) s m args below meth c H locs d_j114 e_j114 Q (F0 m 114 ls []) := by
              intro y_j114 s_j114 d_j114 e_j114 H locs h hP hD hS ls hl
              unfold wja_Wo_load_114 at h
              obtain ⟨hd, h⟩ := h
              refine lv_aload_n G.1 G.2.1 d_Wo_load_114 rfl (lv_at hl 0 rfl) ?_
              refine lv_iconst (v := 0) G.1 G.2.1 d_Wo_load_115 (by decide) ?_
              refine lv_iconst (v := 0) G.1 G.2.1 d_Wo_load_116 (by decide) ?_
              refine lv_aload_n G.1 G.2.1 d_Wo_load_117 rfl (lv_at hl 0 rfl) ?_
              refine ugf (v := .int (sV s_j114 a0 7)) G hP h_a0 iWo rfl 7 (by decide) rfl q559 rfl rfl d_Wo_load_118 ?_
              refine ucVv (As := [.int 0, .int 0, .int (sV s_j114 a0 7)]) (rest := []) G hP hD hS (cu_Wo_add l D g ad y_j114 _ s_j114 a0 0 0 (sV s_j114 a0 7) H.size h_a0 h) w9_Wo_add q1283 ⟨Nat.le_of_ble_eq_true rfl, Nat.le_of_ble_eq_true rfl⟩ rfl rfl h_a0 (q := (RWo, TWo, 8)) rfl rfl hl.1 rfl (Nat.le_of_ble_eq_true rfl) rfl hd d_Wo_load_121 (fun s_6 H locs h hP hD hS => ?_)
              refine lv_aload_n G.1 G.2.1 d_Wo_load_124 rfl (lv_at hl 0 rfl) ?_
              refine ugf (v := .ref (yP y_j114 a0 0)) G hP h_a0 iWo rfl 0 (by decide) rfl q547 rfl rfl d_Wo_load_125 ?_
              refine lv_iconst (v := 0) G.1 G.2.1 d_Wo_load_128 (by decide) ?_
              refine uiald G hP (kdp h_a0 rfl) (typ h_a0 rfl) h d_Wo_load_129 (fun x_7 h => ?_)
              have J_138 : ∀ (y_j138 : Ly) (s_j138 : St) (d_j138 e_j138 : Nat) (z0j138 : Int32) (H : Heap) (locs : List Loc), wja_Wo_load_138 mc ms Post a0 a1 k1 y_j138 s_j138 d_j138 e_j138 z0j138 → va_P D CL (ws g ad y_j138 s_j138) H → va_D A (ws g ad y_j138 s_j138) → va_S A s.heap H locs → ∀ ls, lv_has ls 5 [] → W p l e (ra_Wo_load mc ms) s m args below meth c H locs d_j138 e_j138 Q (F0 m 138 ls [.int z0j138]) := by
                intro y_j138 s_j138 d_j138 e_j138 z0j138 H locs h hP hD hS ls hl
                unfold wja_Wo_load_138 at h
                obtain ⟨hd, h⟩ := h
                exact hret _ (y_j138, s_j138, d_j138, e_j138) _ _ _ _ _ ls (nb_n h.1) h.2 hP hD hS (Nat.le_refl _) (Nat.le_refl _) hd.1 hd.2 d_Wo_load_138
              refine lv_if_eq (tgt := 137) G.1 G.2.1 d_Wo_load_130 (by decide) (fun c130 => ?_) (fun c130 => ?_)
              · skip
                have h := h.1 c130
                refine W.eq (g2 := F0 m 137 ls []) rfl ?_
                refine lv_iconst (v := 0) G.1 G.2.1 d_Wo_load_137 (by decide) ?_
                exact J_138 y_j114 s_6 d_j114 e_j114 0 H locs h hP hD hS ls (lv_sub hl [] rfl)
              · skip
                have h := h.2 c130
                refine W.eq (g2 := F0 m 133 ls []) rfl ?_
                refine lv_iconst (v := 1) G.1 G.2.1 d_Wo_load_133 (by decide) ?_
                refine lv_goto (tgt := 138) G.1 G.2.1 d_Wo_load_134 (by decide) ?_
                exact J_138 y_j114 s_6 d_j114 e_j114 1 H locs h hP hD hS ls (lv_sub hl [] rfl)
            refine lv_icmp_ge (tgt := 114) G.1 G.2.1 d_Wo_load_69 (by decide) (fun c69 => ?_) (fun c69 => ?_)
            · skip
              have h := h.1 c69
              exact J_114 y_h63 s_h63 d_h63 e_h63 H locs h hP hD hS ls (lv_sub hl [0] rfl)
            · skip
              have h := h.2 c69
              refine lv_aload_n G.1 G.2.1 d_Wo_load_72 rfl (lv_at hl 0 rfl) ?_
              obtain ⟨n_8, h⟩ := h
              refine ugf (v := .ref (yP y_h63 ((sX s_h63 a0 6).1) ((sX s_h63 a0 6).2))) G hP h_a0 iWo rfl 6 (by decide) rfl q558 rfl rfl d_Wo_load_73 ?_
              refine lv_iload G.1 G.2.1 d_Wo_load_76 (lv_at hl 1 rfl) ?_
              refine ubald G hP n_8.1 n_8.2 h d_Wo_load_78 (fun x_9 h => ?_)
              refine lv_bipush (v := 35) G.1 G.2.1 d_Wo_load_79 (by decide) ?_
              refine lv_icmp_eq (tgt := 114) G.1 G.2.1 d_Wo_load_81 (by decide) (fun c81 => ?_) (fun c81 => ?_)
              · skip
                have h := h.1 c81
                exact J_114 y_h63 s_h63 d_h63 e_h63 H locs h hP hD hS ls (lv_sub hl [0] rfl)
              · skip
                have h := h.2 c81
                refine lv_aload_n G.1 G.2.1 d_Wo_load_84 rfl (lv_at hl 0 rfl) ?_
                refine W.eq (g2 := F0 m 85 ls [.ref (ad a0)]) rfl ?_
                obtain ⟨n_10, h⟩ := h
                refine ugf (v := .ref (yP y_h63 ((sX s_h63 a0 6).1) ((sX s_h63 a0 6).2))) G hP h_a0 iWo rfl 6 (by decide) rfl q558 rfl rfl d_Wo_load_85 ?_
                refine lv_iload G.1 G.2.1 d_Wo_load_88 (lv_at hl 1 rfl) ?_
                refine ubald G hP n_10.1 n_10.2 h d_Wo_load_90 (fun x_11 h => ?_)
                refine lv_bipush (v := 32) G.1 G.2.1 d_Wo_load_91 (by decide) ?_
                have J_109 : ∀ (y_j109 : Ly) (s_j109 : St) (d_j109 e_j109 : Nat) (z0j109 : Int32) (H : Heap) (locs : List Loc), wja_Wo_load_109 mc ms Post K_63 a0 a1 k1 y_j109 s_j109 d_j109 e_j109 z0j109 → va_P D CL (ws g ad y_j109 s_j109) H → va_D A (ws g ad y_j109 s_j109) → va_S A s.heap H locs → ∀ ls, lv_has ls 5 [(0, .ref (ad a0))] → W p l e (ra_Wo_load mc ms) s m args below meth c H locs d_j109 e_j109 Q (F0 m 109 ls [.int z0j109]) := by
                  intro y_j109 s_j109 d_j109 e_j109 z0j109 H locs h hP hD hS ls hl
                  unfold wja_Wo_load_109 at h
                  obtain ⟨hd, h⟩ := h
                  refine lv_istore (lv' := [(4, .int z0j109), (0, .ref (ad a0))]) G.1 G.2.1 d_Wo_load_109 hl (by decide) rfl (fun ls hl => ?_)
                  refine lv_goto (tgt := 63) G.1 G.2.1 d_Wo_load_111 (by decide) ?_
                  have h := hK_63 y_j109 s_j109 d_j109 e_j109 z0j109 h
                  exact ih_63 y_j109 s_j109 d_j109 e_j109 z0j109 (Nat.lt_of_lt_of_le h.2 (Nat.le_of_lt_succ hμ_63)) h.1 H locs hP hD hS ls (lv_sub hl [1, 0] rfl)
                refine lv_icmp_ne (tgt := 103) G.1 G.2.1 d_Wo_load_93 (by decide) (fun c93 => ?_) (fun c93 => ?_)
                · skip
                  have h := h.1 c93
                  refine lv_aload_n G.1 G.2.1 d_Wo_load_103 rfl (lv_at hl 0 rfl) ?_
                  refine lv_iload G.1 G.2.1 d_Wo_load_104 (lv_at hl 1 rfl) ?_
                  obtain ⟨mc_17, ms_18, hr_19, h⟩ := h
                  refine uaVi (As := [.int x4h63]) (rest := []) G hP hD hS (ca_Wo_word l D g ad mc_17 ms_18 y_h63 _ s_h63 a0 x4h63 H.size (us H) h_a0 h) w9_Wo_word q1268 ⟨Nat.le_of_ble_eq_true rfl, Nat.le_of_ble_eq_true rfl⟩ rfl rfl h_a0 (q := (RWo, TWo, 8)) rfl rfl hl.1 rfl (Nat.le_of_ble_eq_true rfl) rfl hr_19 d_Wo_load_106 (fun r_12 y_14 s_13 d_15 e_16 H locs h hP hD hS => ?_)
                  have hl := lv_sub (l' := [(0, .ref (ad a0))]) hl [0] rfl
                  obtain ⟨hd, h⟩ := h
                  exact J_109 y_14 s_13 (d_h63 + d_15) (e_h63 + e_16) r_12 H locs h hP hD hS ls (lv_sub hl [0] rfl)
                · skip
                  have h := h.2 c93
                  refine lv_iload G.1 G.2.1 d_Wo_load_96 (lv_at hl 1 rfl) ?_
                  refine lv_iconst (v := 1) G.1 G.2.1 d_Wo_load_98 (by decide) ?_
                  refine lv_iadd G.1 G.2.1 d_Wo_load_99 ?_
                  refine lv_goto (tgt := 109) G.1 G.2.1 d_Wo_load_100 (by decide) ?_
                  exact J_109 y_h63 s_h63 d_h63 e_h63 (x4h63 + 1) H locs h hP hD hS ls (lv_sub hl [0] rfl)
        exact L_63 _ y_j45 s_4 d_j45 e_j45 x2j45 (Nat.lt_succ_self _) hI_63 H locs hP hD hS ls (lv_sub hl [1, 0] rfl)
      refine lv_icmp_ge (tgt := 45) G.1 G.2.1 d_Wo_load_15 (by decide) (fun c15 => ?_) (fun c15 => ?_)
      · skip
        have h := h.1 c15
        exact J_45 y_h10 s_h10 d_h10 e_h10 x2h10 H locs h hP hD hS ls (lv_sub hl [0, 1] rfl)
      · skip
        have h := h.2 c15
        refine lv_aload_n G.1 G.2.1 d_Wo_load_18 rfl (lv_at hl 0 rfl) ?_
        obtain ⟨n_20, h⟩ := h
        refine ugf (v := .ref (yP y_h10 ((sX s_h10 a0 6).1) ((sX s_h10 a0 6).2))) G hP h_a0 iWo rfl 6 (by decide) rfl q558 rfl rfl d_Wo_load_19 ?_
        refine lv_aload_n G.1 G.2.1 d_Wo_load_22 rfl (lv_at hl 0 rfl) ?_
        refine ugf (v := .int (sV s_h10 a0 7)) G hP h_a0 iWo rfl 7 (by decide) rfl q559 rfl rfl d_Wo_load_23 ?_
        refine ubald G hP n_20.1 n_20.2 h d_Wo_load_26 (fun x_21 h => ?_)
        refine lv_bipush (v := 10) G.1 G.2.1 d_Wo_load_27 (by decide) ?_
        refine lv_icmp_eq (tgt := 45) G.1 G.2.1 d_Wo_load_29 (by decide) (fun c29 => ?_) (fun c29 => ?_)
        · skip
          have h := h.1 c29
          exact J_45 y_h10 s_h10 d_h10 e_h10 x2h10 H locs h hP hD hS ls (lv_sub hl [0, 1] rfl)
        · skip
          have h := h.2 c29
          refine W.eq (g2 := F0 m 32 ls []) rfl ?_
          refine lv_aload_n G.1 G.2.1 d_Wo_load_32 rfl (lv_at hl 0 rfl) ?_
          refine lv_dup G.1 G.2.1 d_Wo_load_33 rfl ?_
          refine ugf (v := .int (sV s_h10 a0 7)) G hP h_a0 iWo rfl 7 (by decide) rfl q559 rfl rfl d_Wo_load_34 ?_
          refine lv_iconst (v := 1) G.1 G.2.1 d_Wo_load_37 (by decide) ?_
          refine lv_iadd G.1 G.2.1 d_Wo_load_38 ?_
          refine upf G hP hD hS h 7 putV h_a0 iWo tWo tWo_ok nWo rfl (by decide) rfl q559 rfl rfl fV rfl rfl d_Wo_load_39 (fun s_22 H locs h hP hD hS => ?_)
          refine lv_goto (tgt := 10) G.1 G.2.1 d_Wo_load_42 (by decide) ?_
          have h := hK_10 y_h10 s_22 d_h10 e_h10 x2h10 x3h10 h
          exact ih_10 y_h10 s_22 d_h10 e_h10 x2h10 x3h10 (Nat.lt_of_lt_of_le h.2 (Nat.le_of_lt_succ hμ_10)) h.1 H locs hP hD hS ls (lv_sub hl [0, 1, 2] rfl)
  exact L_10 _ y s_2 0 0 v2 v3 (Nat.lt_succ_self _) hI_10 H locs hP hD hS ls (lv_sub hl [0, 2, 3] rfl)
theorem q1309 : Cond.methodLink "ClassWorks$Reader" 140 y_Re_takeFlags ∈ lw_ok := lw_okmem (List.mem_of_getElem? (i := 1309) (by decide +kernel)) rfl
theorem q1312 : Cond.code y_Re_takeFlags b_Re_takeFlags 9 (some .int) ∈ lw_ok := lw_okmem (List.mem_of_getElem? (i := 1312) (by decide +kernel)) rfl
theorem q1311 : Cond.instanceMethod y_Re_takeFlags ∈ lw_ok := lw_okmem (List.mem_of_getElem? (i := 1311) (by decide +kernel)) rfl
theorem q16 : Cond.selects y_Re_takeFlags.cls y_Re_takeFlags y_Re_takeFlags ∈ lw_ok := lw_okmem (List.mem_of_getElem? (i := 16) (by decide +kernel)) rfl
theorem w9_Re_takeFlags : CWv y_Re_takeFlags b_Re_takeFlags 9 (some .int) 4 ∧ Cond.instanceMethod y_Re_takeFlags ∈ lw_ok ∧ Cond.selects y_Re_takeFlags.cls y_Re_takeFlags y_Re_takeFlags ∈ lw_ok := ⟨⟨q1312, q340, by decide +kernel, by decide +kernel, by decide +kernel⟩, q1311, q16⟩
theorem q1329 : Cond.methodLink "ClassWorks$Reader" 155 y_Re_noteClass ∈ lw_ok := lw_okmem (List.mem_of_getElem? (i := 1329) (by decide +kernel)) rfl
theorem q1332 : Cond.code y_Re_noteClass b_Re_noteClass 11 (none) ∈ lw_ok := lw_okmem (List.mem_of_getElem? (i := 1332) (by decide +kernel)) rfl
theorem q1331 : Cond.instanceMethod y_Re_noteClass ∈ lw_ok := lw_okmem (List.mem_of_getElem? (i := 1331) (by decide +kernel)) rfl
theorem q21 : Cond.selects y_Re_noteClass.cls y_Re_noteClass y_Re_noteClass ∈ lw_ok := lw_okmem (List.mem_of_getElem? (i := 21) (by decide +kernel)) rfl
theorem w9_Re_noteClass : CWv y_Re_noteClass b_Re_noteClass 11 (none) 4 ∧ Cond.instanceMethod y_Re_noteClass ∈ lw_ok ∧ Cond.selects y_Re_noteClass.cls y_Re_noteClass y_Re_noteClass ∈ lw_ok := ⟨⟨q1332, q340, by decide +kernel, by decide +kernel, by decide +kernel⟩, q1331, q21⟩
theorem q1346 : Cond.methodLink "ClassWorks$Reader" 159 y_Wd_addClass ∈ lw_ok := lw_okmem (List.mem_of_getElem? (i := 1346) (by decide +kernel)) rfl
theorem q806 : Cond.code y_Wd_addClass b_Wd_addClass 7 (none) ∈ lw_ok := lw_okmem (List.mem_of_getElem? (i := 806) (by decide +kernel)) rfl
theorem q804 : Cond.instanceMethod y_Wd_addClass ∈ lw_ok := lw_okmem (List.mem_of_getElem? (i := 804) (by decide +kernel)) rfl
theorem q805 : Cond.selects y_Wd_addClass.cls y_Wd_addClass y_Wd_addClass ∈ lw_ok := lw_okmem (List.mem_of_getElem? (i := 805) (by decide +kernel)) rfl
theorem w9_Wd_addClass : CWv y_Wd_addClass b_Wd_addClass 7 (none) 4 ∧ Cond.instanceMethod y_Wd_addClass ∈ lw_ok ∧ Cond.selects y_Wd_addClass.cls y_Wd_addClass y_Wd_addClass ∈ lw_ok := ⟨⟨q806, q345, by decide +kernel, by decide +kernel, by decide +kernel⟩, q804, q805⟩
def y_Re_classLine : MethodName := ⟨"ClassWorks$Reader", "classLine", "()V"⟩
abbrev b_Re_classLine : ByteArray := prog_8_method_13_code
theorem q1347 : Cond.methodLink "ClassWorks$Reader" 162 y_Wd_set ∈ lw_ok := lw_okmem (List.mem_of_getElem? (i := 1347) (by decide +kernel)) rfl
theorem d_Re_classLine_0 : decode b_Re_classLine 0 = .ok (.aload_n 0, 1) := by decide +kernel
theorem d_Re_classLine_1 : decode b_Re_classLine 1 = .ok (.bipush 37, 2) := by decide +kernel
theorem d_Re_classLine_3 : decode b_Re_classLine 3 = .ok (.bipush 38, 2) := by decide +kernel
theorem d_Re_classLine_5 : decode b_Re_classLine 5 = .ok (.bipush 39, 2) := by decide +kernel
theorem d_Re_classLine_7 : decode b_Re_classLine 7 = .ok (.iconst (-1), 1) := by decide +kernel
theorem d_Re_classLine_8 : decode b_Re_classLine 8 = .ok (.invokevirtual 140, 3) := by decide +kernel
theorem d_Re_classLine_11 : decode b_Re_classLine 11 = .ok (.istore_n 1, 1) := by decide +kernel
theorem d_Re_classLine_12 : decode b_Re_classLine 12 = .ok (.aload_n 0, 1) := by decide +kernel
theorem d_Re_classLine_13 : decode b_Re_classLine 13 = .ok (.bipush 30, 2) := by decide +kernel
theorem d_Re_classLine_15 : decode b_Re_classLine 15 = .ok (.invokevirtual 144, 3) := by decide +kernel
theorem d_Re_classLine_18 : decode b_Re_classLine 18 = .ok (.aload_n 0, 1) := by decide +kernel
theorem d_Re_classLine_19 : decode b_Re_classLine 19 = .ok (.bipush 99, 2) := by decide +kernel
theorem d_Re_classLine_21 : decode b_Re_classLine 21 = .ok (.invokevirtual 147, 3) := by decide +kernel
theorem d_Re_classLine_24 : decode b_Re_classLine 24 = .ok (.istore_n 2, 1) := by decide +kernel
theorem d_Re_classLine_25 : decode b_Re_classLine 25 = .ok (.aload_n 0, 1) := by decide +kernel
theorem d_Re_classLine_26 : decode b_Re_classLine 26 = .ok (.bipush 58, 2) := by decide +kernel
theorem d_Re_classLine_28 : decode b_Re_classLine 28 = .ok (.invokevirtual 147, 3) := by decide +kernel
theorem d_Re_classLine_31 : decode b_Re_classLine 31 = .ok (.pop, 1) := by decide +kernel
theorem d_Re_classLine_32 : decode b_Re_classLine 32 = .ok (.aload_n 0, 1) := by decide +kernel
theorem d_Re_classLine_33 : decode b_Re_classLine 33 = .ok (.getfield 27, 3) := by decide +kernel
theorem d_Re_classLine_36 : decode b_Re_classLine 36 = .ok (.istore_n 3, 1) := by decide +kernel
theorem d_Re_classLine_37 : decode b_Re_classLine 37 = .ok (.aload_n 0, 1) := by decide +kernel
theorem d_Re_classLine_38 : decode b_Re_classLine 38 = .ok (.bipush 99, 2) := by decide +kernel
theorem d_Re_classLine_40 : decode b_Re_classLine 40 = .ok (.invokevirtual 147, 3) := by decide +kernel
theorem d_Re_classLine_43 : decode b_Re_classLine 43 = .ok (.istore 4, 2) := by decide +kernel
theorem d_Re_classLine_45 : decode b_Re_classLine 45 = .ok (.iconst 0, 1) := by decide +kernel
theorem d_Re_classLine_46 : decode b_Re_classLine 46 = .ok (.istore 5, 2) := by decide +kernel
theorem d_Re_classLine_48 : decode b_Re_classLine 48 = .ok (.iconst 0, 1) := by decide +kernel
theorem d_Re_classLine_49 : decode b_Re_classLine 49 = .ok (.istore 6, 2) := by decide +kernel
theorem d_Re_classLine_51 : decode b_Re_classLine 51 = .ok (.iload 6, 2) := by decide +kernel
theorem d_Re_classLine_53 : decode b_Re_classLine 53 = .ok (.sipush 6000, 3) := by decide +kernel
theorem d_Re_classLine_56 : decode b_Re_classLine 56 = .ok (.if_icmp .ge 45, 3) := by decide +kernel
theorem d_Re_classLine_59 : decode b_Re_classLine 59 = .ok (.aload_n 0, 1) := by decide +kernel
theorem d_Re_classLine_60 : decode b_Re_classLine 60 = .ok (.getfield 18, 3) := by decide +kernel
theorem d_Re_classLine_63 : decode b_Re_classLine 63 = .ok (.ifCond .ne 38, 3) := by decide +kernel
theorem d_Re_classLine_66 : decode b_Re_classLine 66 = .ok (.aload_n 0, 1) := by decide +kernel
theorem d_Re_classLine_67 : decode b_Re_classLine 67 = .ok (.bipush 44, 2) := by decide +kernel
theorem d_Re_classLine_69 : decode b_Re_classLine 69 = .ok (.invokevirtual 151, 3) := by decide +kernel
theorem d_Re_classLine_72 : decode b_Re_classLine 72 = .ok (.ifCond .eq 29, 3) := by decide +kernel
theorem d_Re_classLine_75 : decode b_Re_classLine 75 = .ok (.aload_n 0, 1) := by decide +kernel
theorem d_Re_classLine_76 : decode b_Re_classLine 76 = .ok (.dup, 1) := by decide +kernel
theorem d_Re_classLine_77 : decode b_Re_classLine 77 = .ok (.getfield 27, 3) := by decide +kernel
theorem d_Re_classLine_80 : decode b_Re_classLine 80 = .ok (.iconst 1, 1) := by decide +kernel
theorem d_Re_classLine_81 : decode b_Re_classLine 81 = .ok (.iadd, 1) := by decide +kernel
theorem d_Re_classLine_82 : decode b_Re_classLine 82 = .ok (.putfield 27, 3) := by decide +kernel
theorem d_Re_classLine_85 : decode b_Re_classLine 85 = .ok (.aload_n 0, 1) := by decide +kernel
theorem d_Re_classLine_86 : decode b_Re_classLine 86 = .ok (.bipush 99, 2) := by decide +kernel
theorem d_Re_classLine_88 : decode b_Re_classLine 88 = .ok (.invokevirtual 147, 3) := by decide +kernel
theorem d_Re_classLine_91 : decode b_Re_classLine 91 = .ok (.pop, 1) := by decide +kernel
theorem d_Re_classLine_92 : decode b_Re_classLine 92 = .ok (.iinc 5 1, 3) := by decide +kernel
theorem d_Re_classLine_95 : decode b_Re_classLine 95 = .ok (.iinc 6 1, 3) := by decide +kernel
theorem d_Re_classLine_98 : decode b_Re_classLine 98 = .ok (.goto (-47), 3) := by decide +kernel
theorem d_Re_classLine_101 : decode b_Re_classLine 101 = .ok (.aload_n 0, 1) := by decide +kernel
theorem d_Re_classLine_102 : decode b_Re_classLine 102 = .ok (.bipush 36, 2) := by decide +kernel
theorem d_Re_classLine_104 : decode b_Re_classLine 104 = .ok (.invokevirtual 147, 3) := by decide +kernel
theorem d_Re_classLine_107 : decode b_Re_classLine 107 = .ok (.pop, 1) := by decide +kernel
theorem d_Re_classLine_108 : decode b_Re_classLine 108 = .ok (.aload_n 0, 1) := by decide +kernel
theorem d_Re_classLine_109 : decode b_Re_classLine 109 = .ok (.getfield 18, 3) := by decide +kernel
theorem d_Re_classLine_112 : decode b_Re_classLine 112 = .ok (.ifCond .eq 4, 3) := by decide +kernel
theorem d_Re_classLine_115 : decode b_Re_classLine 115 = .ok (.return_, 1) := by decide +kernel
theorem d_Re_classLine_116 : decode b_Re_classLine 116 = .ok (.aload_n 0, 1) := by decide +kernel
theorem d_Re_classLine_117 : decode b_Re_classLine 117 = .ok (.iload_n 1, 1) := by decide +kernel
theorem d_Re_classLine_118 : decode b_Re_classLine 118 = .ok (.iload_n 2, 1) := by decide +kernel
theorem d_Re_classLine_119 : decode b_Re_classLine 119 = .ok (.iload_n 3, 1) := by decide +kernel
theorem d_Re_classLine_120 : decode b_Re_classLine 120 = .ok (.iload 5, 2) := by decide +kernel
theorem d_Re_classLine_122 : decode b_Re_classLine 122 = .ok (.invokevirtual 155, 3) := by decide +kernel
theorem d_Re_classLine_125 : decode b_Re_classLine 125 = .ok (.aload_n 0, 1) := by decide +kernel
theorem d_Re_classLine_126 : decode b_Re_classLine 126 = .ok (.getfield 24, 3) := by decide +kernel
theorem d_Re_classLine_129 : decode b_Re_classLine 129 = .ok (.ifCond .eq 4, 3) := by decide +kernel
theorem d_Re_classLine_132 : decode b_Re_classLine 132 = .ok (.return_, 1) := by decide +kernel
theorem d_Re_classLine_133 : decode b_Re_classLine 133 = .ok (.aload_n 0, 1) := by decide +kernel
theorem d_Re_classLine_134 : decode b_Re_classLine 134 = .ok (.aload_n 0, 1) := by decide +kernel
theorem d_Re_classLine_135 : decode b_Re_classLine 135 = .ok (.getfield 72, 3) := by decide +kernel
theorem d_Re_classLine_138 : decode b_Re_classLine 138 = .ok (.getfield 81, 3) := by decide +kernel
theorem d_Re_classLine_141 : decode b_Re_classLine 141 = .ok (.putfield 30, 3) := by decide +kernel
theorem d_Re_classLine_144 : decode b_Re_classLine 144 = .ok (.aload_n 0, 1) := by decide +kernel
theorem d_Re_classLine_145 : decode b_Re_classLine 145 = .ok (.getfield 72, 3) := by decide +kernel
theorem d_Re_classLine_148 : decode b_Re_classLine 148 = .ok (.dup, 1) := by decide +kernel
theorem d_Re_classLine_149 : decode b_Re_classLine 149 = .ok (.getfield 81, 3) := by decide +kernel
theorem d_Re_classLine_152 : decode b_Re_classLine 152 = .ok (.iconst 1, 1) := by decide +kernel
theorem d_Re_classLine_153 : decode b_Re_classLine 153 = .ok (.iadd, 1) := by decide +kernel
theorem d_Re_classLine_154 : decode b_Re_classLine 154 = .ok (.putfield 81, 3) := by decide +kernel
theorem d_Re_classLine_157 : decode b_Re_classLine 157 = .ok (.aload_n 0, 1) := by decide +kernel
theorem d_Re_classLine_158 : decode b_Re_classLine 158 = .ok (.getfield 72, 3) := by decide +kernel
theorem d_Re_classLine_161 : decode b_Re_classLine 161 = .ok (.iload_n 2, 1) := by decide +kernel
theorem d_Re_classLine_162 : decode b_Re_classLine 162 = .ok (.iload_n 1, 1) := by decide +kernel
theorem d_Re_classLine_163 : decode b_Re_classLine 163 = .ok (.iload 4, 2) := by decide +kernel
theorem d_Re_classLine_165 : decode b_Re_classLine 165 = .ok (.aload_n 0, 1) := by decide +kernel
theorem d_Re_classLine_166 : decode b_Re_classLine 166 = .ok (.getfield 30, 3) := by decide +kernel
theorem d_Re_classLine_169 : decode b_Re_classLine 169 = .ok (.invokevirtual 159, 3) := by decide +kernel
theorem d_Re_classLine_172 : decode b_Re_classLine 172 = .ok (.aload_n 0, 1) := by decide +kernel
theorem d_Re_classLine_173 : decode b_Re_classLine 173 = .ok (.getfield 72, 3) := by decide +kernel
theorem d_Re_classLine_176 : decode b_Re_classLine 176 = .ok (.aload_n 0, 1) := by decide +kernel
theorem d_Re_classLine_177 : decode b_Re_classLine 177 = .ok (.getfield 30, 3) := by decide +kernel
theorem d_Re_classLine_180 : decode b_Re_classLine 180 = .ok (.iconst 3, 1) := by decide +kernel
theorem d_Re_classLine_181 : decode b_Re_classLine 181 = .ok (.iload 5, 2) := by decide +kernel
theorem d_Re_classLine_183 : decode b_Re_classLine 183 = .ok (.invokevirtual 162, 3) := by decide +kernel
theorem d_Re_classLine_186 : decode b_Re_classLine 186 = .ok (.iconst 0, 1) := by decide +kernel
theorem d_Re_classLine_187 : decode b_Re_classLine 187 = .ok (.istore 6, 2) := by decide +kernel
theorem d_Re_classLine_189 : decode b_Re_classLine 189 = .ok (.iload 6, 2) := by decide +kernel
theorem d_Re_classLine_191 : decode b_Re_classLine 191 = .ok (.iload 5, 2) := by decide +kernel
theorem d_Re_classLine_193 : decode b_Re_classLine 193 = .ok (.if_icmp .ge 40, 3) := by decide +kernel
theorem d_Re_classLine_196 : decode b_Re_classLine 196 = .ok (.aload_n 0, 1) := by decide +kernel
theorem d_Re_classLine_197 : decode b_Re_classLine 197 = .ok (.getfield 72, 3) := by decide +kernel
theorem d_Re_classLine_200 : decode b_Re_classLine 200 = .ok (.aload_n 0, 1) := by decide +kernel
theorem d_Re_classLine_201 : decode b_Re_classLine 201 = .ok (.getfield 30, 3) := by decide +kernel
theorem d_Re_classLine_204 : decode b_Re_classLine 204 = .ok (.iconst 4, 1) := by decide +kernel
theorem d_Re_classLine_205 : decode b_Re_classLine 205 = .ok (.iload 6, 2) := by decide +kernel
theorem d_Re_classLine_207 : decode b_Re_classLine 207 = .ok (.iadd, 1) := by decide +kernel
theorem d_Re_classLine_208 : decode b_Re_classLine 208 = .ok (.aload_n 0, 1) := by decide +kernel
theorem d_Re_classLine_209 : decode b_Re_classLine 209 = .ok (.getfield 68, 3) := by decide +kernel
theorem d_Re_classLine_212 : decode b_Re_classLine 212 = .ok (.getfield 137, 3) := by decide +kernel
theorem d_Re_classLine_215 : decode b_Re_classLine 215 = .ok (.iload_n 3, 1) := by decide +kernel
theorem d_Re_classLine_216 : decode b_Re_classLine 216 = .ok (.iconst 2, 1) := by decide +kernel
theorem d_Re_classLine_217 : decode b_Re_classLine 217 = .ok (.iadd, 1) := by decide +kernel
theorem d_Re_classLine_218 : decode b_Re_classLine 218 = .ok (.iconst 2, 1) := by decide +kernel
theorem d_Re_classLine_219 : decode b_Re_classLine 219 = .ok (.iload 6, 2) := by decide +kernel
theorem d_Re_classLine_221 : decode b_Re_classLine 221 = .ok (.imul, 1) := by decide +kernel
theorem d_Re_classLine_222 : decode b_Re_classLine 222 = .ok (.iadd, 1) := by decide +kernel
theorem d_Re_classLine_223 : decode b_Re_classLine 223 = .ok (.iaload, 1) := by decide +kernel
theorem d_Re_classLine_224 : decode b_Re_classLine 224 = .ok (.invokevirtual 162, 3) := by decide +kernel
theorem d_Re_classLine_227 : decode b_Re_classLine 227 = .ok (.iinc 6 1, 3) := by decide +kernel
theorem d_Re_classLine_230 : decode b_Re_classLine 230 = .ok (.goto (-41), 3) := by decide +kernel
theorem d_Re_classLine_233 : decode b_Re_classLine 233 = .ok (.aload_n 0, 1) := by decide +kernel
theorem d_Re_classLine_234 : decode b_Re_classLine 234 = .ok (.iconst 1, 1) := by decide +kernel
theorem d_Re_classLine_235 : decode b_Re_classLine 235 = .ok (.putfield 21, 3) := by decide +kernel
theorem d_Re_classLine_238 : decode b_Re_classLine 238 = .ok (.return_, 1) := by decide +kernel
abbrev ra_Re_classLine (mc ms : Nat) : Room := { frames := 6, cells := mc, slots := ms, locals := 447 }
def wba_Re_classLine_189 (mc ms : Nat) (Post : Ly → St → Nat → Nat → Prop) (K_189 : Ly → St → Nat → Nat → Int32 → Int32 → Int32 → Prop) (a0 : Nat) (y_h189 : Ly) (s_h189 : St) (d_h189 e_h189 : Nat) (x3h189 : Int32) (x5h189 : Int32) (x6h189 : Int32) : Prop := (d_h189 ≤ mc ∧ e_h189 ≤ ms) ∧ ((x5h189 ≤ x6h189 → xP (uV s_h189 a0 6 1) (fun s_39 : St => Post y_h189 s_39 d_h189 e_h189)) ∧ (¬ (x5h189 ≤ x6h189) → ∃ b_40 : Nat, sO s_h189 a0 4 = some b_40 ∧ cl b_40 = 9 ∧ xA y_h189 s_h189 (lk a0 3) 1 ((x3h189 + 2) + (2 * x6h189)) (fun x_43 : Int32 => wu_Wd_set y_h189 (fun (s_45 : St) => K_189 y_h189 s_45 d_h189 e_h189 x3h189 x5h189 (x6h189 + 1)) s_h189 b_40 (sV s_h189 a0 9) (4 + x6h189) x_43)))
def wla_Re_classLine_189 (mc ms : Nat) (Post : Ly → St → Nat → Nat → Prop) (a0 : Nat) (y_h189 : Ly) (s_h189 : St) (d_h189 e_h189 : Nat) (x3h189 : Int32) (x5h189 : Int32) (x6h189 : Int32) : Prop := ∃ (I : Ly → St → Nat → Nat → Int32 → Int32 → Int32 → Prop) (μ : Ly → St → Nat → Nat → Int32 → Int32 → Int32 → Nat), I y_h189 s_h189 d_h189 e_h189 x3h189 x5h189 x6h189 ∧ ∀ (u1 : Ly) (u2 : St) (u3 u4 : Nat) (t0 : Int32) (t1 : Int32) (t2 : Int32), I u1 u2 u3 u4 t0 t1 t2 → wba_Re_classLine_189 mc ms Post (fun z1 z2 z3 z4 t0q t1q t2q => I z1 z2 z3 z4 t0q t1q t2q ∧ μ z1 z2 z3 z4 t0q t1q t2q < μ u1 u2 u3 u4 t0 t1 t2) a0 u1 u2 u3 u4 t0 t1 t2
def wja_Re_classLine_101 (mc ms : Nat) (Post : Ly → St → Nat → Nat → Prop) (a0 : Nat) (y_j101 : Ly) (s_j101 : St) (d_j101 e_j101 : Nat) (x1j101 : Int32) (x2j101 : Int32) (x3j101 : Int32) (x4j101 : Int32) (x5j101 : Int32) : Prop := (d_j101 ≤ mc ∧ e_j101 ≤ ms) ∧ wu_Re_take y_j101 (fun (s_12 : St) (r_11 : Int32) => (((sV s_12 a0 5) = 0 → wu_Re_noteClass y_j101 (fun (s_14 : St) => (((sV s_14 a0 7) = 0 → ∃ b_15 : Nat, sO s_14 a0 4 = some b_15 ∧ cl b_15 = 9 ∧ xP (uV s_14 a0 9 (sV s_14 b_15 2)) (fun s_18 : St => ∃ b_19 : Nat, sO s_18 a0 4 = some b_19 ∧ cl b_19 = 9 ∧ xP (uV s_18 b_19 2 ((sV s_18 b_19 2) + 1)) (fun s_22 : St => ∃ b_23 : Nat, sO s_22 a0 4 = some b_23 ∧ cl b_23 = 9 ∧ ∃ mc_31 ms_32 : Nat, (d_j101 + mc_31 ≤ mc ∧ e_j101 + ms_32 ≤ ms) ∧ wa_Wd_addClass mc_31 ms_32 y_j101 (fun (y_28 : Ly) (s_27 : St) (d_29 e_30 : Nat) => (d_j101 + d_29 ≤ mc ∧ e_j101 + e_30 ≤ ms) ∧ ∃ b_34 : Nat, sO s_27 a0 4 = some b_34 ∧ cl b_34 = 9 ∧ wu_Wd_set y_28 (fun (s_38 : St) => wla_Re_classLine_189 mc ms Post a0 y_28 s_38 (d_j101 + d_29) (e_j101 + e_30) x3j101 x5j101 0) s_27 b_34 (sV s_27 a0 9) 3 x5j101) s_22 b_23 x2j101 x1j101 x4j101 (sV s_22 a0 9)))) ∧ (¬ ((sV s_14 a0 7) = 0) → Post y_j101 s_14 d_j101 e_j101))) s_12 a0 x1j101 x2j101 x3j101 x5j101) ∧ (¬ ((sV s_12 a0 5) = 0) → Post y_j101 s_12 d_j101 e_j101))) s_j101 a0 36
def wba_Re_classLine_51 (mc ms : Nat) (Post : Ly → St → Nat → Nat → Prop) (K_51 : Ly → St → Nat → Nat → Int32 → Int32 → Int32 → Int32 → Int32 → Int32 → Prop) (a0 : Nat) (y_h51 : Ly) (s_h51 : St) (d_h51 e_h51 : Nat) (x1h51 : Int32) (x2h51 : Int32) (x3h51 : Int32) (x4h51 : Int32) (x5h51 : Int32) (x6h51 : Int32) : Prop := (d_h51 ≤ mc ∧ e_h51 ≤ ms) ∧ ((6000 ≤ x6h51 → wja_Re_classLine_101 mc ms Post a0 y_h51 s_h51 d_h51 e_h51 x1h51 x2h51 x3h51 x4h51 x5h51) ∧ (¬ (6000 ≤ x6h51) → ((¬ (sV s_h51 a0 5) = 0 → wja_Re_classLine_101 mc ms Post a0 y_h51 s_h51 d_h51 e_h51 x1h51 x2h51 x3h51 x4h51 x5h51) ∧ ((sV s_h51 a0 5) = 0 → wu_Re_isSign y_h51 (fun (s_47 : St) (r_46 : Int32) => ((r_46 = 0 → wja_Re_classLine_101 mc ms Post a0 y_h51 s_47 d_h51 e_h51 x1h51 x2h51 x3h51 x4h51 x5h51) ∧ (¬ (r_46 = 0) → xP (uV s_47 a0 8 ((sV s_47 a0 8) + 1)) (fun s_48 : St => wu_Re_take y_h51 (fun (s_50 : St) (r_49 : Int32) => K_51 y_h51 s_50 d_h51 e_h51 x1h51 x2h51 x3h51 x4h51 (x5h51 + 1) (x6h51 + 1)) s_48 a0 99)))) s_h51 a0 44))))
def wla_Re_classLine_51 (mc ms : Nat) (Post : Ly → St → Nat → Nat → Prop) (a0 : Nat) (y_h51 : Ly) (s_h51 : St) (d_h51 e_h51 : Nat) (x1h51 : Int32) (x2h51 : Int32) (x3h51 : Int32) (x4h51 : Int32) (x5h51 : Int32) (x6h51 : Int32) : Prop := ∃ (I : Ly → St → Nat → Nat → Int32 → Int32 → Int32 → Int32 → Int32 → Int32 → Prop) (μ : Ly → St → Nat → Nat → Int32 → Int32 → Int32 → Int32 → Int32 → Int32 → Nat), I y_h51 s_h51 d_h51 e_h51 x1h51 x2h51 x3h51 x4h51 x5h51 x6h51 ∧ ∀ (u1 : Ly) (u2 : St) (u3 u4 : Nat) (t0 : Int32) (t1 : Int32) (t2 : Int32) (t3 : Int32) (t4 : Int32) (t5 : Int32), I u1 u2 u3 u4 t0 t1 t2 t3 t4 t5 → wba_Re_classLine_51 mc ms Post (fun z1 z2 z3 z4 t0q t1q t2q t3q t4q t5q => I z1 z2 z3 z4 t0q t1q t2q t3q t4q t5q ∧ μ z1 z2 z3 z4 t0q t1q t2q t3q t4q t5q < μ u1 u2 u3 u4 t0 t1 t2 t3 t4 t5) a0 u1 u2 u3 u4 t0 t1 t2 t3 t4 t5
def wa_Re_classLine (mc ms : Nat) (y : Ly) (Post : Ly → St → Nat → Nat → Prop) (σ : St) (a0 : Nat) : Prop := wu_Re_takeFlags y (fun (s_2 : St) (r_1 : Int32) => wu_Re_takeKey y (fun (s_4 : St) => wu_Re_take y (fun (s_6 : St) (r_5 : Int32) => wu_Re_take y (fun (s_8 : St) (r_7 : Int32) => wu_Re_take y (fun (s_10 : St) (r_9 : Int32) => wla_Re_classLine_51 mc ms Post a0 y s_10 0 0 r_1 r_5 (sV s_8 a0 8) r_9 0 0) s_8 a0 99) s_6 a0 58) s_4 a0 99) s_2 a0 30) σ a0 37 38 39 (-1)
set_option maxHeartbeats 4000000 in
set_option maxRecDepth 100000 in
theorem ca_Re_classLine (l : Launch) (D : va_G) (g : Nat → ClassId) (ad : Nat → Nat) (mc ms : Nat) (y : Ly) (Post : Ly → St → Nat → Nat → Prop) (σ : St) (a0 : Nat) (sz uz : Nat) (h_a0 : cl a0 = 6) (h : wa_Re_classLine mc ms y Post σ a0) : Met l y_Re_classLine (mw y_Re_classLine b_Re_classLine 7 (none)) (ra_Re_classLine mc ms) (PCu g D [] [.ref (ad a0)] sz uz (ws g ad y σ)) (va_Qv (fun (u : Ly × St × Nat × Nat) => Post u.1 u.2.1 u.2.2.1 u.2.2.2) (QU D (va_A (ws g ad y σ) sz) (fun u => ws g ad u.1 u.2.1) sz uz (fun u => u.2.2.1) (fun u => u.2.2.2)) (va_A (ws g ad y σ) sz)) mc ms (va_A (ws g ad y σ) sz) := by
  refine ofVu (by decide +kernel) (Nat.le_of_ble_eq_true rfl) ?_
  intro p e s m args below meth c A Q ls H locs G hsz hP hD hS hl hret
  subst hsz
  have hl : lv_has ls 7 [(0, .ref (ad a0))] := hl
  have hd : 0 ≤ mc ∧ 0 ≤ ms := ⟨Nat.zero_le _, Nat.zero_le _⟩
  unfold wa_Re_classLine at h
  refine lv_aload_n G.1 G.2.1 d_Re_classLine_0 rfl (lv_at hl 0 rfl) ?_
  refine lv_bipush (v := 37) G.1 G.2.1 d_Re_classLine_1 (by decide) ?_
  refine lv_bipush (v := 38) G.1 G.2.1 d_Re_classLine_3 (by decide) ?_
  refine lv_bipush (v := 39) G.1 G.2.1 d_Re_classLine_5 (by decide) ?_
  refine lv_iconst (v := (-1)) G.1 G.2.1 d_Re_classLine_7 (by decide) ?_
  refine ucVi (As := [.int 37, .int 38, .int 39, .int (-1)]) (rest := []) G hP hD hS (cu_Re_takeFlags l D g ad y _ σ a0 37 38 39 (-1) H.size h_a0 h) w9_Re_takeFlags q1309 ⟨Nat.le_of_ble_eq_true rfl, Nat.le_of_ble_eq_true rfl⟩ rfl rfl h_a0 (q := (RRe, TRe, 18)) rfl rfl hl.1 rfl (Nat.le_of_ble_eq_true rfl) rfl hd d_Re_classLine_8 (fun r_1 s_2 H locs h hP hD hS => ?_)
  refine lv_istore_n (lv' := [(1, .int r_1), (0, .ref (ad a0))]) G.1 G.2.1 d_Re_classLine_11 rfl hl (by decide) rfl (fun ls hl => ?_)
  refine lv_aload_n G.1 G.2.1 d_Re_classLine_12 rfl (lv_at hl 1 rfl) ?_
  refine lv_bipush (v := 30) G.1 G.2.1 d_Re_classLine_13 (by decide) ?_
  refine ucVv (As := [.int 30]) (rest := []) G hP hD hS (cu_Re_takeKey l D g ad y _ s_2 a0 30 H.size h_a0 h) w9_Re_takeKey q1313 ⟨Nat.le_of_ble_eq_true rfl, Nat.le_of_ble_eq_true rfl⟩ rfl rfl h_a0 (q := (RRe, TRe, 18)) rfl rfl hl.1 rfl (Nat.le_of_ble_eq_true rfl) rfl hd d_Re_classLine_15 (fun s_4 H locs h hP hD hS => ?_)
  refine lv_aload_n G.1 G.2.1 d_Re_classLine_18 rfl (lv_at hl 1 rfl) ?_
  refine W.eq (g2 := F0 m 19 ls [.ref (ad a0)]) rfl ?_
  refine lv_bipush (v := 99) G.1 G.2.1 d_Re_classLine_19 (by decide) ?_
  refine ucVi (As := [.int 99]) (rest := []) G hP hD hS (cu_Re_take l D g ad y _ s_4 a0 99 H.size h_a0 h) w9_Re_take q1321 ⟨Nat.le_of_ble_eq_true rfl, Nat.le_of_ble_eq_true rfl⟩ rfl rfl h_a0 (q := (RRe, TRe, 18)) rfl rfl hl.1 rfl (Nat.le_of_ble_eq_true rfl) rfl hd d_Re_classLine_21 (fun r_5 s_6 H locs h hP hD hS => ?_)
  refine lv_istore_n (lv' := [(2, .int r_5), (1, .int r_1), (0, .ref (ad a0))]) G.1 G.2.1 d_Re_classLine_24 rfl hl (by decide) rfl (fun ls hl => ?_)
  refine lv_aload_n G.1 G.2.1 d_Re_classLine_25 rfl (lv_at hl 2 rfl) ?_
  refine lv_bipush (v := 58) G.1 G.2.1 d_Re_classLine_26 (by decide) ?_
  refine ucVi (As := [.int 58]) (rest := []) G hP hD hS (cu_Re_take l D g ad y _ s_6 a0 58 H.size h_a0 h) w9_Re_take q1321 ⟨Nat.le_of_ble_eq_true rfl, Nat.le_of_ble_eq_true rfl⟩ rfl rfl h_a0 (q := (RRe, TRe, 18)) rfl rfl hl.1 rfl (Nat.le_of_ble_eq_true rfl) rfl hd d_Re_classLine_28 (fun r_7 s_8 H locs h hP hD hS => ?_)
  refine lv_pop G.1 G.2.1 d_Re_classLine_31 rfl ?_
  refine lv_aload_n G.1 G.2.1 d_Re_classLine_32 rfl (lv_at hl 2 rfl) ?_
  refine ugf (v := .int (sV s_8 a0 8)) G hP h_a0 iRe rfl 8 (by decide) rfl q595 rfl rfl d_Re_classLine_33 ?_
  refine lv_istore_n (lv' := [(3, .int (sV s_8 a0 8)), (2, .int r_5), (1, .int r_1), (0, .ref (ad a0))]) G.1 G.2.1 d_Re_classLine_36 rfl hl (by decide) rfl (fun ls hl => ?_)
  refine lv_aload_n G.1 G.2.1 d_Re_classLine_37 rfl (lv_at hl 3 rfl) ?_
  refine lv_bipush (v := 99) G.1 G.2.1 d_Re_classLine_38 (by decide) ?_
  refine W.eq (g2 := F0 m 40 ls [.int 99, .ref (ad a0)]) rfl ?_
  refine ucVi (As := [.int 99]) (rest := []) G hP hD hS (cu_Re_take l D g ad y _ s_8 a0 99 H.size h_a0 h) w9_Re_take q1321 ⟨Nat.le_of_ble_eq_true rfl, Nat.le_of_ble_eq_true rfl⟩ rfl rfl h_a0 (q := (RRe, TRe, 18)) rfl rfl hl.1 rfl (Nat.le_of_ble_eq_true rfl) rfl hd d_Re_classLine_40 (fun r_9 s_10 H locs h hP hD hS => ?_)
  refine lv_istore (lv' := [(4, .int r_9), (3, .int (sV s_8 a0 8)), (2, .int r_5), (1, .int r_1), (0, .ref (ad a0))]) G.1 G.2.1 d_Re_classLine_43 hl (by decide) rfl (fun ls hl => ?_)
  refine lv_iconst (v := 0) G.1 G.2.1 d_Re_classLine_45 (by decide) ?_
  refine lv_istore (lv' := [(5, .int 0), (4, .int r_9), (3, .int (sV s_8 a0 8)), (2, .int r_5), (1, .int r_1), (0, .ref (ad a0))]) G.1 G.2.1 d_Re_classLine_46 hl (by decide) rfl (fun ls hl => ?_)
  refine lv_iconst (v := 0) G.1 G.2.1 d_Re_classLine_48 (by decide) ?_
  refine lv_istore (lv' := [(6, .int 0), (5, .int 0), (4, .int r_9), (3, .int (sV s_8 a0 8)), (2, .int r_5), (1, .int r_1), (0, .ref (ad a0))]) G.1 G.2.1 d_Re_classLine_49 hl (by decide) rfl (fun ls hl => ?_)
  unfold wla_Re_classLine_51 at h
  obtain ⟨I_51, μ_51, hI_51, hB_51⟩ := h
  have L_51 : ∀ (n_51 : Nat) (y_h51 : Ly) (s_h51 : St) (d_h51 e_h51 : Nat) (x1h51 : Int32) (x2h51 : Int32) (x3h51 : Int32) (x4h51 : Int32) (x5h51 : Int32) (x6h51 : Int32), μ_51 y_h51 s_h51 d_h51 e_h51 x1h51 x2h51 x3h51 x4h51 x5h51 x6h51 < n_51 → I_51 y_h51 s_h51 d_h51 e_h51 x1h51 x2h51 x3h51 x4h51 x5h51 x6h51 → ∀ (H : Heap) (locs : List Loc), va_P D CL (ws g ad y_h51 s_h51) H → va_D A (ws g ad y_h51 s_h51) → va_S A s.heap H locs → ∀ ls, lv_has ls 7 [(0, .ref (ad a0)), (1, .int x1h51), (2, .int x2h51), (3, .int x3h51), (4, .int x4h51), (5, .int x5h51), (6, .int x6h51)] → W p l e (ra_Re_classLine mc ms) s m args below meth c H locs d_h51 e_h51 Q (F0 m 51 ls []) := by
    intro n_51
    induction n_51 with
    | zero => intro y_h51 s_h51 d_h51 e_h51 x1h51 x2h51 x3h51 x4h51 x5h51 x6h51 hμ; exact absurd hμ (Nat.not_lt_zero _)
    | succ n_51 ih_51 =>
      intro y_h51 s_h51 d_h51 e_h51 x1h51 x2h51 x3h51 x4h51 x5h51 x6h51 hμ_51 hJ H locs hP hD hS ls hl
      obtain ⟨K_51, hK_51, h⟩ : ∃ K : Ly → St → Nat → Nat → Int32 → Int32 → Int32 → Int32 → Int32 → Int32 → Prop, (∀ z1 z2 z3 z4 (t0 : Int32) (t1 : Int32) (t2 : Int32) (t3 : Int32) (t4 : Int32) (t5 : Int32), K z1 z2 z3 z4 t0 t1 t2 t3 t4 t5 → I_51 z1 z2 z3 z4 t0 t1 t2 t3 t4 t5 ∧ μ_51 z1 z2 z3 z4 t0 t1 t2 t3 t4 t5 < μ_51 y_h51 s_h51 d_h51 e_h51 x1h51 x2h51 x3h51 x4h51 x5h51 x6h51) ∧ wba_Re_classLine_51 mc ms Post K a0 y_h51 s_h51 d_h51 e_h51 x1h51 x2h51 x3h51 x4h51 x5h51 x6h51 := ⟨_, fun _ _ _ _ _ _ _ _ _ _ h => h, hB_51 y_h51 s_h51 d_h51 e_h51 x1h51 x2h51 x3h51 x4h51 x5h51 x6h51 hJ⟩
      unfold wba_Re_classLine_51 at h
      obtain ⟨hd, h⟩ := h
      refine lv_iload G.1 G.2.1 d_Re_classLine_51 (lv_at hl 6 rfl) ?_
      refine lv_sipush (v := 6000) G.1 G.2.1 d_Re_classLine_53 (by decide) ?_
      have J_101 : ∀ (y_j101 : Ly) (s_j101 : St) (d_j101 e_j101 : Nat) (x1j101 : Int32) (x2j101 : Int32) (x3j101 : Int32) (x4j101 : Int32) (x5j101 : Int32) (H : Heap) (locs : List Loc), wja_Re_classLine_101 mc ms Post a0 y_j101 s_j101 d_j101 e_j101 x1j101 x2j101 x3j101 x4j101 x5j101 → va_P D CL (ws g ad y_j101 s_j101) H → va_D A (ws g ad y_j101 s_j101) → va_S A s.heap H locs → ∀ ls, lv_has ls 7 [(0, .ref (ad a0)), (1, .int x1j101), (2, .int x2j101), (3, .int x3j101), (4, .int x4j101), (5, .int x5j101)] → W p l e (ra_Re_classLine mc ms) s m args below meth c H locs d_j101 e_j101 Q (F0 m 101 ls []) := by
        intro y_j101 s_j101 d_j101 e_j101 x1j101 x2j101 x3j101 x4j101 x5j101 H locs h hP hD hS ls hl
        unfold wja_Re_classLine_101 at h
        obtain ⟨hd, h⟩ := h
        refine lv_aload_n G.1 G.2.1 d_Re_classLine_101 rfl (lv_at hl 0 rfl) ?_
        refine lv_bipush (v := 36) G.1 G.2.1 d_Re_classLine_102 (by decide) ?_
        refine ucVi (As := [.int 36]) (rest := []) G hP hD hS (cu_Re_take l D g ad y_j101 _ s_j101 a0 36 H.size h_a0 h) w9_Re_take q1321 ⟨Nat.le_of_ble_eq_true rfl, Nat.le_of_ble_eq_true rfl⟩ rfl rfl h_a0 (q := (RRe, TRe, 18)) rfl rfl hl.1 rfl (Nat.le_of_ble_eq_true rfl) rfl hd d_Re_classLine_104 (fun r_11 s_12 H locs h hP hD hS => ?_)
        refine lv_pop G.1 G.2.1 d_Re_classLine_107 rfl ?_
        refine lv_aload_n G.1 G.2.1 d_Re_classLine_108 rfl (lv_at hl 0 rfl) ?_
        refine ugf (v := .int (sV s_12 a0 5)) G hP h_a0 iRe rfl 5 (by decide) rfl q592 rfl rfl d_Re_classLine_109 ?_
        refine lv_if_eq (tgt := 116) G.1 G.2.1 d_Re_classLine_112 (by decide) (fun c112 => ?_) (fun c112 => ?_)
        · skip
          have h := h.1 c112
          refine lv_aload_n G.1 G.2.1 d_Re_classLine_116 rfl (lv_at hl 0 rfl) ?_
          refine lv_iload_n G.1 G.2.1 d_Re_classLine_117 rfl (lv_at hl 1 rfl) ?_
          refine lv_iload_n G.1 G.2.1 d_Re_classLine_118 rfl (lv_at hl 2 rfl) ?_
          refine lv_iload_n G.1 G.2.1 d_Re_classLine_119 rfl (lv_at hl 3 rfl) ?_
          refine W.eq (g2 := F0 m 120 ls [.int x3j101, .int x2j101, .int x1j101, .ref (ad a0)]) rfl ?_
          refine lv_iload G.1 G.2.1 d_Re_classLine_120 (lv_at hl 5 rfl) ?_
          refine ucVv (As := [.int x1j101, .int x2j101, .int x3j101, .int x5j101]) (rest := []) G hP hD hS (cu_Re_noteClass l D g ad y_j101 _ s_12 a0 x1j101 x2j101 x3j101 x5j101 H.size h_a0 h) w9_Re_noteClass q1329 ⟨Nat.le_of_ble_eq_true rfl, Nat.le_of_ble_eq_true rfl⟩ rfl rfl h_a0 (q := (RRe, TRe, 18)) rfl rfl hl.1 rfl (Nat.le_of_ble_eq_true rfl) rfl hd d_Re_classLine_122 (fun s_14 H locs h hP hD hS => ?_)
          refine lv_aload_n G.1 G.2.1 d_Re_classLine_125 rfl (lv_at hl 0 rfl) ?_
          refine ugf (v := .int (sV s_14 a0 7)) G hP h_a0 iRe rfl 7 (by decide) rfl q594 rfl rfl d_Re_classLine_126 ?_
          refine lv_if_eq (tgt := 133) G.1 G.2.1 d_Re_classLine_129 (by decide) (fun c129 => ?_) (fun c129 => ?_)
          · skip
            have h := h.1 c129
            refine lv_aload_n G.1 G.2.1 d_Re_classLine_133 rfl (lv_at hl 0 rfl) ?_
            refine lv_aload_n G.1 G.2.1 d_Re_classLine_134 rfl (lv_at hl 0 rfl) ?_
            obtain ⟨b_15, e_16, c_17, h⟩ := h
            refine ugf (v := .ref (ad b_15)) G hP h_a0 iRe rfl 4 (by decide) rfl q591 rfl (by show va_rf ((sO s_14 a0 4).map ad) = _; rw [e_16]; rfl) d_Re_classLine_135 ?_
            refine ugf (v := .int (sV s_14 b_15 2)) G hP c_17 iWd rfl 2 (by decide) rfl q818 rfl rfl d_Re_classLine_138 ?_
            refine upf G hP hD hS h 9 putV h_a0 iRe tRe tRe_ok nRe rfl (by decide) rfl q596 rfl rfl fV rfl rfl d_Re_classLine_141 (fun s_18 H locs h hP hD hS => ?_)
            refine lv_aload_n G.1 G.2.1 d_Re_classLine_144 rfl (lv_at hl 0 rfl) ?_
            obtain ⟨b_19, e_20, c_21, h⟩ := h
            refine ugf (v := .ref (ad b_19)) G hP h_a0 iRe rfl 4 (by decide) rfl q591 rfl (by show va_rf ((sO s_18 a0 4).map ad) = _; rw [e_20]; rfl) d_Re_classLine_145 ?_
            refine W.eq (g2 := F0 m 148 ls [.ref (ad b_19)]) rfl ?_
            refine lv_dup G.1 G.2.1 d_Re_classLine_148 rfl ?_
            refine ugf (v := .int (sV s_18 b_19 2)) G hP c_21 iWd rfl 2 (by decide) rfl q818 rfl rfl d_Re_classLine_149 ?_
            refine lv_iconst (v := 1) G.1 G.2.1 d_Re_classLine_152 (by decide) ?_
            refine lv_iadd G.1 G.2.1 d_Re_classLine_153 ?_
            refine upf G hP hD hS h 2 putV c_21 iWd tWd tWd_ok nWd rfl (by decide) rfl q818 rfl rfl fV rfl rfl d_Re_classLine_154 (fun s_22 H locs h hP hD hS => ?_)
            refine lv_aload_n G.1 G.2.1 d_Re_classLine_157 rfl (lv_at hl 0 rfl) ?_
            obtain ⟨b_23, e_24, c_25, h⟩ := h
            refine ugf (v := .ref (ad b_23)) G hP h_a0 iRe rfl 4 (by decide) rfl q591 rfl (by show va_rf ((sO s_22 a0 4).map ad) = _; rw [e_24]; rfl) d_Re_classLine_158 ?_
            refine lv_iload_n G.1 G.2.1 d_Re_classLine_161 rfl (lv_at hl 2 rfl) ?_
            refine lv_iload_n G.1 G.2.1 d_Re_classLine_162 rfl (lv_at hl 1 rfl) ?_
            refine lv_iload G.1 G.2.1 d_Re_classLine_163 (lv_at hl 4 rfl) ?_
            refine lv_aload_n G.1 G.2.1 d_Re_classLine_165 rfl (lv_at hl 0 rfl) ?_
            refine ugf (v := .int (sV s_22 a0 9)) G hP h_a0 iRe rfl 9 (by decide) rfl q596 rfl rfl d_Re_classLine_166 ?_
            refine W.eq (g2 := F0 m 169 ls [.int (sV s_22 a0 9), .int x4j101, .int x1j101, .int x2j101, .ref (ad b_23)]) rfl ?_
            obtain ⟨mc_31, ms_32, hr_33, h⟩ := h
            refine uaVv (As := [.int x2j101, .int x1j101, .int x4j101, .int (sV s_22 a0 9)]) (rest := []) G hP hD hS (ca_Wd_addClass l D g ad mc_31 ms_32 y_j101 _ s_22 b_23 x2j101 x1j101 x4j101 (sV s_22 a0 9) H.size (us H) c_25 h) w9_Wd_addClass q1346 ⟨Nat.le_of_ble_eq_true rfl, Nat.le_of_ble_eq_true rfl⟩ rfl rfl c_25 (q := (RWd, TWd, 17)) rfl rfl hl.1 rfl (Nat.le_of_ble_eq_true rfl) rfl hr_33 d_Re_classLine_169 (fun y_28 s_27 d_29 e_30 H locs h hP hD hS => ?_)
            have hl := lv_sub (l' := [(0, .ref (ad a0)), (3, .int x3j101), (5, .int x5j101)]) hl [0, 3, 5] rfl
            obtain ⟨hd, h⟩ := h
            refine lv_aload_n G.1 G.2.1 d_Re_classLine_172 rfl (lv_at hl 0 rfl) ?_
            obtain ⟨b_34, e_35, c_36, h⟩ := h
            refine ugf (v := .ref (ad b_34)) G hP h_a0 iRe rfl 4 (by decide) rfl q591 rfl (by show va_rf ((sO s_27 a0 4).map ad) = _; rw [e_35]; rfl) d_Re_classLine_173 ?_
            refine lv_aload_n G.1 G.2.1 d_Re_classLine_176 rfl (lv_at hl 0 rfl) ?_
            refine ugf (v := .int (sV s_27 a0 9)) G hP h_a0 iRe rfl 9 (by decide) rfl q596 rfl rfl d_Re_classLine_177 ?_
            refine lv_iconst (v := 3) G.1 G.2.1 d_Re_classLine_180 (by decide) ?_
            refine lv_iload G.1 G.2.1 d_Re_classLine_181 (lv_at hl 2 rfl) ?_
            refine ucVv (As := [.int (sV s_27 a0 9), .int 3, .int x5j101]) (rest := []) G hP hD hS (cu_Wd_set l D g ad y_28 _ s_27 b_34 (sV s_27 a0 9) 3 x5j101 H.size c_36 h) w9_Wd_set q1347 ⟨Nat.le_of_ble_eq_true rfl, Nat.le_of_ble_eq_true rfl⟩ rfl rfl c_36 (q := (RWd, TWd, 17)) rfl rfl hl.1 rfl (Nat.le_of_ble_eq_true rfl) rfl hd d_Re_classLine_183 (fun s_38 H locs h hP hD hS => ?_)
            refine lv_iconst (v := 0) G.1 G.2.1 d_Re_classLine_186 (by decide) ?_
            refine lv_istore (lv' := [(6, .int 0), (0, .ref (ad a0)), (3, .int x3j101), (5, .int x5j101)]) G.1 G.2.1 d_Re_classLine_187 hl (by decide) rfl (fun ls hl => ?_)
            unfold wla_Re_classLine_189 at h
            obtain ⟨I_189, μ_189, hI_189, hB_189⟩ := h
            have L_189 : ∀ (n_189 : Nat) (y_h189 : Ly) (s_h189 : St) (d_h189 e_h189 : Nat) (x3h189 : Int32) (x5h189 : Int32) (x6h189 : Int32), μ_189 y_h189 s_h189 d_h189 e_h189 x3h189 x5h189 x6h189 < n_189 → I_189 y_h189 s_h189 d_h189 e_h189 x3h189 x5h189 x6h189 → ∀ (H : Heap) (locs : List Loc), va_P D CL (ws g ad y_h189 s_h189) H → va_D A (ws g ad y_h189 s_h189) → va_S A s.heap H locs → ∀ ls, lv_has ls 7 [(0, .ref (ad a0)), (3, .int x3h189), (5, .int x5h189), (6, .int x6h189)] → W p l e (ra_Re_classLine mc ms) s m args below meth c H locs d_h189 e_h189 Q (F0 m 189 ls []) := by
              intro n_189
              induction n_189 with
              | zero => intro y_h189 s_h189 d_h189 e_h189 x3h189 x5h189 x6h189 hμ; exact absurd hμ (Nat.not_lt_zero _)
              | succ n_189 ih_189 =>
                intro y_h189 s_h189 d_h189 e_h189 x3h189 x5h189 x6h189 hμ_189 hJ H locs hP hD hS ls hl
                obtain ⟨K_189, hK_189, h⟩ : ∃ K : Ly → St → Nat → Nat → Int32 → Int32 → Int32 → Prop, (∀ z1 z2 z3 z4 (t0 : Int32) (t1 : Int32) (t2 : Int32), K z1 z2 z3 z4 t0 t1 t2 → I_189 z1 z2 z3 z4 t0 t1 t2 ∧ μ_189 z1 z2 z3 z4 t0 t1 t2 < μ_189 y_h189 s_h189 d_h189 e_h189 x3h189 x5h189 x6h189) ∧ wba_Re_classLine_189 mc ms Post K a0 y_h189 s_h189 d_h189 e_h189 x3h189 x5h189 x6h189 := ⟨_, fun _ _ _ _ _ _ _ h => h, hB_189 y_h189 s_h189 d_h189 e_h189 x3h189 x5h189 x6h189 hJ⟩
                unfold wba_Re_classLine_189 at h
                obtain ⟨hd, h⟩ := h
                refine lv_iload G.1 G.2.1 d_Re_classLine_189 (lv_at hl 3 rfl) ?_
                refine lv_iload G.1 G.2.1 d_Re_classLine_191 (lv_at hl 2 rfl) ?_
                refine lv_icmp_ge (tgt := 233) G.1 G.2.1 d_Re_classLine_193 (by decide) (fun c193 => ?_) (fun c193 => ?_)
                · skip
                  have h := h.1 c193
                  refine lv_aload_n G.1 G.2.1 d_Re_classLine_233 rfl (lv_at hl 0 rfl) ?_
                  refine lv_iconst (v := 1) G.1 G.2.1 d_Re_classLine_234 (by decide) ?_
                  refine upf G hP hD hS h 6 putV h_a0 iRe tRe tRe_ok nRe rfl (by decide) rfl q593 rfl rfl fV rfl rfl d_Re_classLine_235 (fun s_39 H locs h hP hD hS => ?_)
                  exact hret (y_h189, s_39, d_h189, e_h189) _ _ _ _ _ ls h hP hD hS (Nat.le_refl _) (Nat.le_refl _) hd.1 hd.2 d_Re_classLine_238
                · skip
                  have h := h.2 c193
                  refine lv_aload_n G.1 G.2.1 d_Re_classLine_196 rfl (lv_at hl 0 rfl) ?_
                  obtain ⟨b_40, e_41, c_42, h⟩ := h
                  refine ugf (v := .ref (ad b_40)) G hP h_a0 iRe rfl 4 (by decide) rfl q591 rfl (by show va_rf ((sO s_h189 a0 4).map ad) = _; rw [e_41]; rfl) d_Re_classLine_197 ?_
                  refine lv_aload_n G.1 G.2.1 d_Re_classLine_200 rfl (lv_at hl 0 rfl) ?_
                  refine ugf (v := .int (sV s_h189 a0 9)) G hP h_a0 iRe rfl 9 (by decide) rfl q596 rfl rfl d_Re_classLine_201 ?_
                  refine lv_iconst (v := 4) G.1 G.2.1 d_Re_classLine_204 (by decide) ?_
                  refine lv_iload G.1 G.2.1 d_Re_classLine_205 (lv_at hl 3 rfl) ?_
                  refine lv_iadd G.1 G.2.1 d_Re_classLine_207 ?_
                  refine lv_aload_n G.1 G.2.1 d_Re_classLine_208 rfl (lv_at hl 0 rfl) ?_
                  refine W.eq (g2 := F0 m 209 ls [.ref (ad a0), .int (4 + x6h189), .int (sV s_h189 a0 9), .ref (ad b_40)]) rfl ?_
                  refine ugf (v := .ref (ad (lk a0 3))) G hP h_a0 iRe rfl 3 (by decide) rfl q590 rfl rfl d_Re_classLine_209 ?_
                  refine ugf (v := .ref (yP y_h189 (lk a0 3) 1)) G hP (lk_6_3 h_a0) iWo rfl 1 (by decide) rfl q550 rfl rfl d_Re_classLine_212 ?_
                  refine lv_iload_n G.1 G.2.1 d_Re_classLine_215 rfl (lv_at hl 1 rfl) ?_
                  refine lv_iconst (v := 2) G.1 G.2.1 d_Re_classLine_216 (by decide) ?_
                  refine lv_iadd G.1 G.2.1 d_Re_classLine_217 ?_
                  refine lv_iconst (v := 2) G.1 G.2.1 d_Re_classLine_218 (by decide) ?_
                  refine lv_iload G.1 G.2.1 d_Re_classLine_219 (lv_at hl 3 rfl) ?_
                  refine lv_imul G.1 G.2.1 d_Re_classLine_221 ?_
                  refine lv_iadd G.1 G.2.1 d_Re_classLine_222 ?_
                  refine uiald G hP (kdp (lk_6_3 h_a0) rfl) (typ (lk_6_3 h_a0) rfl) h d_Re_classLine_223 (fun x_43 h => ?_)
                  refine ucVv (As := [.int (sV s_h189 a0 9), .int (4 + x6h189), .int x_43]) (rest := []) G hP hD hS (cu_Wd_set l D g ad y_h189 _ s_h189 b_40 (sV s_h189 a0 9) (4 + x6h189) x_43 H.size c_42 h) w9_Wd_set q1347 ⟨Nat.le_of_ble_eq_true rfl, Nat.le_of_ble_eq_true rfl⟩ rfl rfl c_42 (q := (RWd, TWd, 17)) rfl rfl hl.1 rfl (Nat.le_of_ble_eq_true rfl) rfl hd d_Re_classLine_224 (fun s_45 H locs h hP hD hS => ?_)
                  refine lv_iinc (v := x6h189 + 1) (lv' := [(6, .int (x6h189 + 1)), (0, .ref (ad a0)), (3, .int x3h189), (5, .int x5h189)]) G.1 G.2.1 d_Re_classLine_227 hl (k := 3) rfl rfl (by decide) rfl (fun ls hl => ?_)
                  refine W.eq (g2 := F0 m 230 ls []) rfl ?_
                  refine lv_goto (tgt := 189) G.1 G.2.1 d_Re_classLine_230 (by decide) ?_
                  have h := hK_189 y_h189 s_45 d_h189 e_h189 x3h189 x5h189 (x6h189 + 1) h
                  exact ih_189 y_h189 s_45 d_h189 e_h189 x3h189 x5h189 (x6h189 + 1) (Nat.lt_of_lt_of_le h.2 (Nat.le_of_lt_succ hμ_189)) h.1 H locs hP hD hS ls (lv_sub hl [1, 2, 3, 0] rfl)
            exact L_189 _ y_28 s_38 (d_j101 + d_29) (e_j101 + e_30) x3j101 x5j101 0 (Nat.lt_succ_self _) hI_189 H locs hP hD hS ls (lv_sub hl [1, 2, 3, 0] rfl)
          · skip
            have h := h.2 c129
            exact hret (y_j101, s_14, d_j101, e_j101) _ _ _ _ _ ls h hP hD hS (Nat.le_refl _) (Nat.le_refl _) hd.1 hd.2 d_Re_classLine_132
        · skip
          have h := h.2 c112
          exact hret (y_j101, s_12, d_j101, e_j101) _ _ _ _ _ ls h hP hD hS (Nat.le_refl _) (Nat.le_refl _) hd.1 hd.2 d_Re_classLine_115
      refine lv_icmp_ge (tgt := 101) G.1 G.2.1 d_Re_classLine_56 (by decide) (fun c56 => ?_) (fun c56 => ?_)
      · skip
        have h := h.1 c56
        exact J_101 y_h51 s_h51 d_h51 e_h51 x1h51 x2h51 x3h51 x4h51 x5h51 H locs h hP hD hS ls (lv_sub hl [0, 1, 2, 3, 4, 5] rfl)
      · skip
        have h := h.2 c56
        refine lv_aload_n G.1 G.2.1 d_Re_classLine_59 rfl (lv_at hl 0 rfl) ?_
        refine ugf (v := .int (sV s_h51 a0 5)) G hP h_a0 iRe rfl 5 (by decide) rfl q592 rfl rfl d_Re_classLine_60 ?_
        refine lv_if_ne (tgt := 101) G.1 G.2.1 d_Re_classLine_63 (by decide) (fun c63 => ?_) (fun c63 => ?_)
        · skip
          have h := h.1 c63
          exact J_101 y_h51 s_h51 d_h51 e_h51 x1h51 x2h51 x3h51 x4h51 x5h51 H locs h hP hD hS ls (lv_sub hl [0, 1, 2, 3, 4, 5] rfl)
        · skip
          have h := h.2 c63
          refine lv_aload_n G.1 G.2.1 d_Re_classLine_66 rfl (lv_at hl 0 rfl) ?_
          refine lv_bipush (v := 44) G.1 G.2.1 d_Re_classLine_67 (by decide) ?_
          refine ucVi (As := [.int 44]) (rest := []) G hP hD hS (cu_Re_isSign l D g ad y_h51 _ s_h51 a0 44 H.size h_a0 h) w9_Re_isSign q1325 ⟨Nat.le_of_ble_eq_true rfl, Nat.le_of_ble_eq_true rfl⟩ rfl rfl h_a0 (q := (RRe, TRe, 18)) rfl rfl hl.1 rfl (Nat.le_of_ble_eq_true rfl) rfl hd d_Re_classLine_69 (fun r_46 s_47 H locs h hP hD hS => ?_)
          refine lv_if_eq (tgt := 101) G.1 G.2.1 d_Re_classLine_72 (by decide) (fun c72 => ?_) (fun c72 => ?_)
          · skip
            have h := h.1 c72
            exact J_101 y_h51 s_47 d_h51 e_h51 x1h51 x2h51 x3h51 x4h51 x5h51 H locs h hP hD hS ls (lv_sub hl [0, 1, 2, 3, 4, 5] rfl)
          · skip
            have h := h.2 c72
            refine lv_aload_n G.1 G.2.1 d_Re_classLine_75 rfl (lv_at hl 0 rfl) ?_
            refine W.eq (g2 := F0 m 76 ls [.ref (ad a0)]) rfl ?_
            refine lv_dup G.1 G.2.1 d_Re_classLine_76 rfl ?_
            refine ugf (v := .int (sV s_47 a0 8)) G hP h_a0 iRe rfl 8 (by decide) rfl q595 rfl rfl d_Re_classLine_77 ?_
            refine lv_iconst (v := 1) G.1 G.2.1 d_Re_classLine_80 (by decide) ?_
            refine lv_iadd G.1 G.2.1 d_Re_classLine_81 ?_
            refine upf G hP hD hS h 8 putV h_a0 iRe tRe tRe_ok nRe rfl (by decide) rfl q595 rfl rfl fV rfl rfl d_Re_classLine_82 (fun s_48 H locs h hP hD hS => ?_)
            refine lv_aload_n G.1 G.2.1 d_Re_classLine_85 rfl (lv_at hl 0 rfl) ?_
            refine lv_bipush (v := 99) G.1 G.2.1 d_Re_classLine_86 (by decide) ?_
            refine ucVi (As := [.int 99]) (rest := []) G hP hD hS (cu_Re_take l D g ad y_h51 _ s_48 a0 99 H.size h_a0 h) w9_Re_take q1321 ⟨Nat.le_of_ble_eq_true rfl, Nat.le_of_ble_eq_true rfl⟩ rfl rfl h_a0 (q := (RRe, TRe, 18)) rfl rfl hl.1 rfl (Nat.le_of_ble_eq_true rfl) rfl hd d_Re_classLine_88 (fun r_49 s_50 H locs h hP hD hS => ?_)
            refine lv_pop G.1 G.2.1 d_Re_classLine_91 rfl ?_
            refine lv_iinc (v := x5h51 + 1) (lv' := [(5, .int (x5h51 + 1)), (0, .ref (ad a0)), (1, .int x1h51), (2, .int x2h51), (3, .int x3h51), (4, .int x4h51), (6, .int x6h51)]) G.1 G.2.1 d_Re_classLine_92 hl (k := 5) rfl rfl (by decide) rfl (fun ls hl => ?_)
            refine lv_iinc (v := x6h51 + 1) (lv' := [(6, .int (x6h51 + 1)), (5, .int (x5h51 + 1)), (0, .ref (ad a0)), (1, .int x1h51), (2, .int x2h51), (3, .int x3h51), (4, .int x4h51)]) G.1 G.2.1 d_Re_classLine_95 hl (k := 6) rfl rfl (by decide) rfl (fun ls hl => ?_)
            refine lv_goto (tgt := 51) G.1 G.2.1 d_Re_classLine_98 (by decide) ?_
            have h := hK_51 y_h51 s_50 d_h51 e_h51 x1h51 x2h51 x3h51 x4h51 (x5h51 + 1) (x6h51 + 1) h
            exact ih_51 y_h51 s_50 d_h51 e_h51 x1h51 x2h51 x3h51 x4h51 (x5h51 + 1) (x6h51 + 1) (Nat.lt_of_lt_of_le h.2 (Nat.le_of_lt_succ hμ_51)) h.1 H locs hP hD hS ls (lv_sub hl [2, 3, 4, 5, 6, 1, 0] rfl)
  exact L_51 _ y s_10 0 0 r_1 r_5 (sV s_8 a0 8) r_9 0 0 (Nat.lt_succ_self _) hI_51 H locs hP hD hS ls (lv_sub hl [6, 5, 4, 3, 2, 1, 0] rfl)
def y_Re_tellLabel : MethodName := ⟨"ClassWorks$Reader", "tellLabel", "(I)V"⟩
abbrev b_Re_tellLabel : ByteArray := prog_8_method_25_code
theorem q1380 : Cond.methodLink "ClassWorks$Reader" 202 y_In_add ∈ lw_ok := lw_okmem (List.mem_of_getElem? (i := 1380) (by decide +kernel)) rfl
theorem d_Re_tellLabel_0 : decode b_Re_tellLabel 0 = .ok (.aload_n 0, 1) := by decide +kernel
theorem d_Re_tellLabel_1 : decode b_Re_tellLabel 1 = .ok (.iload_n 1, 1) := by decide +kernel
theorem d_Re_tellLabel_2 : decode b_Re_tellLabel 2 = .ok (.invokevirtual 272, 3) := by decide +kernel
theorem d_Re_tellLabel_5 : decode b_Re_tellLabel 5 = .ok (.ifCond .lt 33, 3) := by decide +kernel
theorem d_Re_tellLabel_8 : decode b_Re_tellLabel 8 = .ok (.aload_n 0, 1) := by decide +kernel
theorem d_Re_tellLabel_9 : decode b_Re_tellLabel 9 = .ok (.aload_n 0, 1) := by decide +kernel
theorem d_Re_tellLabel_10 : decode b_Re_tellLabel 10 = .ok (.getfield 55, 3) := by decide +kernel
theorem d_Re_tellLabel_13 : decode b_Re_tellLabel 13 = .ok (.ifCond .ge 15, 3) := by decide +kernel
theorem d_Re_tellLabel_16 : decode b_Re_tellLabel 16 = .ok (.aload_n 0, 1) := by decide +kernel
theorem d_Re_tellLabel_17 : decode b_Re_tellLabel 17 = .ok (.getfield 68, 3) := by decide +kernel
theorem d_Re_tellLabel_20 : decode b_Re_tellLabel 20 = .ok (.getfield 131, 3) := by decide +kernel
theorem d_Re_tellLabel_23 : decode b_Re_tellLabel 23 = .ok (.iconst 0, 1) := by decide +kernel
theorem d_Re_tellLabel_24 : decode b_Re_tellLabel 24 = .ok (.iaload, 1) := by decide +kernel
theorem d_Re_tellLabel_25 : decode b_Re_tellLabel 25 = .ok (.goto 7, 3) := by decide +kernel
theorem d_Re_tellLabel_28 : decode b_Re_tellLabel 28 = .ok (.aload_n 0, 1) := by decide +kernel
theorem d_Re_tellLabel_29 : decode b_Re_tellLabel 29 = .ok (.getfield 55, 3) := by decide +kernel
theorem d_Re_tellLabel_32 : decode b_Re_tellLabel 32 = .ok (.putfield 55, 3) := by decide +kernel
theorem d_Re_tellLabel_35 : decode b_Re_tellLabel 35 = .ok (.goto 37, 3) := by decide +kernel
theorem d_Re_tellLabel_38 : decode b_Re_tellLabel 38 = .ok (.aload_n 0, 1) := by decide +kernel
theorem d_Re_tellLabel_39 : decode b_Re_tellLabel 39 = .ok (.getfield 48, 3) := by decide +kernel
theorem d_Re_tellLabel_42 : decode b_Re_tellLabel 42 = .ok (.iload_n 1, 1) := by decide +kernel
theorem d_Re_tellLabel_43 : decode b_Re_tellLabel 43 = .ok (.invokevirtual 202, 3) := by decide +kernel
theorem d_Re_tellLabel_46 : decode b_Re_tellLabel 46 = .ok (.pop, 1) := by decide +kernel
theorem d_Re_tellLabel_47 : decode b_Re_tellLabel 47 = .ok (.aload_n 0, 1) := by decide +kernel
theorem d_Re_tellLabel_48 : decode b_Re_tellLabel 48 = .ok (.getfield 48, 3) := by decide +kernel
theorem d_Re_tellLabel_51 : decode b_Re_tellLabel 51 = .ok (.aload_n 0, 1) := by decide +kernel
theorem d_Re_tellLabel_52 : decode b_Re_tellLabel 52 = .ok (.getfield 72, 3) := by decide +kernel
theorem d_Re_tellLabel_55 : decode b_Re_tellLabel 55 = .ok (.getfield 224, 3) := by decide +kernel
theorem d_Re_tellLabel_58 : decode b_Re_tellLabel 58 = .ok (.getfield 236, 3) := by decide +kernel
theorem d_Re_tellLabel_61 : decode b_Re_tellLabel 61 = .ok (.aload_n 0, 1) := by decide +kernel
theorem d_Re_tellLabel_62 : decode b_Re_tellLabel 62 = .ok (.getfield 33, 3) := by decide +kernel
theorem d_Re_tellLabel_65 : decode b_Re_tellLabel 65 = .ok (.iconst 5, 1) := by decide +kernel
theorem d_Re_tellLabel_66 : decode b_Re_tellLabel 66 = .ok (.iadd, 1) := by decide +kernel
theorem d_Re_tellLabel_67 : decode b_Re_tellLabel 67 = .ok (.iaload, 1) := by decide +kernel
theorem d_Re_tellLabel_68 : decode b_Re_tellLabel 68 = .ok (.invokevirtual 202, 3) := by decide +kernel
theorem d_Re_tellLabel_71 : decode b_Re_tellLabel 71 = .ok (.pop, 1) := by decide +kernel
theorem d_Re_tellLabel_72 : decode b_Re_tellLabel 72 = .ok (.return_, 1) := by decide +kernel
abbrev ra_Re_tellLabel (mc ms : Nat) : Room := { frames := 5, cells := mc, slots := ms, locals := 421 }
def wja_Re_tellLabel_72 (mc ms : Nat) (Post : Ly → St → Nat → Nat → Prop) (a0 : Nat) (y_j72 : Ly) (s_j72 : St) (d_j72 e_j72 : Nat) : Prop := (d_j72 ≤ mc ∧ e_j72 ≤ ms) ∧ Post y_j72 s_j72 d_j72 e_j72
def wja_Re_tellLabel_32 (mc ms : Nat) (Post : Ly → St → Nat → Nat → Prop) (a0 : Nat) (y_j32 : Ly) (s_j32 : St) (d_j32 e_j32 : Nat) (z1j32 : Int32) : Prop := (d_j32 ≤ mc ∧ e_j32 ≤ ms) ∧ xP (uV s_j32 a0 15 z1j32) (fun s_23 : St => wja_Re_tellLabel_72 mc ms Post a0 y_j32 s_23 d_j32 e_j32)
def wa_Re_tellLabel (mc ms : Nat) (y : Ly) (Post : Ly → St → Nat → Nat → Prop) (σ : St) (a0 : Nat) (v1 : Int32) : Prop := wu_Re_labelAt y (fun (s_2 : St) (r_1 : Int32) => ((r_1 < 0 → ∃ mc_8 ms_9 : Nat, (0 + mc_8 ≤ mc ∧ 0 + ms_9 ≤ ms) ∧ wa_In_add mc_8 ms_9 y (fun (y_5 : Ly) (s_4 : St) (r_3 : Int32) (d_6 e_7 : Nat) => (0 + d_6 ≤ mc ∧ 0 + e_7 ≤ ms) ∧ ∃ b_11 : Nat, sO s_4 a0 4 = some b_11 ∧ cl b_11 = 9 ∧ xA y_5 s_4 (lk b_11 9) 0 ((sV s_4 a0 10) + 5) (fun x_14 : Int32 => ∃ mc_20 ms_21 : Nat, (0 + d_6 + mc_20 ≤ mc ∧ 0 + e_7 + ms_21 ≤ ms) ∧ wa_In_add mc_20 ms_21 y_5 (fun (y_17 : Ly) (s_16 : St) (r_15 : Int32) (d_18 e_19 : Nat) => (0 + d_6 + d_18 ≤ mc ∧ 0 + e_7 + e_19 ≤ ms) ∧ wja_Re_tellLabel_72 mc ms Post a0 y_17 s_16 (0 + d_6 + d_18) (0 + e_7 + e_19)) s_4 (lk a0 13) x_14)) s_2 (lk a0 13) v1) ∧ (¬ (r_1 < 0) → ((0 ≤ (sV s_2 a0 15) → wja_Re_tellLabel_32 mc ms Post a0 y s_2 0 0 (sV s_2 a0 15)) ∧ (¬ (0 ≤ (sV s_2 a0 15)) → xA y s_2 (lk a0 3) 2 0 (fun x_24 : Int32 => wja_Re_tellLabel_32 mc ms Post a0 y s_2 0 0 x_24)))))) σ a0 v1
set_option maxHeartbeats 4000000 in
set_option maxRecDepth 100000 in
theorem ca_Re_tellLabel (l : Launch) (D : va_G) (g : Nat → ClassId) (ad : Nat → Nat) (mc ms : Nat) (y : Ly) (Post : Ly → St → Nat → Nat → Prop) (σ : St) (a0 : Nat) (v1 : Int32) (sz uz : Nat) (h_a0 : cl a0 = 6) (h : wa_Re_tellLabel mc ms y Post σ a0 v1) : Met l y_Re_tellLabel (mw y_Re_tellLabel b_Re_tellLabel 2 (none)) (ra_Re_tellLabel mc ms) (PCu g D [] [.ref (ad a0), .int v1] sz uz (ws g ad y σ)) (va_Qv (fun (u : Ly × St × Nat × Nat) => Post u.1 u.2.1 u.2.2.1 u.2.2.2) (QU D (va_A (ws g ad y σ) sz) (fun u => ws g ad u.1 u.2.1) sz uz (fun u => u.2.2.1) (fun u => u.2.2.2)) (va_A (ws g ad y σ) sz)) mc ms (va_A (ws g ad y σ) sz) := by
  refine ofVu (by decide +kernel) (Nat.le_of_ble_eq_true rfl) ?_
  intro p e s m args below meth c A Q ls H locs G hsz hP hD hS hl hret
  subst hsz
  have hl : lv_has ls 2 [(0, .ref (ad a0)), (1, .int v1)] := hl
  have hd : 0 ≤ mc ∧ 0 ≤ ms := ⟨Nat.zero_le _, Nat.zero_le _⟩
  unfold wa_Re_tellLabel at h
  refine lv_aload_n G.1 G.2.1 d_Re_tellLabel_0 rfl (lv_at hl 0 rfl) ?_
  refine lv_iload_n G.1 G.2.1 d_Re_tellLabel_1 rfl (lv_at hl 1 rfl) ?_
  refine ucVi (As := [.int v1]) (rest := []) G hP hD hS (cu_Re_labelAt l D g ad y _ σ a0 v1 H.size h_a0 h) w9_Re_labelAt q1376 ⟨Nat.le_of_ble_eq_true rfl, Nat.le_of_ble_eq_true rfl⟩ rfl rfl h_a0 (q := (RRe, TRe, 18)) rfl rfl hl.1 rfl (Nat.le_of_ble_eq_true rfl) rfl hd d_Re_tellLabel_2 (fun r_1 s_2 H locs h hP hD hS => ?_)
  have J_72 : ∀ (y_j72 : Ly) (s_j72 : St) (d_j72 e_j72 : Nat) (H : Heap) (locs : List Loc), wja_Re_tellLabel_72 mc ms Post a0 y_j72 s_j72 d_j72 e_j72 → va_P D CL (ws g ad y_j72 s_j72) H → va_D A (ws g ad y_j72 s_j72) → va_S A s.heap H locs → ∀ ls, lv_has ls 2 [] → W p l e (ra_Re_tellLabel mc ms) s m args below meth c H locs d_j72 e_j72 Q (F0 m 72 ls []) := by
    intro y_j72 s_j72 d_j72 e_j72 H locs h hP hD hS ls hl
    unfold wja_Re_tellLabel_72 at h
    obtain ⟨hd, h⟩ := h
    exact hret (y_j72, s_j72, d_j72, e_j72) _ _ _ _ _ ls h hP hD hS (Nat.le_refl _) (Nat.le_refl _) hd.1 hd.2 d_Re_tellLabel_72
  refine lv_if_lt (tgt := 38) G.1 G.2.1 d_Re_tellLabel_5 (by decide) (fun c5 => ?_) (fun c5 => ?_)
  · skip
    have h := h.1 c5
    refine lv_aload_n G.1 G.2.1 d_Re_tellLabel_38 rfl (lv_at hl 0 rfl) ?_
    refine ugf (v := .ref (ad (lk a0 13))) G hP h_a0 iRe rfl 13 (by decide) rfl q600 rfl rfl d_Re_tellLabel_39 ?_
    refine lv_iload_n G.1 G.2.1 d_Re_tellLabel_42 rfl (lv_at hl 1 rfl) ?_
    obtain ⟨mc_8, ms_9, hr_10, h⟩ := h
    refine uaVi (As := [.int v1]) (rest := []) G hP hD hS (ca_In_add l D g [] ad mc_8 ms_9 y _ s_2 (lk a0 13) v1 H.size (us H) (lk_6_13 h_a0) h) w9_In_add q1380 ⟨Nat.le_of_ble_eq_true rfl, Nat.le_of_ble_eq_true rfl⟩ rfl rfl (lk_6_13 h_a0) (q := (RIn, TIn, 2)) rfl rfl hl.1 rfl (Nat.le_of_ble_eq_true rfl) rfl hr_10 d_Re_tellLabel_43 (fun r_3 y_5 s_4 d_6 e_7 H locs h hP hD hS => ?_)
    have hl := lv_sub (l' := [(0, .ref (ad a0))]) hl [0] rfl
    obtain ⟨hd, h⟩ := h
    refine lv_pop G.1 G.2.1 d_Re_tellLabel_46 rfl ?_
    refine lv_aload_n G.1 G.2.1 d_Re_tellLabel_47 rfl (lv_at hl 0 rfl) ?_
    refine ugf (v := .ref (ad (lk a0 13))) G hP h_a0 iRe rfl 13 (by decide) rfl q600 rfl rfl d_Re_tellLabel_48 ?_
    refine W.eq (g2 := F0 m 51 ls [.ref (ad (lk a0 13))]) rfl ?_
    refine lv_aload_n G.1 G.2.1 d_Re_tellLabel_51 rfl (lv_at hl 0 rfl) ?_
    obtain ⟨b_11, e_12, c_13, h⟩ := h
    refine ugf (v := .ref (ad b_11)) G hP h_a0 iRe rfl 4 (by decide) rfl q591 rfl (by show va_rf ((sO s_4 a0 4).map ad) = _; rw [e_12]; rfl) d_Re_tellLabel_52 ?_
    refine ugf (v := .ref (ad (lk b_11 9))) G hP c_13 iWd rfl 9 (by decide) rfl q840 rfl rfl d_Re_tellLabel_55 ?_
    refine ugf (v := .ref (yP y_5 (lk b_11 9) 0)) G hP (lk_9_9 c_13) iIn rfl 0 (by decide) rfl q387 rfl rfl d_Re_tellLabel_58 ?_
    refine lv_aload_n G.1 G.2.1 d_Re_tellLabel_61 rfl (lv_at hl 0 rfl) ?_
    refine ugf (v := .int (sV s_4 a0 10)) G hP h_a0 iRe rfl 10 (by decide) rfl q597 rfl rfl d_Re_tellLabel_62 ?_
    refine lv_iconst (v := 5) G.1 G.2.1 d_Re_tellLabel_65 (by decide) ?_
    refine lv_iadd G.1 G.2.1 d_Re_tellLabel_66 ?_
    refine uiald G hP (kdp (lk_9_9 c_13) rfl) (typ (lk_9_9 c_13) rfl) h d_Re_tellLabel_67 (fun x_14 h => ?_)
    obtain ⟨mc_20, ms_21, hr_22, h⟩ := h
    refine uaVi (As := [.int x_14]) (rest := []) G hP hD hS (ca_In_add l D g [] ad mc_20 ms_21 y_5 _ s_4 (lk a0 13) x_14 H.size (us H) (lk_6_13 h_a0) h) w9_In_add q1380 ⟨Nat.le_of_ble_eq_true rfl, Nat.le_of_ble_eq_true rfl⟩ rfl rfl (lk_6_13 h_a0) (q := (RIn, TIn, 2)) rfl rfl hl.1 rfl (Nat.le_of_ble_eq_true rfl) rfl hr_22 d_Re_tellLabel_68 (fun r_15 y_17 s_16 d_18 e_19 H locs h hP hD hS => ?_)
    have hl := lv_sub (l' := []) hl [] rfl
    obtain ⟨hd, h⟩ := h
    refine lv_pop G.1 G.2.1 d_Re_tellLabel_71 rfl ?_
    exact J_72 y_17 s_16 (0 + d_6 + d_18) (0 + e_7 + e_19) H locs h hP hD hS ls (lv_sub hl [] rfl)
  · skip
    have h := h.2 c5
    refine lv_aload_n G.1 G.2.1 d_Re_tellLabel_8 rfl (lv_at hl 0 rfl) ?_
    refine lv_aload_n G.1 G.2.1 d_Re_tellLabel_9 rfl (lv_at hl 0 rfl) ?_
    refine ugf (v := .int (sV s_2 a0 15)) G hP h_a0 iRe rfl 15 (by decide) rfl q602 rfl rfl d_Re_tellLabel_10 ?_
    have J_32 : ∀ (y_j32 : Ly) (s_j32 : St) (d_j32 e_j32 : Nat) (z1j32 : Int32) (H : Heap) (locs : List Loc), wja_Re_tellLabel_32 mc ms Post a0 y_j32 s_j32 d_j32 e_j32 z1j32 → va_P D CL (ws g ad y_j32 s_j32) H → va_D A (ws g ad y_j32 s_j32) → va_S A s.heap H locs → ∀ ls, lv_has ls 2 [] → W p l e (ra_Re_tellLabel mc ms) s m args below meth c H locs d_j32 e_j32 Q (F0 m 32 ls [.int z1j32, .ref (ad a0)]) := by
      intro y_j32 s_j32 d_j32 e_j32 z1j32 H locs h hP hD hS ls hl
      unfold wja_Re_tellLabel_32 at h
      obtain ⟨hd, h⟩ := h
      refine upf G hP hD hS h 15 putV h_a0 iRe tRe tRe_ok nRe rfl (by decide) rfl q602 rfl rfl fV rfl rfl d_Re_tellLabel_32 (fun s_23 H locs h hP hD hS => ?_)
      refine lv_goto (tgt := 72) G.1 G.2.1 d_Re_tellLabel_35 (by decide) ?_
      exact J_72 y_j32 s_23 d_j32 e_j32 H locs h hP hD hS ls (lv_sub hl [] rfl)
    refine lv_if_ge (tgt := 28) G.1 G.2.1 d_Re_tellLabel_13 (by decide) (fun c13 => ?_) (fun c13 => ?_)
    · skip
      have h := h.1 c13
      refine lv_aload_n G.1 G.2.1 d_Re_tellLabel_28 rfl (lv_at hl 0 rfl) ?_
      refine ugf (v := .int (sV s_2 a0 15)) G hP h_a0 iRe rfl 15 (by decide) rfl q602 rfl rfl d_Re_tellLabel_29 ?_
      exact J_32 y s_2 0 0 (sV s_2 a0 15) H locs h hP hD hS ls (lv_sub hl [] rfl)
    · skip
      have h := h.2 c13
      refine lv_aload_n G.1 G.2.1 d_Re_tellLabel_16 rfl (lv_at hl 0 rfl) ?_
      refine ugf (v := .ref (ad (lk a0 3))) G hP h_a0 iRe rfl 3 (by decide) rfl q590 rfl rfl d_Re_tellLabel_17 ?_
      refine ugf (v := .ref (yP y (lk a0 3) 2)) G hP (lk_6_3 h_a0) iWo rfl 2 (by decide) rfl q552 rfl rfl d_Re_tellLabel_20 ?_
      refine W.eq (g2 := F0 m 23 ls [.ref (yP y (lk a0 3) 2), .ref (ad a0)]) rfl ?_
      refine lv_iconst (v := 0) G.1 G.2.1 d_Re_tellLabel_23 (by decide) ?_
      refine uiald G hP (kdp (lk_6_3 h_a0) rfl) (typ (lk_6_3 h_a0) rfl) h d_Re_tellLabel_24 (fun x_24 h => ?_)
      refine lv_goto (tgt := 32) G.1 G.2.1 d_Re_tellLabel_25 (by decide) ?_
      exact J_32 y s_2 0 0 x_24 H locs h hP hD hS ls (lv_sub hl [] rfl)
def y_Re_takeKinds : MethodName := ⟨"ClassWorks$Reader", "takeKinds", "(Z)V"⟩
abbrev b_Re_takeKinds : ByteArray := prog_8_method_28_code
theorem d_Re_takeKinds_0 : decode b_Re_takeKinds 0 = .ok (.aload_n 0, 1) := by decide +kernel
theorem d_Re_takeKinds_1 : decode b_Re_takeKinds 1 = .ok (.getfield 72, 3) := by decide +kernel
theorem d_Re_takeKinds_4 : decode b_Re_takeKinds 4 = .ok (.getfield 275, 3) := by decide +kernel
theorem d_Re_takeKinds_7 : decode b_Re_takeKinds 7 = .ok (.iconst 0, 1) := by decide +kernel
theorem d_Re_takeKinds_8 : decode b_Re_takeKinds 8 = .ok (.invokevirtual 202, 3) := by decide +kernel
theorem d_Re_takeKinds_11 : decode b_Re_takeKinds 11 = .ok (.istore_n 2, 1) := by decide +kernel
theorem d_Re_takeKinds_12 : decode b_Re_takeKinds 12 = .ok (.iload_n 1, 1) := by decide +kernel
theorem d_Re_takeKinds_13 : decode b_Re_takeKinds 13 = .ok (.ifCond .ne 7, 3) := by decide +kernel
theorem d_Re_takeKinds_16 : decode b_Re_takeKinds 16 = .ok (.iconst 1, 1) := by decide +kernel
theorem d_Re_takeKinds_17 : decode b_Re_takeKinds 17 = .ok (.goto 4, 3) := by decide +kernel
theorem d_Re_takeKinds_20 : decode b_Re_takeKinds 20 = .ok (.iconst 0, 1) := by decide +kernel
theorem d_Re_takeKinds_21 : decode b_Re_takeKinds 21 = .ok (.istore_n 3, 1) := by decide +kernel
theorem d_Re_takeKinds_22 : decode b_Re_takeKinds 22 = .ok (.iconst 1, 1) := by decide +kernel
theorem d_Re_takeKinds_23 : decode b_Re_takeKinds 23 = .ok (.istore 4, 2) := by decide +kernel
theorem d_Re_takeKinds_25 : decode b_Re_takeKinds 25 = .ok (.iload 4, 2) := by decide +kernel
theorem d_Re_takeKinds_27 : decode b_Re_takeKinds 27 = .ok (.sipush 6000, 3) := by decide +kernel
theorem d_Re_takeKinds_30 : decode b_Re_takeKinds 30 = .ok (.if_icmp .gt 75, 3) := by decide +kernel
theorem d_Re_takeKinds_33 : decode b_Re_takeKinds 33 = .ok (.iload_n 3, 1) := by decide +kernel
theorem d_Re_takeKinds_34 : decode b_Re_takeKinds 34 = .ok (.ifCond .eq 71, 3) := by decide +kernel
theorem d_Re_takeKinds_37 : decode b_Re_takeKinds 37 = .ok (.aload_n 0, 1) := by decide +kernel
theorem d_Re_takeKinds_38 : decode b_Re_takeKinds 38 = .ok (.getfield 18, 3) := by decide +kernel
theorem d_Re_takeKinds_41 : decode b_Re_takeKinds 41 = .ok (.ifCond .ne 64, 3) := by decide +kernel
theorem d_Re_takeKinds_44 : decode b_Re_takeKinds 44 = .ok (.aload_n 0, 1) := by decide +kernel
theorem d_Re_takeKinds_45 : decode b_Re_takeKinds 45 = .ok (.getfield 72, 3) := by decide +kernel
theorem d_Re_takeKinds_48 : decode b_Re_takeKinds 48 = .ok (.getfield 275, 3) := by decide +kernel
theorem d_Re_takeKinds_51 : decode b_Re_takeKinds 51 = .ok (.aload_n 0, 1) := by decide +kernel
theorem d_Re_takeKinds_52 : decode b_Re_takeKinds 52 = .ok (.bipush 75, 2) := by decide +kernel
theorem d_Re_takeKinds_54 : decode b_Re_takeKinds 54 = .ok (.invokevirtual 147, 3) := by decide +kernel
theorem d_Re_takeKinds_57 : decode b_Re_takeKinds 57 = .ok (.invokevirtual 202, 3) := by decide +kernel
theorem d_Re_takeKinds_60 : decode b_Re_takeKinds 60 = .ok (.pop, 1) := by decide +kernel
theorem d_Re_takeKinds_61 : decode b_Re_takeKinds 61 = .ok (.aload_n 0, 1) := by decide +kernel
theorem d_Re_takeKinds_62 : decode b_Re_takeKinds 62 = .ok (.getfield 72, 3) := by decide +kernel
theorem d_Re_takeKinds_65 : decode b_Re_takeKinds 65 = .ok (.getfield 275, 3) := by decide +kernel
theorem d_Re_takeKinds_68 : decode b_Re_takeKinds 68 = .ok (.iload_n 2, 1) := by decide +kernel
theorem d_Re_takeKinds_69 : decode b_Re_takeKinds 69 = .ok (.iload 4, 2) := by decide +kernel
theorem d_Re_takeKinds_71 : decode b_Re_takeKinds 71 = .ok (.invokevirtual 242, 3) := by decide +kernel
theorem d_Re_takeKinds_74 : decode b_Re_takeKinds 74 = .ok (.aload_n 0, 1) := by decide +kernel
theorem d_Re_takeKinds_75 : decode b_Re_takeKinds 75 = .ok (.bipush 44, 2) := by decide +kernel
theorem d_Re_takeKinds_77 : decode b_Re_takeKinds 77 = .ok (.invokevirtual 151, 3) := by decide +kernel
theorem d_Re_takeKinds_80 : decode b_Re_takeKinds 80 = .ok (.istore_n 3, 1) := by decide +kernel
theorem d_Re_takeKinds_81 : decode b_Re_takeKinds 81 = .ok (.aload_n 0, 1) := by decide +kernel
theorem d_Re_takeKinds_82 : decode b_Re_takeKinds 82 = .ok (.dup, 1) := by decide +kernel
theorem d_Re_takeKinds_83 : decode b_Re_takeKinds 83 = .ok (.getfield 27, 3) := by decide +kernel
theorem d_Re_takeKinds_86 : decode b_Re_takeKinds 86 = .ok (.iload_n 3, 1) := by decide +kernel
theorem d_Re_takeKinds_87 : decode b_Re_takeKinds 87 = .ok (.ifCond .eq 7, 3) := by decide +kernel
theorem d_Re_takeKinds_90 : decode b_Re_takeKinds 90 = .ok (.iconst 1, 1) := by decide +kernel
theorem d_Re_takeKinds_91 : decode b_Re_takeKinds 91 = .ok (.goto 4, 3) := by decide +kernel
theorem d_Re_takeKinds_94 : decode b_Re_takeKinds 94 = .ok (.iconst 0, 1) := by decide +kernel
theorem d_Re_takeKinds_95 : decode b_Re_takeKinds 95 = .ok (.iadd, 1) := by decide +kernel
theorem d_Re_takeKinds_96 : decode b_Re_takeKinds 96 = .ok (.putfield 27, 3) := by decide +kernel
theorem d_Re_takeKinds_99 : decode b_Re_takeKinds 99 = .ok (.iinc 4 1, 3) := by decide +kernel
theorem d_Re_takeKinds_102 : decode b_Re_takeKinds 102 = .ok (.goto (-77), 3) := by decide +kernel
theorem d_Re_takeKinds_105 : decode b_Re_takeKinds 105 = .ok (.return_, 1) := by decide +kernel
abbrev ra_Re_takeKinds (mc ms : Nat) : Room := { frames := 5, cells := mc, slots := ms, locals := 421 }
def wja_Re_takeKinds_105 (mc ms : Nat) (Post : Ly → St → Nat → Nat → Prop) (a0 : Nat) (y_j105 : Ly) (s_j105 : St) (d_j105 e_j105 : Nat) : Prop := (d_j105 ≤ mc ∧ e_j105 ≤ ms) ∧ Post y_j105 s_j105 d_j105 e_j105
def wja_Re_takeKinds_95 (mc ms : Nat) (Post : Ly → St → Nat → Nat → Prop) (K_25 : Ly → St → Nat → Nat → Int32 → Int32 → Int32 → Prop) (a0 : Nat) (y_j95 : Ly) (s_j95 : St) (d_j95 e_j95 : Nat) (x2j95 : Int32) (x3j95 : Int32) (x4j95 : Int32) (z1j95 : Int32) (z2j95 : Int32) : Prop := (d_j95 ≤ mc ∧ e_j95 ≤ ms) ∧ xP (uV s_j95 a0 8 (z1j95 + z2j95)) (fun s_32 : St => K_25 y_j95 s_32 d_j95 e_j95 x2j95 x3j95 (x4j95 + 1))
def wba_Re_takeKinds_25 (mc ms : Nat) (Post : Ly → St → Nat → Nat → Prop) (K_25 : Ly → St → Nat → Nat → Int32 → Int32 → Int32 → Prop) (a0 : Nat) (y_h25 : Ly) (s_h25 : St) (d_h25 e_h25 : Nat) (x2h25 : Int32) (x3h25 : Int32) (x4h25 : Int32) : Prop := (d_h25 ≤ mc ∧ e_h25 ≤ ms) ∧ ((6000 < x4h25 → wja_Re_takeKinds_105 mc ms Post a0 y_h25 s_h25 d_h25 e_h25) ∧ (¬ (6000 < x4h25) → ((x3h25 = 0 → wja_Re_takeKinds_105 mc ms Post a0 y_h25 s_h25 d_h25 e_h25) ∧ (¬ (x3h25 = 0) → ((¬ (sV s_h25 a0 5) = 0 → wja_Re_takeKinds_105 mc ms Post a0 y_h25 s_h25 d_h25 e_h25) ∧ ((sV s_h25 a0 5) = 0 → ∃ b_12 : Nat, sO s_h25 a0 4 = some b_12 ∧ cl b_12 = 9 ∧ wu_Re_take y_h25 (fun (s_16 : St) (r_15 : Int32) => ∃ mc_22 ms_23 : Nat, (d_h25 + mc_22 ≤ mc ∧ e_h25 + ms_23 ≤ ms) ∧ wa_In_add mc_22 ms_23 y_h25 (fun (y_19 : Ly) (s_18 : St) (r_17 : Int32) (d_20 e_21 : Nat) => (d_h25 + d_20 ≤ mc ∧ e_h25 + e_21 ≤ ms) ∧ ∃ b_25 : Nat, sO s_18 a0 4 = some b_25 ∧ cl b_25 = 9 ∧ wu_In_put y_19 (fun (s_29 : St) => wu_Re_isSign y_19 (fun (s_31 : St) (r_30 : Int32) => ((r_30 = 0 → wja_Re_takeKinds_95 mc ms Post K_25 a0 y_19 s_31 (d_h25 + d_20) (e_h25 + e_21) x2h25 r_30 x4h25 (sV s_31 a0 8) 0) ∧ (¬ (r_30 = 0) → wja_Re_takeKinds_95 mc ms Post K_25 a0 y_19 s_31 (d_h25 + d_20) (e_h25 + e_21) x2h25 r_30 x4h25 (sV s_31 a0 8) 1))) s_29 a0 44) s_18 (lk b_25 12) x2h25 x4h25) s_16 (lk b_12 12) r_15) s_h25 a0 75))))))
def wla_Re_takeKinds_25 (mc ms : Nat) (Post : Ly → St → Nat → Nat → Prop) (a0 : Nat) (y_h25 : Ly) (s_h25 : St) (d_h25 e_h25 : Nat) (x2h25 : Int32) (x3h25 : Int32) (x4h25 : Int32) : Prop := ∃ (I : Ly → St → Nat → Nat → Int32 → Int32 → Int32 → Prop) (μ : Ly → St → Nat → Nat → Int32 → Int32 → Int32 → Nat), I y_h25 s_h25 d_h25 e_h25 x2h25 x3h25 x4h25 ∧ ∀ (u1 : Ly) (u2 : St) (u3 u4 : Nat) (t0 : Int32) (t1 : Int32) (t2 : Int32), I u1 u2 u3 u4 t0 t1 t2 → wba_Re_takeKinds_25 mc ms Post (fun z1 z2 z3 z4 t0q t1q t2q => I z1 z2 z3 z4 t0q t1q t2q ∧ μ z1 z2 z3 z4 t0q t1q t2q < μ u1 u2 u3 u4 t0 t1 t2) a0 u1 u2 u3 u4 t0 t1 t2
def wja_Re_takeKinds_21 (mc ms : Nat) (Post : Ly → St → Nat → Nat → Prop) (a0 : Nat) (y_j21 : Ly) (s_j21 : St) (d_j21 e_j21 : Nat) (x2j21 : Int32) (z0j21 : Int32) : Prop := (d_j21 ≤ mc ∧ e_j21 ≤ ms) ∧ wla_Re_takeKinds_25 mc ms Post a0 y_j21 s_j21 d_j21 e_j21 x2j21 z0j21 1
def wa_Re_takeKinds (mc ms : Nat) (y : Ly) (Post : Ly → St → Nat → Nat → Prop) (σ : St) (a0 : Nat) (v1 : Int32) : Prop := ∃ b_1 : Nat, sO σ a0 4 = some b_1 ∧ cl b_1 = 9 ∧ ∃ mc_9 ms_10 : Nat, (0 + mc_9 ≤ mc ∧ 0 + ms_10 ≤ ms) ∧ wa_In_add mc_9 ms_10 y (fun (y_6 : Ly) (s_5 : St) (r_4 : Int32) (d_7 e_8 : Nat) => (0 + d_7 ≤ mc ∧ 0 + e_8 ≤ ms) ∧ ((¬ v1 = 0 → wja_Re_takeKinds_21 mc ms Post a0 y_6 s_5 (0 + d_7) (0 + e_8) r_4 0) ∧ (v1 = 0 → wja_Re_takeKinds_21 mc ms Post a0 y_6 s_5 (0 + d_7) (0 + e_8) r_4 1))) σ (lk b_1 12) 0
set_option maxHeartbeats 4000000 in
set_option maxRecDepth 100000 in
theorem ca_Re_takeKinds (l : Launch) (D : va_G) (g : Nat → ClassId) (ad : Nat → Nat) (mc ms : Nat) (y : Ly) (Post : Ly → St → Nat → Nat → Prop) (σ : St) (a0 : Nat) (v1 : Int32) (sz uz : Nat) (h_a0 : cl a0 = 6) (h : wa_Re_takeKinds mc ms y Post σ a0 v1) : Met l y_Re_takeKinds (mw y_Re_takeKinds b_Re_takeKinds 5 (none)) (ra_Re_takeKinds mc ms) (PCu g D [] [.ref (ad a0), .int v1] sz uz (ws g ad y σ)) (va_Qv (fun (u : Ly × St × Nat × Nat) => Post u.1 u.2.1 u.2.2.1 u.2.2.2) (QU D (va_A (ws g ad y σ) sz) (fun u => ws g ad u.1 u.2.1) sz uz (fun u => u.2.2.1) (fun u => u.2.2.2)) (va_A (ws g ad y σ) sz)) mc ms (va_A (ws g ad y σ) sz) := by
  refine ofVu (by decide +kernel) (Nat.le_of_ble_eq_true rfl) ?_
  intro p e s m args below meth c A Q ls H locs G hsz hP hD hS hl hret
  subst hsz
  have hl : lv_has ls 5 [(0, .ref (ad a0)), (1, .int v1)] := hl
  have hd : 0 ≤ mc ∧ 0 ≤ ms := ⟨Nat.zero_le _, Nat.zero_le _⟩
  unfold wa_Re_takeKinds at h
  refine lv_aload_n G.1 G.2.1 d_Re_takeKinds_0 rfl (lv_at hl 0 rfl) ?_
  obtain ⟨b_1, e_2, c_3, h⟩ := h
  refine ugf (v := .ref (ad b_1)) G hP h_a0 iRe rfl 4 (by decide) rfl q591 rfl (by show va_rf ((sO σ a0 4).map ad) = _; rw [e_2]; rfl) d_Re_takeKinds_1 ?_
  refine ugf (v := .ref (ad (lk b_1 12))) G hP c_3 iWd rfl 12 (by decide) rfl q856 rfl rfl d_Re_takeKinds_4 ?_
  refine lv_iconst (v := 0) G.1 G.2.1 d_Re_takeKinds_7 (by decide) ?_
  obtain ⟨mc_9, ms_10, hr_11, h⟩ := h
  refine uaVi (As := [.int 0]) (rest := []) G hP hD hS (ca_In_add l D g [] ad mc_9 ms_10 y _ σ (lk b_1 12) 0 H.size (us H) (lk_9_12 c_3) h) w9_In_add q1380 ⟨Nat.le_of_ble_eq_true rfl, Nat.le_of_ble_eq_true rfl⟩ rfl rfl (lk_9_12 c_3) (q := (RIn, TIn, 2)) rfl rfl hl.1 rfl (Nat.le_of_ble_eq_true rfl) rfl hr_11 d_Re_takeKinds_8 (fun r_4 y_6 s_5 d_7 e_8 H locs h hP hD hS => ?_)
  obtain ⟨hd, h⟩ := h
  refine lv_istore_n (lv' := [(2, .int r_4), (0, .ref (ad a0)), (1, .int v1)]) G.1 G.2.1 d_Re_takeKinds_11 rfl hl (by decide) rfl (fun ls hl => ?_)
  refine lv_iload_n G.1 G.2.1 d_Re_takeKinds_12 rfl (lv_at hl 2 rfl) ?_
  have J_21 : ∀ (y_j21 : Ly) (s_j21 : St) (d_j21 e_j21 : Nat) (x2j21 : Int32) (z0j21 : Int32) (H : Heap) (locs : List Loc), wja_Re_takeKinds_21 mc ms Post a0 y_j21 s_j21 d_j21 e_j21 x2j21 z0j21 → va_P D CL (ws g ad y_j21 s_j21) H → va_D A (ws g ad y_j21 s_j21) → va_S A s.heap H locs → ∀ ls, lv_has ls 5 [(0, .ref (ad a0)), (2, .int x2j21)] → W p l e (ra_Re_takeKinds mc ms) s m args below meth c H locs d_j21 e_j21 Q (F0 m 21 ls [.int z0j21]) := by
    intro y_j21 s_j21 d_j21 e_j21 x2j21 z0j21 H locs h hP hD hS ls hl
    unfold wja_Re_takeKinds_21 at h
    obtain ⟨hd, h⟩ := h
    refine lv_istore_n (lv' := [(3, .int z0j21), (0, .ref (ad a0)), (2, .int x2j21)]) G.1 G.2.1 d_Re_takeKinds_21 rfl hl (by decide) rfl (fun ls hl => ?_)
    refine lv_iconst (v := 1) G.1 G.2.1 d_Re_takeKinds_22 (by decide) ?_
    refine lv_istore (lv' := [(4, .int 1), (3, .int z0j21), (0, .ref (ad a0)), (2, .int x2j21)]) G.1 G.2.1 d_Re_takeKinds_23 hl (by decide) rfl (fun ls hl => ?_)
    unfold wla_Re_takeKinds_25 at h
    obtain ⟨I_25, μ_25, hI_25, hB_25⟩ := h
    have L_25 : ∀ (n_25 : Nat) (y_h25 : Ly) (s_h25 : St) (d_h25 e_h25 : Nat) (x2h25 : Int32) (x3h25 : Int32) (x4h25 : Int32), μ_25 y_h25 s_h25 d_h25 e_h25 x2h25 x3h25 x4h25 < n_25 → I_25 y_h25 s_h25 d_h25 e_h25 x2h25 x3h25 x4h25 → ∀ (H : Heap) (locs : List Loc), va_P D CL (ws g ad y_h25 s_h25) H → va_D A (ws g ad y_h25 s_h25) → va_S A s.heap H locs → ∀ ls, lv_has ls 5 [(0, .ref (ad a0)), (2, .int x2h25), (3, .int x3h25), (4, .int x4h25)] → W p l e (ra_Re_takeKinds mc ms) s m args below meth c H locs d_h25 e_h25 Q (F0 m 25 ls []) := by
      intro n_25
      induction n_25 with
      | zero => intro y_h25 s_h25 d_h25 e_h25 x2h25 x3h25 x4h25 hμ; exact absurd hμ (Nat.not_lt_zero _)
      | succ n_25 ih_25 =>
        intro y_h25 s_h25 d_h25 e_h25 x2h25 x3h25 x4h25 hμ_25 hJ H locs hP hD hS ls hl
        obtain ⟨K_25, hK_25, h⟩ : ∃ K : Ly → St → Nat → Nat → Int32 → Int32 → Int32 → Prop, (∀ z1 z2 z3 z4 (t0 : Int32) (t1 : Int32) (t2 : Int32), K z1 z2 z3 z4 t0 t1 t2 → I_25 z1 z2 z3 z4 t0 t1 t2 ∧ μ_25 z1 z2 z3 z4 t0 t1 t2 < μ_25 y_h25 s_h25 d_h25 e_h25 x2h25 x3h25 x4h25) ∧ wba_Re_takeKinds_25 mc ms Post K a0 y_h25 s_h25 d_h25 e_h25 x2h25 x3h25 x4h25 := ⟨_, fun _ _ _ _ _ _ _ h => h, hB_25 y_h25 s_h25 d_h25 e_h25 x2h25 x3h25 x4h25 hJ⟩
        unfold wba_Re_takeKinds_25 at h
        obtain ⟨hd, h⟩ := h
        refine lv_iload G.1 G.2.1 d_Re_takeKinds_25 (lv_at hl 3 rfl) ?_
        refine lv_sipush (v := 6000) G.1 G.2.1 d_Re_takeKinds_27 (by decide) ?_
        have J_105 : ∀ (y_j105 : Ly) (s_j105 : St) (d_j105 e_j105 : Nat) (H : Heap) (locs : List Loc), wja_Re_takeKinds_105 mc ms Post a0 y_j105 s_j105 d_j105 e_j105 → va_P D CL (ws g ad y_j105 s_j105) H → va_D A (ws g ad y_j105 s_j105) → va_S A s.heap H locs → ∀ ls, lv_has ls 5 [] → W p l e (ra_Re_takeKinds mc ms) s m args below meth c H locs d_j105 e_j105 Q (F0 m 105 ls []) := by
          intro y_j105 s_j105 d_j105 e_j105 H locs h hP hD hS ls hl
          unfold wja_Re_takeKinds_105 at h
          obtain ⟨hd, h⟩ := h
          exact hret (y_j105, s_j105, d_j105, e_j105) _ _ _ _ _ ls h hP hD hS (Nat.le_refl _) (Nat.le_refl _) hd.1 hd.2 d_Re_takeKinds_105
        refine lv_icmp_gt (tgt := 105) G.1 G.2.1 d_Re_takeKinds_30 (by decide) (fun c30 => ?_) (fun c30 => ?_)
        · skip
          have h := h.1 c30
          exact J_105 y_h25 s_h25 d_h25 e_h25 H locs h hP hD hS ls (lv_sub hl [] rfl)
        · skip
          have h := h.2 c30
          refine lv_iload_n G.1 G.2.1 d_Re_takeKinds_33 rfl (lv_at hl 2 rfl) ?_
          refine lv_if_eq (tgt := 105) G.1 G.2.1 d_Re_takeKinds_34 (by decide) (fun c34 => ?_) (fun c34 => ?_)
          · skip
            have h := h.1 c34
            exact J_105 y_h25 s_h25 d_h25 e_h25 H locs h hP hD hS ls (lv_sub hl [] rfl)
          · skip
            have h := h.2 c34
            refine lv_aload_n G.1 G.2.1 d_Re_takeKinds_37 rfl (lv_at hl 0 rfl) ?_
            refine ugf (v := .int (sV s_h25 a0 5)) G hP h_a0 iRe rfl 5 (by decide) rfl q592 rfl rfl d_Re_takeKinds_38 ?_
            refine lv_if_ne (tgt := 105) G.1 G.2.1 d_Re_takeKinds_41 (by decide) (fun c41 => ?_) (fun c41 => ?_)
            · skip
              have h := h.1 c41
              exact J_105 y_h25 s_h25 d_h25 e_h25 H locs h hP hD hS ls (lv_sub hl [] rfl)
            · skip
              have h := h.2 c41
              refine lv_aload_n G.1 G.2.1 d_Re_takeKinds_44 rfl (lv_at hl 0 rfl) ?_
              obtain ⟨b_12, e_13, c_14, h⟩ := h
              refine ugf (v := .ref (ad b_12)) G hP h_a0 iRe rfl 4 (by decide) rfl q591 rfl (by show va_rf ((sO s_h25 a0 4).map ad) = _; rw [e_13]; rfl) d_Re_takeKinds_45 ?_
              refine ugf (v := .ref (ad (lk b_12 12))) G hP c_14 iWd rfl 12 (by decide) rfl q856 rfl rfl d_Re_takeKinds_48 ?_
              refine W.eq (g2 := F0 m 51 ls [.ref (ad (lk b_12 12))]) rfl ?_
              refine lv_aload_n G.1 G.2.1 d_Re_takeKinds_51 rfl (lv_at hl 0 rfl) ?_
              refine lv_bipush (v := 75) G.1 G.2.1 d_Re_takeKinds_52 (by decide) ?_
              refine ucVi (As := [.int 75]) (rest := [.ref (ad (lk b_12 12))]) G hP hD hS (cu_Re_take l D g ad y_h25 _ s_h25 a0 75 H.size h_a0 h) w9_Re_take q1321 ⟨Nat.le_of_ble_eq_true rfl, Nat.le_of_ble_eq_true rfl⟩ rfl rfl h_a0 (q := (RRe, TRe, 18)) rfl rfl hl.1 rfl (Nat.le_of_ble_eq_true rfl) rfl hd d_Re_takeKinds_54 (fun r_15 s_16 H locs h hP hD hS => ?_)
              obtain ⟨mc_22, ms_23, hr_24, h⟩ := h
              refine uaVi (As := [.int r_15]) (rest := []) G hP hD hS (ca_In_add l D g [] ad mc_22 ms_23 y_h25 _ s_16 (lk b_12 12) r_15 H.size (us H) (lk_9_12 c_14) h) w9_In_add q1380 ⟨Nat.le_of_ble_eq_true rfl, Nat.le_of_ble_eq_true rfl⟩ rfl rfl (lk_9_12 c_14) (q := (RIn, TIn, 2)) rfl rfl hl.1 rfl (Nat.le_of_ble_eq_true rfl) rfl hr_24 d_Re_takeKinds_57 (fun r_17 y_19 s_18 d_20 e_21 H locs h hP hD hS => ?_)
              have hl := lv_sub (l' := [(0, .ref (ad a0)), (2, .int x2h25), (4, .int x4h25)]) hl [0, 1, 3] rfl
              obtain ⟨hd, h⟩ := h
              refine lv_pop G.1 G.2.1 d_Re_takeKinds_60 rfl ?_
              refine lv_aload_n G.1 G.2.1 d_Re_takeKinds_61 rfl (lv_at hl 0 rfl) ?_
              obtain ⟨b_25, e_26, c_27, h⟩ := h
              refine ugf (v := .ref (ad b_25)) G hP h_a0 iRe rfl 4 (by decide) rfl q591 rfl (by show va_rf ((sO s_18 a0 4).map ad) = _; rw [e_26]; rfl) d_Re_takeKinds_62 ?_
              refine ugf (v := .ref (ad (lk b_25 12))) G hP c_27 iWd rfl 12 (by decide) rfl q856 rfl rfl d_Re_takeKinds_65 ?_
              refine lv_iload_n G.1 G.2.1 d_Re_takeKinds_68 rfl (lv_at hl 1 rfl) ?_
              refine lv_iload G.1 G.2.1 d_Re_takeKinds_69 (lv_at hl 2 rfl) ?_
              refine ucVv (As := [.int x2h25, .int x4h25]) (rest := []) G hP hD hS (cu_In_put l D g ad y_19 _ s_18 (lk b_25 12) x2h25 x4h25 H.size (lk_9_12 c_27) h) w9_In_put q1359 ⟨Nat.le_of_ble_eq_true rfl, Nat.le_of_ble_eq_true rfl⟩ rfl rfl (lk_9_12 c_27) (q := (RIn, TIn, 2)) rfl rfl hl.1 rfl (Nat.le_of_ble_eq_true rfl) rfl hd d_Re_takeKinds_71 (fun s_29 H locs h hP hD hS => ?_)
              refine lv_aload_n G.1 G.2.1 d_Re_takeKinds_74 rfl (lv_at hl 0 rfl) ?_
              refine W.eq (g2 := F0 m 75 ls [.ref (ad a0)]) rfl ?_
              refine lv_bipush (v := 44) G.1 G.2.1 d_Re_takeKinds_75 (by decide) ?_
              refine ucVi (As := [.int 44]) (rest := []) G hP hD hS (cu_Re_isSign l D g ad y_19 _ s_29 a0 44 H.size h_a0 h) w9_Re_isSign q1325 ⟨Nat.le_of_ble_eq_true rfl, Nat.le_of_ble_eq_true rfl⟩ rfl rfl h_a0 (q := (RRe, TRe, 18)) rfl rfl hl.1 rfl (Nat.le_of_ble_eq_true rfl) rfl hd d_Re_takeKinds_77 (fun r_30 s_31 H locs h hP hD hS => ?_)
              refine lv_istore_n (lv' := [(3, .int r_30), (0, .ref (ad a0)), (2, .int x2h25), (4, .int x4h25)]) G.1 G.2.1 d_Re_takeKinds_80 rfl hl (by decide) rfl (fun ls hl => ?_)
              refine lv_aload_n G.1 G.2.1 d_Re_takeKinds_81 rfl (lv_at hl 1 rfl) ?_
              refine lv_dup G.1 G.2.1 d_Re_takeKinds_82 rfl ?_
              refine ugf (v := .int (sV s_31 a0 8)) G hP h_a0 iRe rfl 8 (by decide) rfl q595 rfl rfl d_Re_takeKinds_83 ?_
              refine lv_iload_n G.1 G.2.1 d_Re_takeKinds_86 rfl (lv_at hl 0 rfl) ?_
              have J_95 : ∀ (y_j95 : Ly) (s_j95 : St) (d_j95 e_j95 : Nat) (x2j95 : Int32) (x3j95 : Int32) (x4j95 : Int32) (z1j95 : Int32) (z2j95 : Int32) (H : Heap) (locs : List Loc), wja_Re_takeKinds_95 mc ms Post K_25 a0 y_j95 s_j95 d_j95 e_j95 x2j95 x3j95 x4j95 z1j95 z2j95 → va_P D CL (ws g ad y_j95 s_j95) H → va_D A (ws g ad y_j95 s_j95) → va_S A s.heap H locs → ∀ ls, lv_has ls 5 [(0, .ref (ad a0)), (2, .int x2j95), (3, .int x3j95), (4, .int x4j95)] → W p l e (ra_Re_takeKinds mc ms) s m args below meth c H locs d_j95 e_j95 Q (F0 m 95 ls [.int z2j95, .int z1j95, .ref (ad a0)]) := by
                intro y_j95 s_j95 d_j95 e_j95 x2j95 x3j95 x4j95 z1j95 z2j95 H locs h hP hD hS ls hl
                unfold wja_Re_takeKinds_95 at h
                obtain ⟨hd, h⟩ := h
                refine lv_iadd G.1 G.2.1 d_Re_takeKinds_95 ?_
                refine upf G hP hD hS h 8 putV h_a0 iRe tRe tRe_ok nRe rfl (by decide) rfl q595 rfl rfl fV rfl rfl d_Re_takeKinds_96 (fun s_32 H locs h hP hD hS => ?_)
                refine lv_iinc (v := x4j95 + 1) (lv' := [(4, .int (x4j95 + 1)), (0, .ref (ad a0)), (2, .int x2j95), (3, .int x3j95)]) G.1 G.2.1 d_Re_takeKinds_99 hl (k := 3) rfl rfl (by decide) rfl (fun ls hl => ?_)
                refine lv_goto (tgt := 25) G.1 G.2.1 d_Re_takeKinds_102 (by decide) ?_
                have h := hK_25 y_j95 s_32 d_j95 e_j95 x2j95 x3j95 (x4j95 + 1) h
                exact ih_25 y_j95 s_32 d_j95 e_j95 x2j95 x3j95 (x4j95 + 1) (Nat.lt_of_lt_of_le h.2 (Nat.le_of_lt_succ hμ_25)) h.1 H locs hP hD hS ls (lv_sub hl [1, 2, 3, 0] rfl)
              refine lv_if_eq (tgt := 94) G.1 G.2.1 d_Re_takeKinds_87 (by decide) (fun c87 => ?_) (fun c87 => ?_)
              · skip
                have h := h.1 c87
                refine lv_iconst (v := 0) G.1 G.2.1 d_Re_takeKinds_94 (by decide) ?_
                exact J_95 y_19 s_31 (d_h25 + d_20) (e_h25 + e_21) x2h25 r_30 x4h25 (sV s_31 a0 8) 0 H locs h hP hD hS ls (lv_sub hl [1, 2, 0, 3] rfl)
              · skip
                have h := h.2 c87
                refine lv_iconst (v := 1) G.1 G.2.1 d_Re_takeKinds_90 (by decide) ?_
                refine lv_goto (tgt := 95) G.1 G.2.1 d_Re_takeKinds_91 (by decide) ?_
                exact J_95 y_19 s_31 (d_h25 + d_20) (e_h25 + e_21) x2h25 r_30 x4h25 (sV s_31 a0 8) 1 H locs h hP hD hS ls (lv_sub hl [1, 2, 0, 3] rfl)
    exact L_25 _ y_j21 s_j21 d_j21 e_j21 x2j21 z0j21 1 (Nat.lt_succ_self _) hI_25 H locs hP hD hS ls (lv_sub hl [2, 3, 1, 0] rfl)
  refine lv_if_ne (tgt := 20) G.1 G.2.1 d_Re_takeKinds_13 (by decide) (fun c13 => ?_) (fun c13 => ?_)
  · skip
    have h := h.1 c13
    refine lv_iconst (v := 0) G.1 G.2.1 d_Re_takeKinds_20 (by decide) ?_
    exact J_21 y_6 s_5 (0 + d_7) (0 + e_8) r_4 0 H locs h hP hD hS ls (lv_sub hl [1, 0] rfl)
  · skip
    have h := h.2 c13
    refine lv_iconst (v := 1) G.1 G.2.1 d_Re_takeKinds_16 (by decide) ?_
    refine lv_goto (tgt := 21) G.1 G.2.1 d_Re_takeKinds_17 (by decide) ?_
    exact J_21 y_6 s_5 (0 + d_7) (0 + e_8) r_4 1 H locs h hP hD hS ls (lv_sub hl [1, 0] rfl)
theorem q1389 : Cond.methodLink "ClassWorks$Reader" 278 y_Re_takeKinds ∈ lw_ok := lw_okmem (List.mem_of_getElem? (i := 1389) (by decide +kernel)) rfl
theorem q1392 : Cond.code y_Re_takeKinds b_Re_takeKinds 5 (none) ∈ lw_ok := lw_okmem (List.mem_of_getElem? (i := 1392) (by decide +kernel)) rfl
theorem q1391 : Cond.instanceMethod y_Re_takeKinds ∈ lw_ok := lw_okmem (List.mem_of_getElem? (i := 1391) (by decide +kernel)) rfl
theorem q31 : Cond.selects y_Re_takeKinds.cls y_Re_takeKinds y_Re_takeKinds ∈ lw_ok := lw_okmem (List.mem_of_getElem? (i := 31) (by decide +kernel)) rfl
theorem w9_Re_takeKinds : CWv y_Re_takeKinds b_Re_takeKinds 5 (none) 1 ∧ Cond.instanceMethod y_Re_takeKinds ∈ lw_ok ∧ Cond.selects y_Re_takeKinds.cls y_Re_takeKinds y_Re_takeKinds ∈ lw_ok := ⟨⟨q1392, q340, by decide +kernel, by decide +kernel, by decide +kernel⟩, q1391, q31⟩
def y_Re_frameLine : MethodName := ⟨"ClassWorks$Reader", "frameLine", "()V"⟩
abbrev b_Re_frameLine : ByteArray := prog_8_method_27_code
theorem d_Re_frameLine_0 : decode b_Re_frameLine 0 = .ok (.aload_n 0, 1) := by decide +kernel
theorem d_Re_frameLine_1 : decode b_Re_frameLine 1 = .ok (.getfield 58, 3) := by decide +kernel
theorem d_Re_frameLine_4 : decode b_Re_frameLine 4 = .ok (.ifCond .lt 18, 3) := by decide +kernel
theorem d_Re_frameLine_7 : decode b_Re_frameLine 7 = .ok (.aload_n 0, 1) := by decide +kernel
theorem d_Re_frameLine_8 : decode b_Re_frameLine 8 = .ok (.iconst 1, 1) := by decide +kernel
theorem d_Re_frameLine_9 : decode b_Re_frameLine 9 = .ok (.aload_n 0, 1) := by decide +kernel
theorem d_Re_frameLine_10 : decode b_Re_frameLine 10 = .ok (.getfield 68, 3) := by decide +kernel
theorem d_Re_frameLine_13 : decode b_Re_frameLine 13 = .ok (.getfield 131, 3) := by decide +kernel
theorem d_Re_frameLine_16 : decode b_Re_frameLine 16 = .ok (.iconst 0, 1) := by decide +kernel
theorem d_Re_frameLine_17 : decode b_Re_frameLine 17 = .ok (.iaload, 1) := by decide +kernel
theorem d_Re_frameLine_18 : decode b_Re_frameLine 18 = .ok (.invokevirtual 96, 3) := by decide +kernel
theorem d_Re_frameLine_21 : decode b_Re_frameLine 21 = .ok (.return_, 1) := by decide +kernel
theorem d_Re_frameLine_22 : decode b_Re_frameLine 22 = .ok (.aload_n 0, 1) := by decide +kernel
theorem d_Re_frameLine_23 : decode b_Re_frameLine 23 = .ok (.iconst 1, 1) := by decide +kernel
theorem d_Re_frameLine_24 : decode b_Re_frameLine 24 = .ok (.putfield 27, 3) := by decide +kernel
theorem d_Re_frameLine_27 : decode b_Re_frameLine 27 = .ok (.aload_n 0, 1) := by decide +kernel
theorem d_Re_frameLine_28 : decode b_Re_frameLine 28 = .ok (.aload_n 0, 1) := by decide +kernel
theorem d_Re_frameLine_29 : decode b_Re_frameLine 29 = .ok (.getfield 72, 3) := by decide +kernel
theorem d_Re_frameLine_32 : decode b_Re_frameLine 32 = .ok (.getfield 275, 3) := by decide +kernel
theorem d_Re_frameLine_35 : decode b_Re_frameLine 35 = .ok (.getfield 230, 3) := by decide +kernel
theorem d_Re_frameLine_38 : decode b_Re_frameLine 38 = .ok (.putfield 58, 3) := by decide +kernel
theorem d_Re_frameLine_41 : decode b_Re_frameLine 41 = .ok (.aload_n 0, 1) := by decide +kernel
theorem d_Re_frameLine_42 : decode b_Re_frameLine 42 = .ok (.aload_n 0, 1) := by decide +kernel
theorem d_Re_frameLine_43 : decode b_Re_frameLine 43 = .ok (.getfield 68, 3) := by decide +kernel
theorem d_Re_frameLine_46 : decode b_Re_frameLine 46 = .ok (.getfield 131, 3) := by decide +kernel
theorem d_Re_frameLine_49 : decode b_Re_frameLine 49 = .ok (.iconst 0, 1) := by decide +kernel
theorem d_Re_frameLine_50 : decode b_Re_frameLine 50 = .ok (.iaload, 1) := by decide +kernel
theorem d_Re_frameLine_51 : decode b_Re_frameLine 51 = .ok (.putfield 61, 3) := by decide +kernel
theorem d_Re_frameLine_54 : decode b_Re_frameLine 54 = .ok (.aload_n 0, 1) := by decide +kernel
theorem d_Re_frameLine_55 : decode b_Re_frameLine 55 = .ok (.aload_n 0, 1) := by decide +kernel
theorem d_Re_frameLine_56 : decode b_Re_frameLine 56 = .ok (.bipush 59, 2) := by decide +kernel
theorem d_Re_frameLine_58 : decode b_Re_frameLine 58 = .ok (.invokevirtual 151, 3) := by decide +kernel
theorem d_Re_frameLine_61 : decode b_Re_frameLine 61 = .ok (.invokevirtual 278, 3) := by decide +kernel
theorem d_Re_frameLine_64 : decode b_Re_frameLine 64 = .ok (.aload_n 0, 1) := by decide +kernel
theorem d_Re_frameLine_65 : decode b_Re_frameLine 65 = .ok (.bipush 59, 2) := by decide +kernel
theorem d_Re_frameLine_67 : decode b_Re_frameLine 67 = .ok (.invokevirtual 147, 3) := by decide +kernel
theorem d_Re_frameLine_70 : decode b_Re_frameLine 70 = .ok (.pop, 1) := by decide +kernel
theorem d_Re_frameLine_71 : decode b_Re_frameLine 71 = .ok (.aload_n 0, 1) := by decide +kernel
theorem d_Re_frameLine_72 : decode b_Re_frameLine 72 = .ok (.aload_n 0, 1) := by decide +kernel
theorem d_Re_frameLine_73 : decode b_Re_frameLine 73 = .ok (.getfield 68, 3) := by decide +kernel
theorem d_Re_frameLine_76 : decode b_Re_frameLine 76 = .ok (.getfield 134, 3) := by decide +kernel
theorem d_Re_frameLine_79 : decode b_Re_frameLine 79 = .ok (.aload_n 0, 1) := by decide +kernel
theorem d_Re_frameLine_80 : decode b_Re_frameLine 80 = .ok (.getfield 27, 3) := by decide +kernel
theorem d_Re_frameLine_83 : decode b_Re_frameLine 83 = .ok (.iaload, 1) := by decide +kernel
theorem d_Re_frameLine_84 : decode b_Re_frameLine 84 = .ok (.ifCond .ne 7, 3) := by decide +kernel
theorem d_Re_frameLine_87 : decode b_Re_frameLine 87 = .ok (.iconst 1, 1) := by decide +kernel
theorem d_Re_frameLine_88 : decode b_Re_frameLine 88 = .ok (.goto 4, 3) := by decide +kernel
theorem d_Re_frameLine_91 : decode b_Re_frameLine 91 = .ok (.iconst 0, 1) := by decide +kernel
theorem d_Re_frameLine_92 : decode b_Re_frameLine 92 = .ok (.invokevirtual 278, 3) := by decide +kernel
theorem d_Re_frameLine_95 : decode b_Re_frameLine 95 = .ok (.aload_n 0, 1) := by decide +kernel
theorem d_Re_frameLine_96 : decode b_Re_frameLine 96 = .ok (.bipush 36, 2) := by decide +kernel
theorem d_Re_frameLine_98 : decode b_Re_frameLine 98 = .ok (.invokevirtual 147, 3) := by decide +kernel
theorem d_Re_frameLine_101 : decode b_Re_frameLine 101 = .ok (.pop, 1) := by decide +kernel
theorem d_Re_frameLine_102 : decode b_Re_frameLine 102 = .ok (.return_, 1) := by decide +kernel
abbrev ra_Re_frameLine (mc ms : Nat) : Room := { frames := 6, cells := mc, slots := ms, locals := 445 }
def wja_Re_frameLine_92 (mc ms : Nat) (Post : Ly → St → Nat → Nat → Prop) (a0 : Nat) (y_j92 : Ly) (s_j92 : St) (d_j92 e_j92 : Nat) (z1j92 : Int32) : Prop := (d_j92 ≤ mc ∧ e_j92 ≤ ms) ∧ ∃ mc_26 ms_27 : Nat, (d_j92 + mc_26 ≤ mc ∧ e_j92 + ms_27 ≤ ms) ∧ wa_Re_takeKinds mc_26 ms_27 y_j92 (fun (y_23 : Ly) (s_22 : St) (d_24 e_25 : Nat) => (d_j92 + d_24 ≤ mc ∧ e_j92 + e_25 ≤ ms) ∧ wu_Re_take y_23 (fun (s_30 : St) (r_29 : Int32) => Post y_23 s_30 (d_j92 + d_24) (e_j92 + e_25)) s_22 a0 36) s_j92 a0 z1j92
def wa_Re_frameLine (mc ms : Nat) (y : Ly) (Post : Ly → St → Nat → Nat → Prop) (σ : St) (a0 : Nat) : Prop := (((sV σ a0 16) < 0 → xP (uV σ a0 8 1) (fun s_1 : St => ∃ b_2 : Nat, sO s_1 a0 4 = some b_2 ∧ cl b_2 = 9 ∧ xP (uV s_1 a0 16 (sV s_1 (lk b_2 12) 1)) (fun s_5 : St => xA y s_5 (lk a0 3) 2 0 (fun x_6 : Int32 => xP (uV s_5 a0 17 x_6) (fun s_7 : St => wu_Re_isSign y (fun (s_9 : St) (r_8 : Int32) => ∃ mc_15 ms_16 : Nat, (0 + mc_15 ≤ mc ∧ 0 + ms_16 ≤ ms) ∧ wa_Re_takeKinds mc_15 ms_16 y (fun (y_12 : Ly) (s_11 : St) (d_13 e_14 : Nat) => (0 + d_13 ≤ mc ∧ 0 + e_14 ≤ ms) ∧ wu_Re_take y_12 (fun (s_19 : St) (r_18 : Int32) => xA y_12 s_19 (lk a0 3) 0 (sV s_19 a0 8) (fun x_20 : Int32 => ((¬ x_20 = 0 → wja_Re_frameLine_92 mc ms Post a0 y_12 s_19 (0 + d_13) (0 + e_14) 0) ∧ (x_20 = 0 → wja_Re_frameLine_92 mc ms Post a0 y_12 s_19 (0 + d_13) (0 + e_14) 1)))) s_11 a0 59) s_9 a0 r_8) s_7 a0 59))))) ∧ (¬ ((sV σ a0 16) < 0) → xA y σ (lk a0 3) 2 0 (fun x_31 : Int32 => wu_Re_refuse y (fun (s_33 : St) => Post y s_33 0 0) σ a0 1 x_31)))
set_option maxHeartbeats 4000000 in
set_option maxRecDepth 100000 in
theorem ca_Re_frameLine (l : Launch) (D : va_G) (g : Nat → ClassId) (ad : Nat → Nat) (mc ms : Nat) (y : Ly) (Post : Ly → St → Nat → Nat → Prop) (σ : St) (a0 : Nat) (sz uz : Nat) (h_a0 : cl a0 = 6) (h : wa_Re_frameLine mc ms y Post σ a0) : Met l y_Re_frameLine (mw y_Re_frameLine b_Re_frameLine 1 (none)) (ra_Re_frameLine mc ms) (PCu g D [] [.ref (ad a0)] sz uz (ws g ad y σ)) (va_Qv (fun (u : Ly × St × Nat × Nat) => Post u.1 u.2.1 u.2.2.1 u.2.2.2) (QU D (va_A (ws g ad y σ) sz) (fun u => ws g ad u.1 u.2.1) sz uz (fun u => u.2.2.1) (fun u => u.2.2.2)) (va_A (ws g ad y σ) sz)) mc ms (va_A (ws g ad y σ) sz) := by
  refine ofVu (by decide +kernel) (Nat.le_of_ble_eq_true rfl) ?_
  intro p e s m args below meth c A Q ls H locs G hsz hP hD hS hl hret
  subst hsz
  have hl : lv_has ls 1 [(0, .ref (ad a0))] := hl
  have hd : 0 ≤ mc ∧ 0 ≤ ms := ⟨Nat.zero_le _, Nat.zero_le _⟩
  unfold wa_Re_frameLine at h
  refine lv_aload_n G.1 G.2.1 d_Re_frameLine_0 rfl (lv_at hl 0 rfl) ?_
  refine ugf (v := .int (sV σ a0 16)) G hP h_a0 iRe rfl 16 (by decide) rfl q603 rfl rfl d_Re_frameLine_1 ?_
  refine lv_if_lt (tgt := 22) G.1 G.2.1 d_Re_frameLine_4 (by decide) (fun c4 => ?_) (fun c4 => ?_)
  · skip
    have h := h.1 c4
    refine lv_aload_n G.1 G.2.1 d_Re_frameLine_22 rfl (lv_at hl 0 rfl) ?_
    refine lv_iconst (v := 1) G.1 G.2.1 d_Re_frameLine_23 (by decide) ?_
    refine upf G hP hD hS h 8 putV h_a0 iRe tRe tRe_ok nRe rfl (by decide) rfl q595 rfl rfl fV rfl rfl d_Re_frameLine_24 (fun s_1 H locs h hP hD hS => ?_)
    refine lv_aload_n G.1 G.2.1 d_Re_frameLine_27 rfl (lv_at hl 0 rfl) ?_
    refine lv_aload_n G.1 G.2.1 d_Re_frameLine_28 rfl (lv_at hl 0 rfl) ?_
    obtain ⟨b_2, e_3, c_4, h⟩ := h
    refine ugf (v := .ref (ad b_2)) G hP h_a0 iRe rfl 4 (by decide) rfl q591 rfl (by show va_rf ((sO s_1 a0 4).map ad) = _; rw [e_3]; rfl) d_Re_frameLine_29 ?_
    refine ugf (v := .ref (ad (lk b_2 12))) G hP c_4 iWd rfl 12 (by decide) rfl q856 rfl rfl d_Re_frameLine_32 ?_
    refine ugf (v := .int (sV s_1 (lk b_2 12) 1)) G hP (lk_9_12 c_4) iIn rfl 1 (by decide) rfl q396 rfl rfl d_Re_frameLine_35 ?_
    refine W.eq (g2 := F0 m 38 ls [.int (sV s_1 (lk b_2 12) 1), .ref (ad a0)]) rfl ?_
    refine upf G hP hD hS h 16 putV h_a0 iRe tRe tRe_ok nRe rfl (by decide) rfl q603 rfl rfl fV rfl rfl d_Re_frameLine_38 (fun s_5 H locs h hP hD hS => ?_)
    refine lv_aload_n G.1 G.2.1 d_Re_frameLine_41 rfl (lv_at hl 0 rfl) ?_
    refine lv_aload_n G.1 G.2.1 d_Re_frameLine_42 rfl (lv_at hl 0 rfl) ?_
    refine ugf (v := .ref (ad (lk a0 3))) G hP h_a0 iRe rfl 3 (by decide) rfl q590 rfl rfl d_Re_frameLine_43 ?_
    refine ugf (v := .ref (yP y (lk a0 3) 2)) G hP (lk_6_3 h_a0) iWo rfl 2 (by decide) rfl q552 rfl rfl d_Re_frameLine_46 ?_
    refine lv_iconst (v := 0) G.1 G.2.1 d_Re_frameLine_49 (by decide) ?_
    refine uiald G hP (kdp (lk_6_3 h_a0) rfl) (typ (lk_6_3 h_a0) rfl) h d_Re_frameLine_50 (fun x_6 h => ?_)
    refine upf G hP hD hS h 17 putV h_a0 iRe tRe tRe_ok nRe rfl (by decide) rfl q604 rfl rfl fV rfl rfl d_Re_frameLine_51 (fun s_7 H locs h hP hD hS => ?_)
    refine lv_aload_n G.1 G.2.1 d_Re_frameLine_54 rfl (lv_at hl 0 rfl) ?_
    refine lv_aload_n G.1 G.2.1 d_Re_frameLine_55 rfl (lv_at hl 0 rfl) ?_
    refine lv_bipush (v := 59) G.1 G.2.1 d_Re_frameLine_56 (by decide) ?_
    refine ucVi (As := [.int 59]) (rest := [.ref (ad a0)]) G hP hD hS (cu_Re_isSign l D g ad y _ s_7 a0 59 H.size h_a0 h) w9_Re_isSign q1325 ⟨Nat.le_of_ble_eq_true rfl, Nat.le_of_ble_eq_true rfl⟩ rfl rfl h_a0 (q := (RRe, TRe, 18)) rfl rfl hl.1 rfl (Nat.le_of_ble_eq_true rfl) rfl hd d_Re_frameLine_58 (fun r_8 s_9 H locs h hP hD hS => ?_)
    refine W.eq (g2 := F0 m 61 ls [.int r_8, .ref (ad a0)]) rfl ?_
    obtain ⟨mc_15, ms_16, hr_17, h⟩ := h
    refine uaVv (As := [.int r_8]) (rest := []) G hP hD hS (ca_Re_takeKinds l D g ad mc_15 ms_16 y _ s_9 a0 r_8 H.size (us H) h_a0 h) w9_Re_takeKinds q1389 ⟨Nat.le_of_ble_eq_true rfl, Nat.le_of_ble_eq_true rfl⟩ rfl rfl h_a0 (q := (RRe, TRe, 18)) rfl rfl hl.1 rfl (Nat.le_of_ble_eq_true rfl) rfl hr_17 d_Re_frameLine_61 (fun y_12 s_11 d_13 e_14 H locs h hP hD hS => ?_)
    obtain ⟨hd, h⟩ := h
    refine lv_aload_n G.1 G.2.1 d_Re_frameLine_64 rfl (lv_at hl 0 rfl) ?_
    refine lv_bipush (v := 59) G.1 G.2.1 d_Re_frameLine_65 (by decide) ?_
    refine ucVi (As := [.int 59]) (rest := []) G hP hD hS (cu_Re_take l D g ad y_12 _ s_11 a0 59 H.size h_a0 h) w9_Re_take q1321 ⟨Nat.le_of_ble_eq_true rfl, Nat.le_of_ble_eq_true rfl⟩ rfl rfl h_a0 (q := (RRe, TRe, 18)) rfl rfl hl.1 rfl (Nat.le_of_ble_eq_true rfl) rfl hd d_Re_frameLine_67 (fun r_18 s_19 H locs h hP hD hS => ?_)
    refine lv_pop G.1 G.2.1 d_Re_frameLine_70 rfl ?_
    refine lv_aload_n G.1 G.2.1 d_Re_frameLine_71 rfl (lv_at hl 0 rfl) ?_
    refine lv_aload_n G.1 G.2.1 d_Re_frameLine_72 rfl (lv_at hl 0 rfl) ?_
    refine ugf (v := .ref (ad (lk a0 3))) G hP h_a0 iRe rfl 3 (by decide) rfl q590 rfl rfl d_Re_frameLine_73 ?_
    refine ugf (v := .ref (yP y_12 (lk a0 3) 0)) G hP (lk_6_3 h_a0) iWo rfl 0 (by decide) rfl q548 rfl rfl d_Re_frameLine_76 ?_
    refine lv_aload_n G.1 G.2.1 d_Re_frameLine_79 rfl (lv_at hl 0 rfl) ?_
    refine ugf (v := .int (sV s_19 a0 8)) G hP h_a0 iRe rfl 8 (by decide) rfl q595 rfl rfl d_Re_frameLine_80 ?_
    refine uiald G hP (kdp (lk_6_3 h_a0) rfl) (typ (lk_6_3 h_a0) rfl) h d_Re_frameLine_83 (fun x_20 h => ?_)
    have J_92 : ∀ (y_j92 : Ly) (s_j92 : St) (d_j92 e_j92 : Nat) (z1j92 : Int32) (H : Heap) (locs : List Loc), wja_Re_frameLine_92 mc ms Post a0 y_j92 s_j92 d_j92 e_j92 z1j92 → va_P D CL (ws g ad y_j92 s_j92) H → va_D A (ws g ad y_j92 s_j92) → va_S A s.heap H locs → ∀ ls, lv_has ls 1 [(0, .ref (ad a0))] → W p l e (ra_Re_frameLine mc ms) s m args below meth c H locs d_j92 e_j92 Q (F0 m 92 ls [.int z1j92, .ref (ad a0)]) := by
      intro y_j92 s_j92 d_j92 e_j92 z1j92 H locs h hP hD hS ls hl
      unfold wja_Re_frameLine_92 at h
      obtain ⟨hd, h⟩ := h
      obtain ⟨mc_26, ms_27, hr_28, h⟩ := h
      refine uaVv (As := [.int z1j92]) (rest := []) G hP hD hS (ca_Re_takeKinds l D g ad mc_26 ms_27 y_j92 _ s_j92 a0 z1j92 H.size (us H) h_a0 h) w9_Re_takeKinds q1389 ⟨Nat.le_of_ble_eq_true rfl, Nat.le_of_ble_eq_true rfl⟩ rfl rfl h_a0 (q := (RRe, TRe, 18)) rfl rfl hl.1 rfl (Nat.le_of_ble_eq_true rfl) rfl hr_28 d_Re_frameLine_92 (fun y_23 s_22 d_24 e_25 H locs h hP hD hS => ?_)
      obtain ⟨hd, h⟩ := h
      refine lv_aload_n G.1 G.2.1 d_Re_frameLine_95 rfl (lv_at hl 0 rfl) ?_
      refine lv_bipush (v := 36) G.1 G.2.1 d_Re_frameLine_96 (by decide) ?_
      refine ucVi (As := [.int 36]) (rest := []) G hP hD hS (cu_Re_take l D g ad y_23 _ s_22 a0 36 H.size h_a0 h) w9_Re_take q1321 ⟨Nat.le_of_ble_eq_true rfl, Nat.le_of_ble_eq_true rfl⟩ rfl rfl h_a0 (q := (RRe, TRe, 18)) rfl rfl hl.1 rfl (Nat.le_of_ble_eq_true rfl) rfl hd d_Re_frameLine_98 (fun r_29 s_30 H locs h hP hD hS => ?_)
      refine lv_pop G.1 G.2.1 d_Re_frameLine_101 rfl ?_
      exact hret (y_23, s_30, d_j92 + d_24, e_j92 + e_25) _ _ _ _ _ ls h hP hD hS (Nat.le_refl _) (Nat.le_refl _) hd.1 hd.2 d_Re_frameLine_102
    refine W.eq (g2 := F0 m 84 ls [.int x_20, .ref (ad a0)]) rfl ?_
    refine lv_if_ne (tgt := 91) G.1 G.2.1 d_Re_frameLine_84 (by decide) (fun c84 => ?_) (fun c84 => ?_)
    · skip
      have h := h.1 c84
      refine lv_iconst (v := 0) G.1 G.2.1 d_Re_frameLine_91 (by decide) ?_
      exact J_92 y_12 s_19 (0 + d_13) (0 + e_14) 0 H locs h hP hD hS ls (lv_sub hl [0] rfl)
    · skip
      have h := h.2 c84
      refine lv_iconst (v := 1) G.1 G.2.1 d_Re_frameLine_87 (by decide) ?_
      refine lv_goto (tgt := 92) G.1 G.2.1 d_Re_frameLine_88 (by decide) ?_
      exact J_92 y_12 s_19 (0 + d_13) (0 + e_14) 1 H locs h hP hD hS ls (lv_sub hl [0] rfl)
  · skip
    have h := h.2 c4
    refine lv_aload_n G.1 G.2.1 d_Re_frameLine_7 rfl (lv_at hl 0 rfl) ?_
    refine lv_iconst (v := 1) G.1 G.2.1 d_Re_frameLine_8 (by decide) ?_
    refine lv_aload_n G.1 G.2.1 d_Re_frameLine_9 rfl (lv_at hl 0 rfl) ?_
    refine ugf (v := .ref (ad (lk a0 3))) G hP h_a0 iRe rfl 3 (by decide) rfl q590 rfl rfl d_Re_frameLine_10 ?_
    refine ugf (v := .ref (yP y (lk a0 3) 2)) G hP (lk_6_3 h_a0) iWo rfl 2 (by decide) rfl q552 rfl rfl d_Re_frameLine_13 ?_
    refine lv_iconst (v := 0) G.1 G.2.1 d_Re_frameLine_16 (by decide) ?_
    refine uiald G hP (kdp (lk_6_3 h_a0) rfl) (typ (lk_6_3 h_a0) rfl) h d_Re_frameLine_17 (fun x_31 h => ?_)
    refine ucVv (As := [.int 1, .int x_31]) (rest := []) G hP hD hS (cu_Re_refuse l D g ad y _ σ a0 1 x_31 H.size h_a0 h) w9_Re_refuse q1317 ⟨Nat.le_of_ble_eq_true rfl, Nat.le_of_ble_eq_true rfl⟩ rfl rfl h_a0 (q := (RRe, TRe, 18)) rfl rfl hl.1 rfl (Nat.le_of_ble_eq_true rfl) rfl hd d_Re_frameLine_18 (fun s_33 H locs h hP hD hS => ?_)
    refine W.eq (g2 := F0 m 21 ls []) rfl ?_
    exact hret (y, s_33, 0, 0) _ _ _ _ _ ls h hP hD hS (Nat.le_refl _) (Nat.le_refl _) hd.1 hd.2 d_Re_frameLine_21
def y_Re_addUse : MethodName := ⟨"ClassWorks$Reader", "addUse", "(III)V"⟩
abbrev b_Re_addUse : ByteArray := prog_8_method_30_code
theorem d_Re_addUse_0 : decode b_Re_addUse 0 = .ok (.aload_n 0, 1) := by decide +kernel
theorem d_Re_addUse_1 : decode b_Re_addUse 1 = .ok (.getfield 52, 3) := by decide +kernel
theorem d_Re_addUse_4 : decode b_Re_addUse 4 = .ok (.iload_n 1, 1) := by decide +kernel
theorem d_Re_addUse_5 : decode b_Re_addUse 5 = .ok (.invokevirtual 202, 3) := by decide +kernel
theorem d_Re_addUse_8 : decode b_Re_addUse 8 = .ok (.pop, 1) := by decide +kernel
theorem d_Re_addUse_9 : decode b_Re_addUse 9 = .ok (.aload_n 0, 1) := by decide +kernel
theorem d_Re_addUse_10 : decode b_Re_addUse 10 = .ok (.getfield 52, 3) := by decide +kernel
theorem d_Re_addUse_13 : decode b_Re_addUse 13 = .ok (.aload_n 0, 1) := by decide +kernel
theorem d_Re_addUse_14 : decode b_Re_addUse 14 = .ok (.getfield 68, 3) := by decide +kernel
theorem d_Re_addUse_17 : decode b_Re_addUse 17 = .ok (.getfield 131, 3) := by decide +kernel
theorem d_Re_addUse_20 : decode b_Re_addUse 20 = .ok (.iconst 0, 1) := by decide +kernel
theorem d_Re_addUse_21 : decode b_Re_addUse 21 = .ok (.iaload, 1) := by decide +kernel
theorem d_Re_addUse_22 : decode b_Re_addUse 22 = .ok (.invokevirtual 202, 3) := by decide +kernel
theorem d_Re_addUse_25 : decode b_Re_addUse 25 = .ok (.pop, 1) := by decide +kernel
theorem d_Re_addUse_26 : decode b_Re_addUse 26 = .ok (.aload_n 0, 1) := by decide +kernel
theorem d_Re_addUse_27 : decode b_Re_addUse 27 = .ok (.getfield 52, 3) := by decide +kernel
theorem d_Re_addUse_30 : decode b_Re_addUse 30 = .ok (.iload_n 2, 1) := by decide +kernel
theorem d_Re_addUse_31 : decode b_Re_addUse 31 = .ok (.invokevirtual 202, 3) := by decide +kernel
theorem d_Re_addUse_34 : decode b_Re_addUse 34 = .ok (.pop, 1) := by decide +kernel
theorem d_Re_addUse_35 : decode b_Re_addUse 35 = .ok (.aload_n 0, 1) := by decide +kernel
theorem d_Re_addUse_36 : decode b_Re_addUse 36 = .ok (.getfield 52, 3) := by decide +kernel
theorem d_Re_addUse_39 : decode b_Re_addUse 39 = .ok (.iload_n 3, 1) := by decide +kernel
theorem d_Re_addUse_40 : decode b_Re_addUse 40 = .ok (.invokevirtual 202, 3) := by decide +kernel
theorem d_Re_addUse_43 : decode b_Re_addUse 43 = .ok (.pop, 1) := by decide +kernel
theorem d_Re_addUse_44 : decode b_Re_addUse 44 = .ok (.return_, 1) := by decide +kernel
abbrev ra_Re_addUse (mc ms : Nat) : Room := { frames := 5, cells := mc, slots := ms, locals := 421 }
def wa_Re_addUse (mc ms : Nat) (y : Ly) (Post : Ly → St → Nat → Nat → Prop) (σ : St) (a0 : Nat) (v1 : Int32) (v2 : Int32) (v3 : Int32) : Prop := ∃ mc_6 ms_7 : Nat, (0 + mc_6 ≤ mc ∧ 0 + ms_7 ≤ ms) ∧ wa_In_add mc_6 ms_7 y (fun (y_3 : Ly) (s_2 : St) (r_1 : Int32) (d_4 e_5 : Nat) => (0 + d_4 ≤ mc ∧ 0 + e_5 ≤ ms) ∧ xA y_3 s_2 (lk a0 3) 2 0 (fun x_9 : Int32 => ∃ mc_15 ms_16 : Nat, (0 + d_4 + mc_15 ≤ mc ∧ 0 + e_5 + ms_16 ≤ ms) ∧ wa_In_add mc_15 ms_16 y_3 (fun (y_12 : Ly) (s_11 : St) (r_10 : Int32) (d_13 e_14 : Nat) => (0 + d_4 + d_13 ≤ mc ∧ 0 + e_5 + e_14 ≤ ms) ∧ ∃ mc_23 ms_24 : Nat, (0 + d_4 + d_13 + mc_23 ≤ mc ∧ 0 + e_5 + e_14 + ms_24 ≤ ms) ∧ wa_In_add mc_23 ms_24 y_12 (fun (y_20 : Ly) (s_19 : St) (r_18 : Int32) (d_21 e_22 : Nat) => (0 + d_4 + d_13 + d_21 ≤ mc ∧ 0 + e_5 + e_14 + e_22 ≤ ms) ∧ ∃ mc_31 ms_32 : Nat, (0 + d_4 + d_13 + d_21 + mc_31 ≤ mc ∧ 0 + e_5 + e_14 + e_22 + ms_32 ≤ ms) ∧ wa_In_add mc_31 ms_32 y_20 (fun (y_28 : Ly) (s_27 : St) (r_26 : Int32) (d_29 e_30 : Nat) => (0 + d_4 + d_13 + d_21 + d_29 ≤ mc ∧ 0 + e_5 + e_14 + e_22 + e_30 ≤ ms) ∧ Post y_28 s_27 (0 + d_4 + d_13 + d_21 + d_29) (0 + e_5 + e_14 + e_22 + e_30)) s_19 (lk a0 14) v3) s_11 (lk a0 14) v2) s_2 (lk a0 14) x_9)) σ (lk a0 14) v1
set_option maxHeartbeats 4000000 in
set_option maxRecDepth 100000 in
theorem ca_Re_addUse (l : Launch) (D : va_G) (g : Nat → ClassId) (ad : Nat → Nat) (mc ms : Nat) (y : Ly) (Post : Ly → St → Nat → Nat → Prop) (σ : St) (a0 : Nat) (v1 : Int32) (v2 : Int32) (v3 : Int32) (sz uz : Nat) (h_a0 : cl a0 = 6) (h : wa_Re_addUse mc ms y Post σ a0 v1 v2 v3) : Met l y_Re_addUse (mw y_Re_addUse b_Re_addUse 4 (none)) (ra_Re_addUse mc ms) (PCu g D [] [.ref (ad a0), .int v1, .int v2, .int v3] sz uz (ws g ad y σ)) (va_Qv (fun (u : Ly × St × Nat × Nat) => Post u.1 u.2.1 u.2.2.1 u.2.2.2) (QU D (va_A (ws g ad y σ) sz) (fun u => ws g ad u.1 u.2.1) sz uz (fun u => u.2.2.1) (fun u => u.2.2.2)) (va_A (ws g ad y σ) sz)) mc ms (va_A (ws g ad y σ) sz) := by
  refine ofVu (by decide +kernel) (Nat.le_of_ble_eq_true rfl) ?_
  intro p e s m args below meth c A Q ls H locs G hsz hP hD hS hl hret
  subst hsz
  have hl : lv_has ls 4 [(0, .ref (ad a0)), (1, .int v1), (2, .int v2), (3, .int v3)] := hl
  have hd : 0 ≤ mc ∧ 0 ≤ ms := ⟨Nat.zero_le _, Nat.zero_le _⟩
  unfold wa_Re_addUse at h
  refine lv_aload_n G.1 G.2.1 d_Re_addUse_0 rfl (lv_at hl 0 rfl) ?_
  refine ugf (v := .ref (ad (lk a0 14))) G hP h_a0 iRe rfl 14 (by decide) rfl q601 rfl rfl d_Re_addUse_1 ?_
  refine lv_iload_n G.1 G.2.1 d_Re_addUse_4 rfl (lv_at hl 1 rfl) ?_
  obtain ⟨mc_6, ms_7, hr_8, h⟩ := h
  refine uaVi (As := [.int v1]) (rest := []) G hP hD hS (ca_In_add l D g [] ad mc_6 ms_7 y _ σ (lk a0 14) v1 H.size (us H) (lk_6_14 h_a0) h) w9_In_add q1380 ⟨Nat.le_of_ble_eq_true rfl, Nat.le_of_ble_eq_true rfl⟩ rfl rfl (lk_6_14 h_a0) (q := (RIn, TIn, 2)) rfl rfl hl.1 rfl (Nat.le_of_ble_eq_true rfl) rfl hr_8 d_Re_addUse_5 (fun r_1 y_3 s_2 d_4 e_5 H locs h hP hD hS => ?_)
  have hl := lv_sub (l' := [(0, .ref (ad a0)), (2, .int v2), (3, .int v3)]) hl [0, 2, 3] rfl
  obtain ⟨hd, h⟩ := h
  refine lv_pop G.1 G.2.1 d_Re_addUse_8 rfl ?_
  refine lv_aload_n G.1 G.2.1 d_Re_addUse_9 rfl (lv_at hl 0 rfl) ?_
  refine ugf (v := .ref (ad (lk a0 14))) G hP h_a0 iRe rfl 14 (by decide) rfl q601 rfl rfl d_Re_addUse_10 ?_
  refine lv_aload_n G.1 G.2.1 d_Re_addUse_13 rfl (lv_at hl 0 rfl) ?_
  refine ugf (v := .ref (ad (lk a0 3))) G hP h_a0 iRe rfl 3 (by decide) rfl q590 rfl rfl d_Re_addUse_14 ?_
  refine ugf (v := .ref (yP y_3 (lk a0 3) 2)) G hP (lk_6_3 h_a0) iWo rfl 2 (by decide) rfl q552 rfl rfl d_Re_addUse_17 ?_
  refine lv_iconst (v := 0) G.1 G.2.1 d_Re_addUse_20 (by decide) ?_
  refine W.eq (g2 := F0 m 21 ls [.int 0, .ref (yP y_3 (lk a0 3) 2), .ref (ad (lk a0 14))]) rfl ?_
  refine uiald G hP (kdp (lk_6_3 h_a0) rfl) (typ (lk_6_3 h_a0) rfl) h d_Re_addUse_21 (fun x_9 h => ?_)
  obtain ⟨mc_15, ms_16, hr_17, h⟩ := h
  refine uaVi (As := [.int x_9]) (rest := []) G hP hD hS (ca_In_add l D g [] ad mc_15 ms_16 y_3 _ s_2 (lk a0 14) x_9 H.size (us H) (lk_6_14 h_a0) h) w9_In_add q1380 ⟨Nat.le_of_ble_eq_true rfl, Nat.le_of_ble_eq_true rfl⟩ rfl rfl (lk_6_14 h_a0) (q := (RIn, TIn, 2)) rfl rfl hl.1 rfl (Nat.le_of_ble_eq_true rfl) rfl hr_17 d_Re_addUse_22 (fun r_10 y_12 s_11 d_13 e_14 H locs h hP hD hS => ?_)
  obtain ⟨hd, h⟩ := h
  refine lv_pop G.1 G.2.1 d_Re_addUse_25 rfl ?_
  refine lv_aload_n G.1 G.2.1 d_Re_addUse_26 rfl (lv_at hl 0 rfl) ?_
  refine ugf (v := .ref (ad (lk a0 14))) G hP h_a0 iRe rfl 14 (by decide) rfl q601 rfl rfl d_Re_addUse_27 ?_
  refine lv_iload_n G.1 G.2.1 d_Re_addUse_30 rfl (lv_at hl 1 rfl) ?_
  obtain ⟨mc_23, ms_24, hr_25, h⟩ := h
  refine uaVi (As := [.int v2]) (rest := []) G hP hD hS (ca_In_add l D g [] ad mc_23 ms_24 y_12 _ s_11 (lk a0 14) v2 H.size (us H) (lk_6_14 h_a0) h) w9_In_add q1380 ⟨Nat.le_of_ble_eq_true rfl, Nat.le_of_ble_eq_true rfl⟩ rfl rfl (lk_6_14 h_a0) (q := (RIn, TIn, 2)) rfl rfl hl.1 rfl (Nat.le_of_ble_eq_true rfl) rfl hr_25 d_Re_addUse_31 (fun r_18 y_20 s_19 d_21 e_22 H locs h hP hD hS => ?_)
  have hl := lv_sub (l' := [(0, .ref (ad a0)), (3, .int v3)]) hl [0, 2] rfl
  obtain ⟨hd, h⟩ := h
  refine lv_pop G.1 G.2.1 d_Re_addUse_34 rfl ?_
  refine lv_aload_n G.1 G.2.1 d_Re_addUse_35 rfl (lv_at hl 0 rfl) ?_
  refine ugf (v := .ref (ad (lk a0 14))) G hP h_a0 iRe rfl 14 (by decide) rfl q601 rfl rfl d_Re_addUse_36 ?_
  refine lv_iload_n G.1 G.2.1 d_Re_addUse_39 rfl (lv_at hl 1 rfl) ?_
  obtain ⟨mc_31, ms_32, hr_33, h⟩ := h
  refine uaVi (As := [.int v3]) (rest := []) G hP hD hS (ca_In_add l D g [] ad mc_31 ms_32 y_20 _ s_19 (lk a0 14) v3 H.size (us H) (lk_6_14 h_a0) h) w9_In_add q1380 ⟨Nat.le_of_ble_eq_true rfl, Nat.le_of_ble_eq_true rfl⟩ rfl rfl (lk_6_14 h_a0) (q := (RIn, TIn, 2)) rfl rfl hl.1 rfl (Nat.le_of_ble_eq_true rfl) rfl hr_33 d_Re_addUse_40 (fun r_26 y_28 s_27 d_29 e_30 H locs h hP hD hS => ?_)
  have hl := lv_sub (l' := []) hl [] rfl
  obtain ⟨hd, h⟩ := h
  refine W.eq (g2 := F0 m 43 ls [.int r_26]) rfl ?_
  refine lv_pop G.1 G.2.1 d_Re_addUse_43 rfl ?_
  exact hret (y_28, s_27, 0 + d_4 + d_13 + d_21 + d_29, 0 + e_5 + e_14 + e_22 + e_30) _ _ _ _ _ ls h hP hD hS (Nat.le_refl _) (Nat.le_refl _) hd.1 hd.2 d_Re_addUse_44
theorem q1397 : Cond.methodLink "ClassWorks$Reader" 282 y_Re_addUse ∈ lw_ok := lw_okmem (List.mem_of_getElem? (i := 1397) (by decide +kernel)) rfl
theorem q1400 : Cond.code y_Re_addUse b_Re_addUse 4 (none) ∈ lw_ok := lw_okmem (List.mem_of_getElem? (i := 1400) (by decide +kernel)) rfl
theorem q1399 : Cond.instanceMethod y_Re_addUse ∈ lw_ok := lw_okmem (List.mem_of_getElem? (i := 1399) (by decide +kernel)) rfl
theorem q33 : Cond.selects y_Re_addUse.cls y_Re_addUse y_Re_addUse ∈ lw_ok := lw_okmem (List.mem_of_getElem? (i := 33) (by decide +kernel)) rfl
theorem w9_Re_addUse : CWv y_Re_addUse b_Re_addUse 4 (none) 3 ∧ Cond.instanceMethod y_Re_addUse ∈ lw_ok ∧ Cond.selects y_Re_addUse.cls y_Re_addUse y_Re_addUse ∈ lw_ok := ⟨⟨q1400, q340, by decide +kernel, by decide +kernel, by decide +kernel⟩, q1399, q33⟩
def y_Re_handlerLine : MethodName := ⟨"ClassWorks$Reader", "handlerLine", "()V"⟩
abbrev b_Re_handlerLine : ByteArray := prog_8_method_29_code
theorem d_Re_handlerLine_0 : decode b_Re_handlerLine 0 = .ok (.aload_n 0, 1) := by decide +kernel
theorem d_Re_handlerLine_1 : decode b_Re_handlerLine 1 = .ok (.iconst 1, 1) := by decide +kernel
theorem d_Re_handlerLine_2 : decode b_Re_handlerLine 2 = .ok (.putfield 27, 3) := by decide +kernel
theorem d_Re_handlerLine_5 : decode b_Re_handlerLine 5 = .ok (.iconst 0, 1) := by decide +kernel
theorem d_Re_handlerLine_6 : decode b_Re_handlerLine 6 = .ok (.istore_n 1, 1) := by decide +kernel
theorem d_Re_handlerLine_7 : decode b_Re_handlerLine 7 = .ok (.iload_n 1, 1) := by decide +kernel
theorem d_Re_handlerLine_8 : decode b_Re_handlerLine 8 = .ok (.iconst 3, 1) := by decide +kernel
theorem d_Re_handlerLine_9 : decode b_Re_handlerLine 9 = .ok (.if_icmp .ge 33, 3) := by decide +kernel
theorem d_Re_handlerLine_12 : decode b_Re_handlerLine 12 = .ok (.aload_n 0, 1) := by decide +kernel
theorem d_Re_handlerLine_13 : decode b_Re_handlerLine 13 = .ok (.bipush 110, 2) := by decide +kernel
theorem d_Re_handlerLine_15 : decode b_Re_handlerLine 15 = .ok (.invokevirtual 147, 3) := by decide +kernel
theorem d_Re_handlerLine_18 : decode b_Re_handlerLine 18 = .ok (.istore_n 2, 1) := by decide +kernel
theorem d_Re_handlerLine_19 : decode b_Re_handlerLine 19 = .ok (.aload_n 0, 1) := by decide +kernel
theorem d_Re_handlerLine_20 : decode b_Re_handlerLine 20 = .ok (.iload_n 2, 1) := by decide +kernel
theorem d_Re_handlerLine_21 : decode b_Re_handlerLine 21 = .ok (.iconst 2, 1) := by decide +kernel
theorem d_Re_handlerLine_22 : decode b_Re_handlerLine 22 = .ok (.aload_n 0, 1) := by decide +kernel
theorem d_Re_handlerLine_23 : decode b_Re_handlerLine 23 = .ok (.getfield 72, 3) := by decide +kernel
theorem d_Re_handlerLine_26 : decode b_Re_handlerLine 26 = .ok (.getfield 233, 3) := by decide +kernel
theorem d_Re_handlerLine_29 : decode b_Re_handlerLine 29 = .ok (.iconst 0, 1) := by decide +kernel
theorem d_Re_handlerLine_30 : decode b_Re_handlerLine 30 = .ok (.invokevirtual 202, 3) := by decide +kernel
theorem d_Re_handlerLine_33 : decode b_Re_handlerLine 33 = .ok (.invokevirtual 282, 3) := by decide +kernel
theorem d_Re_handlerLine_36 : decode b_Re_handlerLine 36 = .ok (.iinc 1 1, 3) := by decide +kernel
theorem d_Re_handlerLine_39 : decode b_Re_handlerLine 39 = .ok (.goto (-32), 3) := by decide +kernel
theorem d_Re_handlerLine_42 : decode b_Re_handlerLine 42 = .ok (.aload_n 0, 1) := by decide +kernel
theorem d_Re_handlerLine_43 : decode b_Re_handlerLine 43 = .ok (.getfield 72, 3) := by decide +kernel
theorem d_Re_handlerLine_46 : decode b_Re_handlerLine 46 = .ok (.getfield 233, 3) := by decide +kernel
theorem d_Re_handlerLine_49 : decode b_Re_handlerLine 49 = .ok (.aload_n 0, 1) := by decide +kernel
theorem d_Re_handlerLine_50 : decode b_Re_handlerLine 50 = .ok (.bipush 104, 2) := by decide +kernel
theorem d_Re_handlerLine_52 : decode b_Re_handlerLine 52 = .ok (.invokevirtual 147, 3) := by decide +kernel
theorem d_Re_handlerLine_55 : decode b_Re_handlerLine 55 = .ok (.invokevirtual 202, 3) := by decide +kernel
theorem d_Re_handlerLine_58 : decode b_Re_handlerLine 58 = .ok (.pop, 1) := by decide +kernel
theorem d_Re_handlerLine_59 : decode b_Re_handlerLine 59 = .ok (.aload_n 0, 1) := by decide +kernel
theorem d_Re_handlerLine_60 : decode b_Re_handlerLine 60 = .ok (.bipush 36, 2) := by decide +kernel
theorem d_Re_handlerLine_62 : decode b_Re_handlerLine 62 = .ok (.invokevirtual 147, 3) := by decide +kernel
theorem d_Re_handlerLine_65 : decode b_Re_handlerLine 65 = .ok (.pop, 1) := by decide +kernel
theorem d_Re_handlerLine_66 : decode b_Re_handlerLine 66 = .ok (.aload_n 0, 1) := by decide +kernel
theorem d_Re_handlerLine_67 : decode b_Re_handlerLine 67 = .ok (.getfield 72, 3) := by decide +kernel
theorem d_Re_handlerLine_70 : decode b_Re_handlerLine 70 = .ok (.getfield 224, 3) := by decide +kernel
theorem d_Re_handlerLine_73 : decode b_Re_handlerLine 73 = .ok (.getfield 236, 3) := by decide +kernel
theorem d_Re_handlerLine_76 : decode b_Re_handlerLine 76 = .ok (.aload_n 0, 1) := by decide +kernel
theorem d_Re_handlerLine_77 : decode b_Re_handlerLine 77 = .ok (.getfield 33, 3) := by decide +kernel
theorem d_Re_handlerLine_80 : decode b_Re_handlerLine 80 = .ok (.bipush 7, 2) := by decide +kernel
theorem d_Re_handlerLine_82 : decode b_Re_handlerLine 82 = .ok (.iadd, 1) := by decide +kernel
theorem d_Re_handlerLine_83 : decode b_Re_handlerLine 83 = .ok (.iaload, 1) := by decide +kernel
theorem d_Re_handlerLine_84 : decode b_Re_handlerLine 84 = .ok (.istore_n 1, 1) := by decide +kernel
theorem d_Re_handlerLine_85 : decode b_Re_handlerLine 85 = .ok (.iload_n 1, 1) := by decide +kernel
theorem d_Re_handlerLine_86 : decode b_Re_handlerLine 86 = .ok (.bipush 8, 2) := by decide +kernel
theorem d_Re_handlerLine_88 : decode b_Re_handlerLine 88 = .ok (.if_icmp .ne 9, 3) := by decide +kernel
theorem d_Re_handlerLine_91 : decode b_Re_handlerLine 91 = .ok (.aload_n 0, 1) := by decide +kernel
theorem d_Re_handlerLine_92 : decode b_Re_handlerLine 92 = .ok (.bipush 12, 2) := by decide +kernel
theorem d_Re_handlerLine_94 : decode b_Re_handlerLine 94 = .ok (.invokevirtual 170, 3) := by decide +kernel
theorem d_Re_handlerLine_97 : decode b_Re_handlerLine 97 = .ok (.aload_n 0, 1) := by decide +kernel
theorem d_Re_handlerLine_98 : decode b_Re_handlerLine 98 = .ok (.getfield 72, 3) := by decide +kernel
theorem d_Re_handlerLine_101 : decode b_Re_handlerLine 101 = .ok (.getfield 224, 3) := by decide +kernel
theorem d_Re_handlerLine_104 : decode b_Re_handlerLine 104 = .ok (.aload_n 0, 1) := by decide +kernel
theorem d_Re_handlerLine_105 : decode b_Re_handlerLine 105 = .ok (.getfield 33, 3) := by decide +kernel
theorem d_Re_handlerLine_108 : decode b_Re_handlerLine 108 = .ok (.bipush 7, 2) := by decide +kernel
theorem d_Re_handlerLine_110 : decode b_Re_handlerLine 110 = .ok (.iadd, 1) := by decide +kernel
theorem d_Re_handlerLine_111 : decode b_Re_handlerLine 111 = .ok (.iload_n 1, 1) := by decide +kernel
theorem d_Re_handlerLine_112 : decode b_Re_handlerLine 112 = .ok (.iconst 1, 1) := by decide +kernel
theorem d_Re_handlerLine_113 : decode b_Re_handlerLine 113 = .ok (.iadd, 1) := by decide +kernel
theorem d_Re_handlerLine_114 : decode b_Re_handlerLine 114 = .ok (.invokevirtual 242, 3) := by decide +kernel
theorem d_Re_handlerLine_117 : decode b_Re_handlerLine 117 = .ok (.return_, 1) := by decide +kernel
abbrev ra_Re_handlerLine (mc ms : Nat) : Room := { frames := 6, cells := mc, slots := ms, locals := 444 }
def wja_Re_handlerLine_97 (mc ms : Nat) (Post : Ly → St → Nat → Nat → Prop) (a0 : Nat) (y_j97 : Ly) (s_j97 : St) (d_j97 e_j97 : Nat) (x1j97 : Int32) : Prop := (d_j97 ≤ mc ∧ e_j97 ≤ ms) ∧ ∃ b_21 : Nat, sO s_j97 a0 4 = some b_21 ∧ cl b_21 = 9 ∧ wu_In_put y_j97 (fun (s_25 : St) => Post y_j97 s_25 d_j97 e_j97) s_j97 (lk b_21 9) ((sV s_j97 a0 10) + 7) (x1j97 + 1)
def wba_Re_handlerLine_7 (mc ms : Nat) (Post : Ly → St → Nat → Nat → Prop) (K_7 : Ly → St → Nat → Nat → Int32 → Prop) (a0 : Nat) (y_h7 : Ly) (s_h7 : St) (d_h7 e_h7 : Nat) (x1h7 : Int32) : Prop := (d_h7 ≤ mc ∧ e_h7 ≤ ms) ∧ ((3 ≤ x1h7 → ∃ b_2 : Nat, sO s_h7 a0 4 = some b_2 ∧ cl b_2 = 9 ∧ wu_Re_take y_h7 (fun (s_6 : St) (r_5 : Int32) => ∃ mc_12 ms_13 : Nat, (d_h7 + mc_12 ≤ mc ∧ e_h7 + ms_13 ≤ ms) ∧ wa_In_add mc_12 ms_13 y_h7 (fun (y_9 : Ly) (s_8 : St) (r_7 : Int32) (d_10 e_11 : Nat) => (d_h7 + d_10 ≤ mc ∧ e_h7 + e_11 ≤ ms) ∧ wu_Re_take y_9 (fun (s_16 : St) (r_15 : Int32) => ∃ b_17 : Nat, sO s_16 a0 4 = some b_17 ∧ cl b_17 = 9 ∧ xA y_9 s_16 (lk b_17 9) 0 ((sV s_16 a0 10) + 7) (fun x_20 : Int32 => ((¬ x_20 = 8 → wja_Re_handlerLine_97 mc ms Post a0 y_9 s_16 (d_h7 + d_10) (e_h7 + e_11) x_20) ∧ (x_20 = 8 → wu_Re_note y_9 (fun (s_27 : St) => wja_Re_handlerLine_97 mc ms Post a0 y_9 s_27 (d_h7 + d_10) (e_h7 + e_11) x_20) s_16 a0 12)))) s_8 a0 36) s_6 (lk b_2 11) r_5) s_h7 a0 104) ∧ (¬ (3 ≤ x1h7) → wu_Re_take y_h7 (fun (s_29 : St) (r_28 : Int32) => ∃ b_30 : Nat, sO s_29 a0 4 = some b_30 ∧ cl b_30 = 9 ∧ ∃ mc_38 ms_39 : Nat, (d_h7 + mc_38 ≤ mc ∧ e_h7 + ms_39 ≤ ms) ∧ wa_In_add mc_38 ms_39 y_h7 (fun (y_35 : Ly) (s_34 : St) (r_33 : Int32) (d_36 e_37 : Nat) => (d_h7 + d_36 ≤ mc ∧ e_h7 + e_37 ≤ ms) ∧ ∃ mc_46 ms_47 : Nat, (d_h7 + d_36 + mc_46 ≤ mc ∧ e_h7 + e_37 + ms_47 ≤ ms) ∧ wa_Re_addUse mc_46 ms_47 y_35 (fun (y_43 : Ly) (s_42 : St) (d_44 e_45 : Nat) => (d_h7 + d_36 + d_44 ≤ mc ∧ e_h7 + e_37 + e_45 ≤ ms) ∧ K_7 y_43 s_42 (d_h7 + d_36 + d_44) (e_h7 + e_37 + e_45) (x1h7 + 1)) s_34 a0 r_28 2 r_33) s_29 (lk b_30 11) 0) s_h7 a0 110))
def wla_Re_handlerLine_7 (mc ms : Nat) (Post : Ly → St → Nat → Nat → Prop) (a0 : Nat) (y_h7 : Ly) (s_h7 : St) (d_h7 e_h7 : Nat) (x1h7 : Int32) : Prop := ∃ (I : Ly → St → Nat → Nat → Int32 → Prop) (μ : Ly → St → Nat → Nat → Int32 → Nat), I y_h7 s_h7 d_h7 e_h7 x1h7 ∧ ∀ (u1 : Ly) (u2 : St) (u3 u4 : Nat) (t0 : Int32), I u1 u2 u3 u4 t0 → wba_Re_handlerLine_7 mc ms Post (fun z1 z2 z3 z4 t0q => I z1 z2 z3 z4 t0q ∧ μ z1 z2 z3 z4 t0q < μ u1 u2 u3 u4 t0) a0 u1 u2 u3 u4 t0
def wa_Re_handlerLine (mc ms : Nat) (y : Ly) (Post : Ly → St → Nat → Nat → Prop) (σ : St) (a0 : Nat) : Prop := xP (uV σ a0 8 1) (fun s_1 : St => wla_Re_handlerLine_7 mc ms Post a0 y s_1 0 0 0)
set_option maxHeartbeats 4000000 in
set_option maxRecDepth 100000 in
theorem ca_Re_handlerLine (l : Launch) (D : va_G) (g : Nat → ClassId) (ad : Nat → Nat) (mc ms : Nat) (y : Ly) (Post : Ly → St → Nat → Nat → Prop) (σ : St) (a0 : Nat) (sz uz : Nat) (h_a0 : cl a0 = 6) (h : wa_Re_handlerLine mc ms y Post σ a0) : Met l y_Re_handlerLine (mw y_Re_handlerLine b_Re_handlerLine 3 (none)) (ra_Re_handlerLine mc ms) (PCu g D [] [.ref (ad a0)] sz uz (ws g ad y σ)) (va_Qv (fun (u : Ly × St × Nat × Nat) => Post u.1 u.2.1 u.2.2.1 u.2.2.2) (QU D (va_A (ws g ad y σ) sz) (fun u => ws g ad u.1 u.2.1) sz uz (fun u => u.2.2.1) (fun u => u.2.2.2)) (va_A (ws g ad y σ) sz)) mc ms (va_A (ws g ad y σ) sz) := by
  refine ofVu (by decide +kernel) (Nat.le_of_ble_eq_true rfl) ?_
  intro p e s m args below meth c A Q ls H locs G hsz hP hD hS hl hret
  subst hsz
  have hl : lv_has ls 3 [(0, .ref (ad a0))] := hl
  have hd : 0 ≤ mc ∧ 0 ≤ ms := ⟨Nat.zero_le _, Nat.zero_le _⟩
  unfold wa_Re_handlerLine at h
  refine lv_aload_n G.1 G.2.1 d_Re_handlerLine_0 rfl (lv_at hl 0 rfl) ?_
  refine lv_iconst (v := 1) G.1 G.2.1 d_Re_handlerLine_1 (by decide) ?_
  refine upf G hP hD hS h 8 putV h_a0 iRe tRe tRe_ok nRe rfl (by decide) rfl q595 rfl rfl fV rfl rfl d_Re_handlerLine_2 (fun s_1 H locs h hP hD hS => ?_)
  refine lv_iconst (v := 0) G.1 G.2.1 d_Re_handlerLine_5 (by decide) ?_
  refine lv_istore_n (lv' := [(1, .int 0), (0, .ref (ad a0))]) G.1 G.2.1 d_Re_handlerLine_6 rfl hl (by decide) rfl (fun ls hl => ?_)
  unfold wla_Re_handlerLine_7 at h
  obtain ⟨I_7, μ_7, hI_7, hB_7⟩ := h
  have L_7 : ∀ (n_7 : Nat) (y_h7 : Ly) (s_h7 : St) (d_h7 e_h7 : Nat) (x1h7 : Int32), μ_7 y_h7 s_h7 d_h7 e_h7 x1h7 < n_7 → I_7 y_h7 s_h7 d_h7 e_h7 x1h7 → ∀ (H : Heap) (locs : List Loc), va_P D CL (ws g ad y_h7 s_h7) H → va_D A (ws g ad y_h7 s_h7) → va_S A s.heap H locs → ∀ ls, lv_has ls 3 [(0, .ref (ad a0)), (1, .int x1h7)] → W p l e (ra_Re_handlerLine mc ms) s m args below meth c H locs d_h7 e_h7 Q (F0 m 7 ls []) := by
    intro n_7
    induction n_7 with
    | zero => intro y_h7 s_h7 d_h7 e_h7 x1h7 hμ; exact absurd hμ (Nat.not_lt_zero _)
    | succ n_7 ih_7 =>
      intro y_h7 s_h7 d_h7 e_h7 x1h7 hμ_7 hJ H locs hP hD hS ls hl
      obtain ⟨K_7, hK_7, h⟩ : ∃ K : Ly → St → Nat → Nat → Int32 → Prop, (∀ z1 z2 z3 z4 (t0 : Int32), K z1 z2 z3 z4 t0 → I_7 z1 z2 z3 z4 t0 ∧ μ_7 z1 z2 z3 z4 t0 < μ_7 y_h7 s_h7 d_h7 e_h7 x1h7) ∧ wba_Re_handlerLine_7 mc ms Post K a0 y_h7 s_h7 d_h7 e_h7 x1h7 := ⟨_, fun _ _ _ _ _ h => h, hB_7 y_h7 s_h7 d_h7 e_h7 x1h7 hJ⟩
      unfold wba_Re_handlerLine_7 at h
      obtain ⟨hd, h⟩ := h
      refine lv_iload_n G.1 G.2.1 d_Re_handlerLine_7 rfl (lv_at hl 1 rfl) ?_
      refine lv_iconst (v := 3) G.1 G.2.1 d_Re_handlerLine_8 (by decide) ?_
      refine lv_icmp_ge (tgt := 42) G.1 G.2.1 d_Re_handlerLine_9 (by decide) (fun c9 => ?_) (fun c9 => ?_)
      · skip
        have h := h.1 c9
        refine lv_aload_n G.1 G.2.1 d_Re_handlerLine_42 rfl (lv_at hl 0 rfl) ?_
        obtain ⟨b_2, e_3, c_4, h⟩ := h
        refine ugf (v := .ref (ad b_2)) G hP h_a0 iRe rfl 4 (by decide) rfl q591 rfl (by show va_rf ((sO s_h7 a0 4).map ad) = _; rw [e_3]; rfl) d_Re_handlerLine_43 ?_
        refine ugf (v := .ref (ad (lk b_2 11))) G hP c_4 iWd rfl 11 (by decide) rfl q851 rfl rfl d_Re_handlerLine_46 ?_
        refine lv_aload_n G.1 G.2.1 d_Re_handlerLine_49 rfl (lv_at hl 0 rfl) ?_
        refine lv_bipush (v := 104) G.1 G.2.1 d_Re_handlerLine_50 (by decide) ?_
        refine ucVi (As := [.int 104]) (rest := [.ref (ad (lk b_2 11))]) G hP hD hS (cu_Re_take l D g ad y_h7 _ s_h7 a0 104 H.size h_a0 h) w9_Re_take q1321 ⟨Nat.le_of_ble_eq_true rfl, Nat.le_of_ble_eq_true rfl⟩ rfl rfl h_a0 (q := (RRe, TRe, 18)) rfl rfl hl.1 rfl (Nat.le_of_ble_eq_true rfl) rfl hd d_Re_handlerLine_52 (fun r_5 s_6 H locs h hP hD hS => ?_)
        obtain ⟨mc_12, ms_13, hr_14, h⟩ := h
        refine uaVi (As := [.int r_5]) (rest := []) G hP hD hS (ca_In_add l D g [] ad mc_12 ms_13 y_h7 _ s_6 (lk b_2 11) r_5 H.size (us H) (lk_9_11 c_4) h) w9_In_add q1380 ⟨Nat.le_of_ble_eq_true rfl, Nat.le_of_ble_eq_true rfl⟩ rfl rfl (lk_9_11 c_4) (q := (RIn, TIn, 2)) rfl rfl hl.1 rfl (Nat.le_of_ble_eq_true rfl) rfl hr_14 d_Re_handlerLine_55 (fun r_7 y_9 s_8 d_10 e_11 H locs h hP hD hS => ?_)
        have hl := lv_sub (l' := [(0, .ref (ad a0))]) hl [0] rfl
        obtain ⟨hd, h⟩ := h
        refine lv_pop G.1 G.2.1 d_Re_handlerLine_58 rfl ?_
        refine W.eq (g2 := F0 m 59 ls []) rfl ?_
        refine lv_aload_n G.1 G.2.1 d_Re_handlerLine_59 rfl (lv_at hl 0 rfl) ?_
        refine lv_bipush (v := 36) G.1 G.2.1 d_Re_handlerLine_60 (by decide) ?_
        refine ucVi (As := [.int 36]) (rest := []) G hP hD hS (cu_Re_take l D g ad y_9 _ s_8 a0 36 H.size h_a0 h) w9_Re_take q1321 ⟨Nat.le_of_ble_eq_true rfl, Nat.le_of_ble_eq_true rfl⟩ rfl rfl h_a0 (q := (RRe, TRe, 18)) rfl rfl hl.1 rfl (Nat.le_of_ble_eq_true rfl) rfl hd d_Re_handlerLine_62 (fun r_15 s_16 H locs h hP hD hS => ?_)
        refine lv_pop G.1 G.2.1 d_Re_handlerLine_65 rfl ?_
        refine lv_aload_n G.1 G.2.1 d_Re_handlerLine_66 rfl (lv_at hl 0 rfl) ?_
        obtain ⟨b_17, e_18, c_19, h⟩ := h
        refine ugf (v := .ref (ad b_17)) G hP h_a0 iRe rfl 4 (by decide) rfl q591 rfl (by show va_rf ((sO s_16 a0 4).map ad) = _; rw [e_18]; rfl) d_Re_handlerLine_67 ?_
        refine ugf (v := .ref (ad (lk b_17 9))) G hP c_19 iWd rfl 9 (by decide) rfl q840 rfl rfl d_Re_handlerLine_70 ?_
        refine ugf (v := .ref (yP y_9 (lk b_17 9) 0)) G hP (lk_9_9 c_19) iIn rfl 0 (by decide) rfl q387 rfl rfl d_Re_handlerLine_73 ?_
        refine lv_aload_n G.1 G.2.1 d_Re_handlerLine_76 rfl (lv_at hl 0 rfl) ?_
        refine ugf (v := .int (sV s_16 a0 10)) G hP h_a0 iRe rfl 10 (by decide) rfl q597 rfl rfl d_Re_handlerLine_77 ?_
        refine lv_bipush (v := 7) G.1 G.2.1 d_Re_handlerLine_80 (by decide) ?_
        refine lv_iadd G.1 G.2.1 d_Re_handlerLine_82 ?_
        refine W.eq (g2 := F0 m 83 ls [.int ((sV s_16 a0 10) + 7), .ref (yP y_9 (lk b_17 9) 0)]) rfl ?_
        refine uiald G hP (kdp (lk_9_9 c_19) rfl) (typ (lk_9_9 c_19) rfl) h d_Re_handlerLine_83 (fun x_20 h => ?_)
        refine lv_istore_n (lv' := [(1, .int x_20), (0, .ref (ad a0))]) G.1 G.2.1 d_Re_handlerLine_84 rfl hl (by decide) rfl (fun ls hl => ?_)
        refine lv_iload_n G.1 G.2.1 d_Re_handlerLine_85 rfl (lv_at hl 0 rfl) ?_
        refine lv_bipush (v := 8) G.1 G.2.1 d_Re_handlerLine_86 (by decide) ?_
        have J_97 : ∀ (y_j97 : Ly) (s_j97 : St) (d_j97 e_j97 : Nat) (x1j97 : Int32) (H : Heap) (locs : List Loc), wja_Re_handlerLine_97 mc ms Post a0 y_j97 s_j97 d_j97 e_j97 x1j97 → va_P D CL (ws g ad y_j97 s_j97) H → va_D A (ws g ad y_j97 s_j97) → va_S A s.heap H locs → ∀ ls, lv_has ls 3 [(0, .ref (ad a0)), (1, .int x1j97)] → W p l e (ra_Re_handlerLine mc ms) s m args below meth c H locs d_j97 e_j97 Q (F0 m 97 ls []) := by
          intro y_j97 s_j97 d_j97 e_j97 x1j97 H locs h hP hD hS ls hl
          unfold wja_Re_handlerLine_97 at h
          obtain ⟨hd, h⟩ := h
          refine lv_aload_n G.1 G.2.1 d_Re_handlerLine_97 rfl (lv_at hl 0 rfl) ?_
          obtain ⟨b_21, e_22, c_23, h⟩ := h
          refine ugf (v := .ref (ad b_21)) G hP h_a0 iRe rfl 4 (by decide) rfl q591 rfl (by show va_rf ((sO s_j97 a0 4).map ad) = _; rw [e_22]; rfl) d_Re_handlerLine_98 ?_
          refine ugf (v := .ref (ad (lk b_21 9))) G hP c_23 iWd rfl 9 (by decide) rfl q840 rfl rfl d_Re_handlerLine_101 ?_
          refine lv_aload_n G.1 G.2.1 d_Re_handlerLine_104 rfl (lv_at hl 0 rfl) ?_
          refine ugf (v := .int (sV s_j97 a0 10)) G hP h_a0 iRe rfl 10 (by decide) rfl q597 rfl rfl d_Re_handlerLine_105 ?_
          refine lv_bipush (v := 7) G.1 G.2.1 d_Re_handlerLine_108 (by decide) ?_
          refine lv_iadd G.1 G.2.1 d_Re_handlerLine_110 ?_
          refine lv_iload_n G.1 G.2.1 d_Re_handlerLine_111 rfl (lv_at hl 1 rfl) ?_
          refine lv_iconst (v := 1) G.1 G.2.1 d_Re_handlerLine_112 (by decide) ?_
          refine lv_iadd G.1 G.2.1 d_Re_handlerLine_113 ?_
          refine ucVv (As := [.int ((sV s_j97 a0 10) + 7), .int (x1j97 + 1)]) (rest := []) G hP hD hS (cu_In_put l D g ad y_j97 _ s_j97 (lk b_21 9) ((sV s_j97 a0 10) + 7) (x1j97 + 1) H.size (lk_9_9 c_23) h) w9_In_put q1359 ⟨Nat.le_of_ble_eq_true rfl, Nat.le_of_ble_eq_true rfl⟩ rfl rfl (lk_9_9 c_23) (q := (RIn, TIn, 2)) rfl rfl hl.1 rfl (Nat.le_of_ble_eq_true rfl) rfl hd d_Re_handlerLine_114 (fun s_25 H locs h hP hD hS => ?_)
          refine W.eq (g2 := F0 m 117 ls []) rfl ?_
          exact hret (y_j97, s_25, d_j97, e_j97) _ _ _ _ _ ls h hP hD hS (Nat.le_refl _) (Nat.le_refl _) hd.1 hd.2 d_Re_handlerLine_117
        refine lv_icmp_ne (tgt := 97) G.1 G.2.1 d_Re_handlerLine_88 (by decide) (fun c88 => ?_) (fun c88 => ?_)
        · skip
          have h := h.1 c88
          exact J_97 y_9 s_16 (d_h7 + d_10) (e_h7 + e_11) x_20 H locs h hP hD hS ls (lv_sub hl [1, 0] rfl)
        · skip
          have h := h.2 c88
          refine lv_aload_n G.1 G.2.1 d_Re_handlerLine_91 rfl (lv_at hl 1 rfl) ?_
          refine lv_bipush (v := 12) G.1 G.2.1 d_Re_handlerLine_92 (by decide) ?_
          refine ucVv (As := [.int 12]) (rest := []) G hP hD hS (cu_Re_note l D g ad y_9 _ s_16 a0 12 H.size h_a0 h) w9_Re_note q1337 ⟨Nat.le_of_ble_eq_true rfl, Nat.le_of_ble_eq_true rfl⟩ rfl rfl h_a0 (q := (RRe, TRe, 18)) rfl rfl hl.1 rfl (Nat.le_of_ble_eq_true rfl) rfl hd d_Re_handlerLine_94 (fun s_27 H locs h hP hD hS => ?_)
          exact J_97 y_9 s_27 (d_h7 + d_10) (e_h7 + e_11) x_20 H locs h hP hD hS ls (lv_sub hl [1, 0] rfl)
      · skip
        have h := h.2 c9
        refine lv_aload_n G.1 G.2.1 d_Re_handlerLine_12 rfl (lv_at hl 0 rfl) ?_
        refine lv_bipush (v := 110) G.1 G.2.1 d_Re_handlerLine_13 (by decide) ?_
        refine ucVi (As := [.int 110]) (rest := []) G hP hD hS (cu_Re_take l D g ad y_h7 _ s_h7 a0 110 H.size h_a0 h) w9_Re_take q1321 ⟨Nat.le_of_ble_eq_true rfl, Nat.le_of_ble_eq_true rfl⟩ rfl rfl h_a0 (q := (RRe, TRe, 18)) rfl rfl hl.1 rfl (Nat.le_of_ble_eq_true rfl) rfl hd d_Re_handlerLine_15 (fun r_28 s_29 H locs h hP hD hS => ?_)
        refine lv_istore_n (lv' := [(2, .int r_28), (0, .ref (ad a0)), (1, .int x1h7)]) G.1 G.2.1 d_Re_handlerLine_18 rfl hl (by decide) rfl (fun ls hl => ?_)
        refine lv_aload_n G.1 G.2.1 d_Re_handlerLine_19 rfl (lv_at hl 1 rfl) ?_
        refine lv_iload_n G.1 G.2.1 d_Re_handlerLine_20 rfl (lv_at hl 0 rfl) ?_
        refine lv_iconst (v := 2) G.1 G.2.1 d_Re_handlerLine_21 (by decide) ?_
        refine lv_aload_n G.1 G.2.1 d_Re_handlerLine_22 rfl (lv_at hl 1 rfl) ?_
        refine W.eq (g2 := F0 m 23 ls [.ref (ad a0), .int 2, .int r_28, .ref (ad a0)]) rfl ?_
        obtain ⟨b_30, e_31, c_32, h⟩ := h
        refine ugf (v := .ref (ad b_30)) G hP h_a0 iRe rfl 4 (by decide) rfl q591 rfl (by show va_rf ((sO s_29 a0 4).map ad) = _; rw [e_31]; rfl) d_Re_handlerLine_23 ?_
        refine ugf (v := .ref (ad (lk b_30 11))) G hP c_32 iWd rfl 11 (by decide) rfl q851 rfl rfl d_Re_handlerLine_26 ?_
        refine lv_iconst (v := 0) G.1 G.2.1 d_Re_handlerLine_29 (by decide) ?_
        obtain ⟨mc_38, ms_39, hr_40, h⟩ := h
        refine uaVi (As := [.int 0]) (rest := [.int 2, .int r_28, .ref (ad a0)]) G hP hD hS (ca_In_add l D g [] ad mc_38 ms_39 y_h7 _ s_29 (lk b_30 11) 0 H.size (us H) (lk_9_11 c_32) h) w9_In_add q1380 ⟨Nat.le_of_ble_eq_true rfl, Nat.le_of_ble_eq_true rfl⟩ rfl rfl (lk_9_11 c_32) (q := (RIn, TIn, 2)) rfl rfl hl.1 rfl (Nat.le_of_ble_eq_true rfl) rfl hr_40 d_Re_handlerLine_30 (fun r_33 y_35 s_34 d_36 e_37 H locs h hP hD hS => ?_)
        have hl := lv_sub (l' := [(0, .ref (ad a0)), (1, .int x1h7)]) hl [1, 2] rfl
        obtain ⟨hd, h⟩ := h
        obtain ⟨mc_46, ms_47, hr_48, h⟩ := h
        refine uaVv (As := [.int r_28, .int 2, .int r_33]) (rest := []) G hP hD hS (ca_Re_addUse l D g ad mc_46 ms_47 y_35 _ s_34 a0 r_28 2 r_33 H.size (us H) h_a0 h) w9_Re_addUse q1397 ⟨Nat.le_of_ble_eq_true rfl, Nat.le_of_ble_eq_true rfl⟩ rfl rfl h_a0 (q := (RRe, TRe, 18)) rfl rfl hl.1 rfl (Nat.le_of_ble_eq_true rfl) rfl hr_48 d_Re_handlerLine_33 (fun y_43 s_42 d_44 e_45 H locs h hP hD hS => ?_)
        obtain ⟨hd, h⟩ := h
        refine lv_iinc (v := x1h7 + 1) (lv' := [(1, .int (x1h7 + 1)), (0, .ref (ad a0))]) G.1 G.2.1 d_Re_handlerLine_36 hl (k := 1) rfl rfl (by decide) rfl (fun ls hl => ?_)
        refine lv_goto (tgt := 7) G.1 G.2.1 d_Re_handlerLine_39 (by decide) ?_
        have h := hK_7 y_43 s_42 (d_h7 + d_36 + d_44) (e_h7 + e_37 + e_45) (x1h7 + 1) h
        exact ih_7 y_43 s_42 (d_h7 + d_36 + d_44) (e_h7 + e_37 + e_45) (x1h7 + 1) (Nat.lt_of_lt_of_le h.2 (Nat.le_of_lt_succ hμ_7)) h.1 H locs hP hD hS ls (lv_sub hl [1, 0] rfl)
  exact L_7 _ y s_1 0 0 0 (Nat.lt_succ_self _) hI_7 H locs hP hD hS ls (lv_sub hl [1, 0] rfl)
def y_Re_addCode : MethodName := ⟨"ClassWorks$Reader", "addCode", "(I)I"⟩
abbrev b_Re_addCode : ByteArray := prog_8_method_24_code
theorem d_Re_addCode_0 : decode b_Re_addCode 0 = .ok (.aload_n 0, 1) := by decide +kernel
theorem d_Re_addCode_1 : decode b_Re_addCode 1 = .ok (.getfield 72, 3) := by decide +kernel
theorem d_Re_addCode_4 : decode b_Re_addCode 4 = .ok (.getfield 227, 3) := by decide +kernel
theorem d_Re_addCode_7 : decode b_Re_addCode 7 = .ok (.iload_n 1, 1) := by decide +kernel
theorem d_Re_addCode_8 : decode b_Re_addCode 8 = .ok (.invokevirtual 202, 3) := by decide +kernel
theorem d_Re_addCode_11 : decode b_Re_addCode 11 = .ok (.istore_n 2, 1) := by decide +kernel
theorem d_Re_addCode_12 : decode b_Re_addCode 12 = .ok (.aload_n 0, 1) := by decide +kernel
theorem d_Re_addCode_13 : decode b_Re_addCode 13 = .ok (.getfield 72, 3) := by decide +kernel
theorem d_Re_addCode_16 : decode b_Re_addCode 16 = .ok (.getfield 227, 3) := by decide +kernel
theorem d_Re_addCode_19 : decode b_Re_addCode 19 = .ok (.iconst 0, 1) := by decide +kernel
theorem d_Re_addCode_20 : decode b_Re_addCode 20 = .ok (.invokevirtual 202, 3) := by decide +kernel
theorem d_Re_addCode_23 : decode b_Re_addCode 23 = .ok (.pop, 1) := by decide +kernel
theorem d_Re_addCode_24 : decode b_Re_addCode 24 = .ok (.aload_n 0, 1) := by decide +kernel
theorem d_Re_addCode_25 : decode b_Re_addCode 25 = .ok (.getfield 72, 3) := by decide +kernel
theorem d_Re_addCode_28 : decode b_Re_addCode 28 = .ok (.getfield 227, 3) := by decide +kernel
theorem d_Re_addCode_31 : decode b_Re_addCode 31 = .ok (.iconst 0, 1) := by decide +kernel
theorem d_Re_addCode_32 : decode b_Re_addCode 32 = .ok (.invokevirtual 202, 3) := by decide +kernel
theorem d_Re_addCode_35 : decode b_Re_addCode 35 = .ok (.pop, 1) := by decide +kernel
theorem d_Re_addCode_36 : decode b_Re_addCode 36 = .ok (.aload_n 0, 1) := by decide +kernel
theorem d_Re_addCode_37 : decode b_Re_addCode 37 = .ok (.getfield 72, 3) := by decide +kernel
theorem d_Re_addCode_40 : decode b_Re_addCode 40 = .ok (.getfield 227, 3) := by decide +kernel
theorem d_Re_addCode_43 : decode b_Re_addCode 43 = .ok (.iconst 0, 1) := by decide +kernel
theorem d_Re_addCode_44 : decode b_Re_addCode 44 = .ok (.invokevirtual 202, 3) := by decide +kernel
theorem d_Re_addCode_47 : decode b_Re_addCode 47 = .ok (.pop, 1) := by decide +kernel
theorem d_Re_addCode_48 : decode b_Re_addCode 48 = .ok (.aload_n 0, 1) := by decide +kernel
theorem d_Re_addCode_49 : decode b_Re_addCode 49 = .ok (.getfield 72, 3) := by decide +kernel
theorem d_Re_addCode_52 : decode b_Re_addCode 52 = .ok (.getfield 227, 3) := by decide +kernel
theorem d_Re_addCode_55 : decode b_Re_addCode 55 = .ok (.aload_n 0, 1) := by decide +kernel
theorem d_Re_addCode_56 : decode b_Re_addCode 56 = .ok (.getfield 58, 3) := by decide +kernel
theorem d_Re_addCode_59 : decode b_Re_addCode 59 = .ok (.invokevirtual 202, 3) := by decide +kernel
theorem d_Re_addCode_62 : decode b_Re_addCode 62 = .ok (.pop, 1) := by decide +kernel
theorem d_Re_addCode_63 : decode b_Re_addCode 63 = .ok (.aload_n 0, 1) := by decide +kernel
theorem d_Re_addCode_64 : decode b_Re_addCode 64 = .ok (.iconst (-1), 1) := by decide +kernel
theorem d_Re_addCode_65 : decode b_Re_addCode 65 = .ok (.putfield 58, 3) := by decide +kernel
theorem d_Re_addCode_68 : decode b_Re_addCode 68 = .ok (.aload_n 0, 1) := by decide +kernel
theorem d_Re_addCode_69 : decode b_Re_addCode 69 = .ok (.getfield 72, 3) := by decide +kernel
theorem d_Re_addCode_72 : decode b_Re_addCode 72 = .ok (.getfield 224, 3) := by decide +kernel
theorem d_Re_addCode_75 : decode b_Re_addCode 75 = .ok (.getfield 236, 3) := by decide +kernel
theorem d_Re_addCode_78 : decode b_Re_addCode 78 = .ok (.aload_n 0, 1) := by decide +kernel
theorem d_Re_addCode_79 : decode b_Re_addCode 79 = .ok (.getfield 33, 3) := by decide +kernel
theorem d_Re_addCode_82 : decode b_Re_addCode 82 = .ok (.iconst 5, 1) := by decide +kernel
theorem d_Re_addCode_83 : decode b_Re_addCode 83 = .ok (.iadd, 1) := by decide +kernel
theorem d_Re_addCode_84 : decode b_Re_addCode 84 = .ok (.iaload, 1) := by decide +kernel
theorem d_Re_addCode_85 : decode b_Re_addCode 85 = .ok (.istore_n 3, 1) := by decide +kernel
theorem d_Re_addCode_86 : decode b_Re_addCode 86 = .ok (.iload_n 3, 1) := by decide +kernel
theorem d_Re_addCode_87 : decode b_Re_addCode 87 = .ok (.bipush 80, 2) := by decide +kernel
theorem d_Re_addCode_89 : decode b_Re_addCode 89 = .ok (.if_icmp .ne 9, 3) := by decide +kernel
theorem d_Re_addCode_92 : decode b_Re_addCode 92 = .ok (.aload_n 0, 1) := by decide +kernel
theorem d_Re_addCode_93 : decode b_Re_addCode 93 = .ok (.bipush 12, 2) := by decide +kernel
theorem d_Re_addCode_95 : decode b_Re_addCode 95 = .ok (.invokevirtual 170, 3) := by decide +kernel
theorem d_Re_addCode_98 : decode b_Re_addCode 98 = .ok (.aload_n 0, 1) := by decide +kernel
theorem d_Re_addCode_99 : decode b_Re_addCode 99 = .ok (.getfield 72, 3) := by decide +kernel
theorem d_Re_addCode_102 : decode b_Re_addCode 102 = .ok (.getfield 224, 3) := by decide +kernel
theorem d_Re_addCode_105 : decode b_Re_addCode 105 = .ok (.aload_n 0, 1) := by decide +kernel
theorem d_Re_addCode_106 : decode b_Re_addCode 106 = .ok (.getfield 33, 3) := by decide +kernel
theorem d_Re_addCode_109 : decode b_Re_addCode 109 = .ok (.iconst 5, 1) := by decide +kernel
theorem d_Re_addCode_110 : decode b_Re_addCode 110 = .ok (.iadd, 1) := by decide +kernel
theorem d_Re_addCode_111 : decode b_Re_addCode 111 = .ok (.iload_n 3, 1) := by decide +kernel
theorem d_Re_addCode_112 : decode b_Re_addCode 112 = .ok (.iconst 1, 1) := by decide +kernel
theorem d_Re_addCode_113 : decode b_Re_addCode 113 = .ok (.iadd, 1) := by decide +kernel
theorem d_Re_addCode_114 : decode b_Re_addCode 114 = .ok (.invokevirtual 242, 3) := by decide +kernel
theorem d_Re_addCode_117 : decode b_Re_addCode 117 = .ok (.iload_n 2, 1) := by decide +kernel
theorem d_Re_addCode_118 : decode b_Re_addCode 118 = .ok (.ireturn, 1) := by decide +kernel
abbrev ra_Re_addCode (mc ms : Nat) : Room := { frames := 5, cells := mc, slots := ms, locals := 421 }
def wja_Re_addCode_98 (mc ms : Nat) (Post : Ly → St → Int32 → Nat → Nat → Prop) (a0 : Nat) (y_j98 : Ly) (s_j98 : St) (d_j98 e_j98 : Nat) (x2j98 : Int32) (x3j98 : Int32) : Prop := (d_j98 ≤ mc ∧ e_j98 ≤ ms) ∧ ∃ b_61 : Nat, sO s_j98 a0 4 = some b_61 ∧ cl b_61 = 9 ∧ wu_In_put y_j98 (fun (s_65 : St) => Post y_j98 s_65 x2j98 d_j98 e_j98) s_j98 (lk b_61 9) ((sV s_j98 a0 10) + 5) (x3j98 + 1)
def wa_Re_addCode (mc ms : Nat) (y : Ly) (Post : Ly → St → Int32 → Nat → Nat → Prop) (σ : St) (a0 : Nat) (v1 : Int32) : Prop := ∃ b_1 : Nat, sO σ a0 4 = some b_1 ∧ cl b_1 = 9 ∧ ∃ mc_9 ms_10 : Nat, (0 + mc_9 ≤ mc ∧ 0 + ms_10 ≤ ms) ∧ wa_In_add mc_9 ms_10 y (fun (y_6 : Ly) (s_5 : St) (r_4 : Int32) (d_7 e_8 : Nat) => (0 + d_7 ≤ mc ∧ 0 + e_8 ≤ ms) ∧ ∃ b_12 : Nat, sO s_5 a0 4 = some b_12 ∧ cl b_12 = 9 ∧ ∃ mc_20 ms_21 : Nat, (0 + d_7 + mc_20 ≤ mc ∧ 0 + e_8 + ms_21 ≤ ms) ∧ wa_In_add mc_20 ms_21 y_6 (fun (y_17 : Ly) (s_16 : St) (r_15 : Int32) (d_18 e_19 : Nat) => (0 + d_7 + d_18 ≤ mc ∧ 0 + e_8 + e_19 ≤ ms) ∧ ∃ b_23 : Nat, sO s_16 a0 4 = some b_23 ∧ cl b_23 = 9 ∧ ∃ mc_31 ms_32 : Nat, (0 + d_7 + d_18 + mc_31 ≤ mc ∧ 0 + e_8 + e_19 + ms_32 ≤ ms) ∧ wa_In_add mc_31 ms_32 y_17 (fun (y_28 : Ly) (s_27 : St) (r_26 : Int32) (d_29 e_30 : Nat) => (0 + d_7 + d_18 + d_29 ≤ mc ∧ 0 + e_8 + e_19 + e_30 ≤ ms) ∧ ∃ b_34 : Nat, sO s_27 a0 4 = some b_34 ∧ cl b_34 = 9 ∧ ∃ mc_42 ms_43 : Nat, (0 + d_7 + d_18 + d_29 + mc_42 ≤ mc ∧ 0 + e_8 + e_19 + e_30 + ms_43 ≤ ms) ∧ wa_In_add mc_42 ms_43 y_28 (fun (y_39 : Ly) (s_38 : St) (r_37 : Int32) (d_40 e_41 : Nat) => (0 + d_7 + d_18 + d_29 + d_40 ≤ mc ∧ 0 + e_8 + e_19 + e_30 + e_41 ≤ ms) ∧ ∃ b_45 : Nat, sO s_38 a0 4 = some b_45 ∧ cl b_45 = 9 ∧ ∃ mc_53 ms_54 : Nat, (0 + d_7 + d_18 + d_29 + d_40 + mc_53 ≤ mc ∧ 0 + e_8 + e_19 + e_30 + e_41 + ms_54 ≤ ms) ∧ wa_In_add mc_53 ms_54 y_39 (fun (y_50 : Ly) (s_49 : St) (r_48 : Int32) (d_51 e_52 : Nat) => (0 + d_7 + d_18 + d_29 + d_40 + d_51 ≤ mc ∧ 0 + e_8 + e_19 + e_30 + e_41 + e_52 ≤ ms) ∧ xP (uV s_49 a0 16 (-1)) (fun s_56 : St => ∃ b_57 : Nat, sO s_56 a0 4 = some b_57 ∧ cl b_57 = 9 ∧ xA y_50 s_56 (lk b_57 9) 0 ((sV s_56 a0 10) + 5) (fun x_60 : Int32 => ((¬ x_60 = 80 → wja_Re_addCode_98 mc ms Post a0 y_50 s_56 (0 + d_7 + d_18 + d_29 + d_40 + d_51) (0 + e_8 + e_19 + e_30 + e_41 + e_52) r_4 x_60) ∧ (x_60 = 80 → wu_Re_note y_50 (fun (s_67 : St) => wja_Re_addCode_98 mc ms Post a0 y_50 s_67 (0 + d_7 + d_18 + d_29 + d_40 + d_51) (0 + e_8 + e_19 + e_30 + e_41 + e_52) r_4 x_60) s_56 a0 12))))) s_38 (lk b_45 10) (sV s_38 a0 16)) s_27 (lk b_34 10) 0) s_16 (lk b_23 10) 0) s_5 (lk b_12 10) 0) σ (lk b_1 10) v1
set_option maxHeartbeats 4000000 in
set_option maxRecDepth 100000 in
theorem ca_Re_addCode (l : Launch) (D : va_G) (g : Nat → ClassId) (ad : Nat → Nat) (mc ms : Nat) (y : Ly) (Post : Ly → St → Int32 → Nat → Nat → Prop) (σ : St) (a0 : Nat) (v1 : Int32) (sz uz : Nat) (h_a0 : cl a0 = 6) (h : wa_Re_addCode mc ms y Post σ a0 v1) : Met l y_Re_addCode (mw y_Re_addCode b_Re_addCode 4 (some .int)) (ra_Re_addCode mc ms) (PCu g D [] [.ref (ad a0), .int v1] sz uz (ws g ad y σ)) (va_Qi (fun (r : Int32) (u : Ly × St × Nat × Nat) => Post u.1 u.2.1 r u.2.2.1 u.2.2.2) (QU D (va_A (ws g ad y σ) sz) (fun u => ws g ad u.1 u.2.1) sz uz (fun u => u.2.2.1) (fun u => u.2.2.2)) (va_A (ws g ad y σ) sz)) mc ms (va_A (ws g ad y σ) sz) := by
  refine ofIu (by decide +kernel) (Nat.le_of_ble_eq_true rfl) ?_
  intro p e s m args below meth c A Q ls H locs G hsz hP hD hS hl hret
  subst hsz
  have hl : lv_has ls 4 [(0, .ref (ad a0)), (1, .int v1)] := hl
  have hd : 0 ≤ mc ∧ 0 ≤ ms := ⟨Nat.zero_le _, Nat.zero_le _⟩
  unfold wa_Re_addCode at h
  refine lv_aload_n G.1 G.2.1 d_Re_addCode_0 rfl (lv_at hl 0 rfl) ?_
  obtain ⟨b_1, e_2, c_3, h⟩ := h
  refine ugf (v := .ref (ad b_1)) G hP h_a0 iRe rfl 4 (by decide) rfl q591 rfl (by show va_rf ((sO σ a0 4).map ad) = _; rw [e_2]; rfl) d_Re_addCode_1 ?_
  refine ugf (v := .ref (ad (lk b_1 10))) G hP c_3 iWd rfl 10 (by decide) rfl q847 rfl rfl d_Re_addCode_4 ?_
  refine lv_iload_n G.1 G.2.1 d_Re_addCode_7 rfl (lv_at hl 1 rfl) ?_
  obtain ⟨mc_9, ms_10, hr_11, h⟩ := h
  refine uaVi (As := [.int v1]) (rest := []) G hP hD hS (ca_In_add l D g [] ad mc_9 ms_10 y _ σ (lk b_1 10) v1 H.size (us H) (lk_9_10 c_3) h) w9_In_add q1380 ⟨Nat.le_of_ble_eq_true rfl, Nat.le_of_ble_eq_true rfl⟩ rfl rfl (lk_9_10 c_3) (q := (RIn, TIn, 2)) rfl rfl hl.1 rfl (Nat.le_of_ble_eq_true rfl) rfl hr_11 d_Re_addCode_8 (fun r_4 y_6 s_5 d_7 e_8 H locs h hP hD hS => ?_)
  have hl := lv_sub (l' := [(0, .ref (ad a0))]) hl [0] rfl
  obtain ⟨hd, h⟩ := h
  refine lv_istore_n (lv' := [(2, .int r_4), (0, .ref (ad a0))]) G.1 G.2.1 d_Re_addCode_11 rfl hl (by decide) rfl (fun ls hl => ?_)
  refine lv_aload_n G.1 G.2.1 d_Re_addCode_12 rfl (lv_at hl 1 rfl) ?_
  obtain ⟨b_12, e_13, c_14, h⟩ := h
  refine ugf (v := .ref (ad b_12)) G hP h_a0 iRe rfl 4 (by decide) rfl q591 rfl (by show va_rf ((sO s_5 a0 4).map ad) = _; rw [e_13]; rfl) d_Re_addCode_13 ?_
  refine ugf (v := .ref (ad (lk b_12 10))) G hP c_14 iWd rfl 10 (by decide) rfl q847 rfl rfl d_Re_addCode_16 ?_
  refine lv_iconst (v := 0) G.1 G.2.1 d_Re_addCode_19 (by decide) ?_
  obtain ⟨mc_20, ms_21, hr_22, h⟩ := h
  refine uaVi (As := [.int 0]) (rest := []) G hP hD hS (ca_In_add l D g [] ad mc_20 ms_21 y_6 _ s_5 (lk b_12 10) 0 H.size (us H) (lk_9_10 c_14) h) w9_In_add q1380 ⟨Nat.le_of_ble_eq_true rfl, Nat.le_of_ble_eq_true rfl⟩ rfl rfl (lk_9_10 c_14) (q := (RIn, TIn, 2)) rfl rfl hl.1 rfl (Nat.le_of_ble_eq_true rfl) rfl hr_22 d_Re_addCode_20 (fun r_15 y_17 s_16 d_18 e_19 H locs h hP hD hS => ?_)
  obtain ⟨hd, h⟩ := h
  refine W.eq (g2 := F0 m 23 ls [.int r_15]) rfl ?_
  refine lv_pop G.1 G.2.1 d_Re_addCode_23 rfl ?_
  refine lv_aload_n G.1 G.2.1 d_Re_addCode_24 rfl (lv_at hl 1 rfl) ?_
  obtain ⟨b_23, e_24, c_25, h⟩ := h
  refine ugf (v := .ref (ad b_23)) G hP h_a0 iRe rfl 4 (by decide) rfl q591 rfl (by show va_rf ((sO s_16 a0 4).map ad) = _; rw [e_24]; rfl) d_Re_addCode_25 ?_
  refine ugf (v := .ref (ad (lk b_23 10))) G hP c_25 iWd rfl 10 (by decide) rfl q847 rfl rfl d_Re_addCode_28 ?_
  refine lv_iconst (v := 0) G.1 G.2.1 d_Re_addCode_31 (by decide) ?_
  obtain ⟨mc_31, ms_32, hr_33, h⟩ := h
  refine uaVi (As := [.int 0]) (rest := []) G hP hD hS (ca_In_add l D g [] ad mc_31 ms_32 y_17 _ s_16 (lk b_23 10) 0 H.size (us H) (lk_9_10 c_25) h) w9_In_add q1380 ⟨Nat.le_of_ble_eq_true rfl, Nat.le_of_ble_eq_true rfl⟩ rfl rfl (lk_9_10 c_25) (q := (RIn, TIn, 2)) rfl rfl hl.1 rfl (Nat.le_of_ble_eq_true rfl) rfl hr_33 d_Re_addCode_32 (fun r_26 y_28 s_27 d_29 e_30 H locs h hP hD hS => ?_)
  obtain ⟨hd, h⟩ := h
  refine lv_pop G.1 G.2.1 d_Re_addCode_35 rfl ?_
  refine lv_aload_n G.1 G.2.1 d_Re_addCode_36 rfl (lv_at hl 1 rfl) ?_
  obtain ⟨b_34, e_35, c_36, h⟩ := h
  refine ugf (v := .ref (ad b_34)) G hP h_a0 iRe rfl 4 (by decide) rfl q591 rfl (by show va_rf ((sO s_27 a0 4).map ad) = _; rw [e_35]; rfl) d_Re_addCode_37 ?_
  refine ugf (v := .ref (ad (lk b_34 10))) G hP c_36 iWd rfl 10 (by decide) rfl q847 rfl rfl d_Re_addCode_40 ?_
  refine lv_iconst (v := 0) G.1 G.2.1 d_Re_addCode_43 (by decide) ?_
  obtain ⟨mc_42, ms_43, hr_44, h⟩ := h
  refine uaVi (As := [.int 0]) (rest := []) G hP hD hS (ca_In_add l D g [] ad mc_42 ms_43 y_28 _ s_27 (lk b_34 10) 0 H.size (us H) (lk_9_10 c_36) h) w9_In_add q1380 ⟨Nat.le_of_ble_eq_true rfl, Nat.le_of_ble_eq_true rfl⟩ rfl rfl (lk_9_10 c_36) (q := (RIn, TIn, 2)) rfl rfl hl.1 rfl (Nat.le_of_ble_eq_true rfl) rfl hr_44 d_Re_addCode_44 (fun r_37 y_39 s_38 d_40 e_41 H locs h hP hD hS => ?_)
  obtain ⟨hd, h⟩ := h
  refine W.eq (g2 := F0 m 47 ls [.int r_37]) rfl ?_
  refine lv_pop G.1 G.2.1 d_Re_addCode_47 rfl ?_
  refine lv_aload_n G.1 G.2.1 d_Re_addCode_48 rfl (lv_at hl 1 rfl) ?_
  obtain ⟨b_45, e_46, c_47, h⟩ := h
  refine ugf (v := .ref (ad b_45)) G hP h_a0 iRe rfl 4 (by decide) rfl q591 rfl (by show va_rf ((sO s_38 a0 4).map ad) = _; rw [e_46]; rfl) d_Re_addCode_49 ?_
  refine ugf (v := .ref (ad (lk b_45 10))) G hP c_47 iWd rfl 10 (by decide) rfl q847 rfl rfl d_Re_addCode_52 ?_
  refine lv_aload_n G.1 G.2.1 d_Re_addCode_55 rfl (lv_at hl 1 rfl) ?_
  refine ugf (v := .int (sV s_38 a0 16)) G hP h_a0 iRe rfl 16 (by decide) rfl q603 rfl rfl d_Re_addCode_56 ?_
  obtain ⟨mc_53, ms_54, hr_55, h⟩ := h
  refine uaVi (As := [.int (sV s_38 a0 16)]) (rest := []) G hP hD hS (ca_In_add l D g [] ad mc_53 ms_54 y_39 _ s_38 (lk b_45 10) (sV s_38 a0 16) H.size (us H) (lk_9_10 c_47) h) w9_In_add q1380 ⟨Nat.le_of_ble_eq_true rfl, Nat.le_of_ble_eq_true rfl⟩ rfl rfl (lk_9_10 c_47) (q := (RIn, TIn, 2)) rfl rfl hl.1 rfl (Nat.le_of_ble_eq_true rfl) rfl hr_55 d_Re_addCode_59 (fun r_48 y_50 s_49 d_51 e_52 H locs h hP hD hS => ?_)
  obtain ⟨hd, h⟩ := h
  refine lv_pop G.1 G.2.1 d_Re_addCode_62 rfl ?_
  refine lv_aload_n G.1 G.2.1 d_Re_addCode_63 rfl (lv_at hl 1 rfl) ?_
  refine lv_iconst (v := (-1)) G.1 G.2.1 d_Re_addCode_64 (by decide) ?_
  refine upf G hP hD hS h 16 putV h_a0 iRe tRe tRe_ok nRe rfl (by decide) rfl q603 rfl rfl fV rfl rfl d_Re_addCode_65 (fun s_56 H locs h hP hD hS => ?_)
  refine lv_aload_n G.1 G.2.1 d_Re_addCode_68 rfl (lv_at hl 1 rfl) ?_
  refine W.eq (g2 := F0 m 69 ls [.ref (ad a0)]) rfl ?_
  obtain ⟨b_57, e_58, c_59, h⟩ := h
  refine ugf (v := .ref (ad b_57)) G hP h_a0 iRe rfl 4 (by decide) rfl q591 rfl (by show va_rf ((sO s_56 a0 4).map ad) = _; rw [e_58]; rfl) d_Re_addCode_69 ?_
  refine ugf (v := .ref (ad (lk b_57 9))) G hP c_59 iWd rfl 9 (by decide) rfl q840 rfl rfl d_Re_addCode_72 ?_
  refine ugf (v := .ref (yP y_50 (lk b_57 9) 0)) G hP (lk_9_9 c_59) iIn rfl 0 (by decide) rfl q387 rfl rfl d_Re_addCode_75 ?_
  refine lv_aload_n G.1 G.2.1 d_Re_addCode_78 rfl (lv_at hl 1 rfl) ?_
  refine ugf (v := .int (sV s_56 a0 10)) G hP h_a0 iRe rfl 10 (by decide) rfl q597 rfl rfl d_Re_addCode_79 ?_
  refine lv_iconst (v := 5) G.1 G.2.1 d_Re_addCode_82 (by decide) ?_
  refine lv_iadd G.1 G.2.1 d_Re_addCode_83 ?_
  refine uiald G hP (kdp (lk_9_9 c_59) rfl) (typ (lk_9_9 c_59) rfl) h d_Re_addCode_84 (fun x_60 h => ?_)
  refine lv_istore_n (lv' := [(3, .int x_60), (2, .int r_4), (0, .ref (ad a0))]) G.1 G.2.1 d_Re_addCode_85 rfl hl (by decide) rfl (fun ls hl => ?_)
  refine lv_iload_n G.1 G.2.1 d_Re_addCode_86 rfl (lv_at hl 0 rfl) ?_
  refine lv_bipush (v := 80) G.1 G.2.1 d_Re_addCode_87 (by decide) ?_
  have J_98 : ∀ (y_j98 : Ly) (s_j98 : St) (d_j98 e_j98 : Nat) (x2j98 : Int32) (x3j98 : Int32) (H : Heap) (locs : List Loc), wja_Re_addCode_98 mc ms Post a0 y_j98 s_j98 d_j98 e_j98 x2j98 x3j98 → va_P D CL (ws g ad y_j98 s_j98) H → va_D A (ws g ad y_j98 s_j98) → va_S A s.heap H locs → ∀ ls, lv_has ls 4 [(0, .ref (ad a0)), (2, .int x2j98), (3, .int x3j98)] → W p l e (ra_Re_addCode mc ms) s m args below meth c H locs d_j98 e_j98 Q (F0 m 98 ls []) := by
    intro y_j98 s_j98 d_j98 e_j98 x2j98 x3j98 H locs h hP hD hS ls hl
    unfold wja_Re_addCode_98 at h
    obtain ⟨hd, h⟩ := h
    refine lv_aload_n G.1 G.2.1 d_Re_addCode_98 rfl (lv_at hl 0 rfl) ?_
    obtain ⟨b_61, e_62, c_63, h⟩ := h
    refine ugf (v := .ref (ad b_61)) G hP h_a0 iRe rfl 4 (by decide) rfl q591 rfl (by show va_rf ((sO s_j98 a0 4).map ad) = _; rw [e_62]; rfl) d_Re_addCode_99 ?_
    refine ugf (v := .ref (ad (lk b_61 9))) G hP c_63 iWd rfl 9 (by decide) rfl q840 rfl rfl d_Re_addCode_102 ?_
    refine lv_aload_n G.1 G.2.1 d_Re_addCode_105 rfl (lv_at hl 0 rfl) ?_
    refine ugf (v := .int (sV s_j98 a0 10)) G hP h_a0 iRe rfl 10 (by decide) rfl q597 rfl rfl d_Re_addCode_106 ?_
    refine lv_iconst (v := 5) G.1 G.2.1 d_Re_addCode_109 (by decide) ?_
    refine lv_iadd G.1 G.2.1 d_Re_addCode_110 ?_
    refine lv_iload_n G.1 G.2.1 d_Re_addCode_111 rfl (lv_at hl 2 rfl) ?_
    refine lv_iconst (v := 1) G.1 G.2.1 d_Re_addCode_112 (by decide) ?_
    refine lv_iadd G.1 G.2.1 d_Re_addCode_113 ?_
    refine ucVv (As := [.int ((sV s_j98 a0 10) + 5), .int (x3j98 + 1)]) (rest := []) G hP hD hS (cu_In_put l D g ad y_j98 _ s_j98 (lk b_61 9) ((sV s_j98 a0 10) + 5) (x3j98 + 1) H.size (lk_9_9 c_63) h) w9_In_put q1359 ⟨Nat.le_of_ble_eq_true rfl, Nat.le_of_ble_eq_true rfl⟩ rfl rfl (lk_9_9 c_63) (q := (RIn, TIn, 2)) rfl rfl hl.1 rfl (Nat.le_of_ble_eq_true rfl) rfl hd d_Re_addCode_114 (fun s_65 H locs h hP hD hS => ?_)
    refine W.eq (g2 := F0 m 117 ls []) rfl ?_
    refine lv_iload_n G.1 G.2.1 d_Re_addCode_117 rfl (lv_at hl 1 rfl) ?_
    exact hret _ (y_j98, s_65, d_j98, e_j98) _ _ _ _ _ ls h hP hD hS (Nat.le_refl _) (Nat.le_refl _) hd.1 hd.2 d_Re_addCode_118
  refine lv_icmp_ne (tgt := 98) G.1 G.2.1 d_Re_addCode_89 (by decide) (fun c89 => ?_) (fun c89 => ?_)
  · skip
    have h := h.1 c89
    exact J_98 y_50 s_56 (0 + d_7 + d_18 + d_29 + d_40 + d_51) (0 + e_8 + e_19 + e_30 + e_41 + e_52) r_4 x_60 H locs h hP hD hS ls (lv_sub hl [2, 1, 0] rfl)
  · skip
    have h := h.2 c89
    refine W.eq (g2 := F0 m 92 ls []) rfl ?_
    refine lv_aload_n G.1 G.2.1 d_Re_addCode_92 rfl (lv_at hl 2 rfl) ?_
    refine lv_bipush (v := 12) G.1 G.2.1 d_Re_addCode_93 (by decide) ?_
    refine ucVv (As := [.int 12]) (rest := []) G hP hD hS (cu_Re_note l D g ad y_50 _ s_56 a0 12 H.size h_a0 h) w9_Re_note q1337 ⟨Nat.le_of_ble_eq_true rfl, Nat.le_of_ble_eq_true rfl⟩ rfl rfl h_a0 (q := (RRe, TRe, 18)) rfl rfl hl.1 rfl (Nat.le_of_ble_eq_true rfl) rfl hd d_Re_addCode_95 (fun s_67 H locs h hP hD hS => ?_)
    exact J_98 y_50 s_67 (0 + d_7 + d_18 + d_29 + d_40 + d_51) (0 + e_8 + e_19 + e_30 + e_41 + e_52) r_4 x_60 H locs h hP hD hS ls (lv_sub hl [2, 1, 0] rfl)
