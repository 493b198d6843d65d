def isL (x : Int32) : Prop := (¬ x < nI 97 ∧ x ≤ nI 122) ∨ (¬ x < nI 65 ∧ x ≤ nI 90) ∨ x = nI 95
def isD (x : Int32) : Prop := ¬ x < nI 48 ∧ ¬ nI 57 < x
/-- names' numbers behind a call: not fewer, and not many more -/
def NGr (k L n1 n2 n3 n4 k1 L1 m1 m2 m3 m4 : Nat) (fs1 fz1 fn1 fh1 : Nat → Int32) (d : Nat) : Prop := k ≤ k1 ∧ k1 ≤ k + d ∧ L ≤ L1 ∧ L1 ≤ L + d ∧ NI k1 L1 fs1 fz1 fn1 fh1 ∧ (L1 ≤ m1 ∧ k1 ≤ m2 ∧ k1 ≤ m3 ∧ k1 ≤ m4) ∧ (n1 ≤ m1 ∧ n2 ≤ m2 ∧ n3 ≤ m3 ∧ n4 ≤ m4) ∧ (m1 = n1 ∨ m1 ≤ 2 * L1 + 8) ∧ (m2 = n2 ∨ m2 ≤ 2 * k1 + 8) ∧ (m3 = n3 ∨ m3 ≤ 2 * k1 + 8) ∧ (m4 = n4 ∨ m4 ≤ 2 * k1 + 8)
theorem NGr.refl {k L n1 n2 n3 n4 : Nat} {fs fz fn fh : Nat → Int32} (hI : NI k L fs fz fn fh) (hL1 : L ≤ n1) (hk2 : k ≤ n2) (hk3 : k ≤ n3) (hk4 : k ≤ n4) {d : Nat} : NGr k L n1 n2 n3 n4 k L n1 n2 n3 n4 fs fz fn fh d := ⟨by omega, by omega, by omega, by omega, hI, ⟨hL1, hk2, hk3, hk4⟩, ⟨by omega, by omega, by omega, by omega⟩, Or.inl rfl, Or.inl rfl, Or.inl rfl, Or.inl rfl⟩
theorem NGr.trans {k L n1 n2 n3 n4 k1 L1 m1 m2 m3 m4 k2 L2 o1 o2 o3 o4 : Nat} {fs1 fz1 fn1 fh1 fs2 fz2 fn2 fh2 : Nat → Int32} {d e f : Nat} (h1 : NGr k L n1 n2 n3 n4 k1 L1 m1 m2 m3 m4 fs1 fz1 fn1 fh1 d) (h2 : NGr k1 L1 m1 m2 m3 m4 k2 L2 o1 o2 o3 o4 fs2 fz2 fn2 fh2 e) (hf : d + e ≤ f) : NGr k L n1 n2 n3 n4 k2 L2 o1 o2 o3 o4 fs2 fz2 fn2 fh2 f := by
  obtain ⟨a1, a2, a3, a4, -, ⟨a5, a6, a7, a8⟩, ⟨a9, a10, a11, a12⟩, a13, a14, a15, a16⟩ := h1
  obtain ⟨b1, b2, b3, b4, bI, ⟨b5, b6, b7, b8⟩, ⟨b9, b10, b11, b12⟩, b13, b14, b15, b16⟩ := h2
  exact ⟨by omega, by omega, by omega, by omega, bI, ⟨b5, b6, b7, b8⟩, ⟨by omega, by omega, by omega, by omega⟩, by omega, by omega, by omega, by omega⟩
/-- words: a name's value is its number -/
def WdI (ct k : Nat) (dk dv : Nat → Int32) : Prop := ∀ i, i < ct → dk i = nI 1 → ∃ id : Nat, dv i = nI id ∧ id < k
theorem WdI.more {ct k k1 : Nat} {dk dv : Nat → Int32} (h : WdI ct k dk dv) (hk : k ≤ k1) : WdI ct k1 dk dv := fun i hi e => by
  obtain ⟨id, q1, q2⟩ := h i hi e
  exact ⟨id, q1, by omega⟩
theorem WdI.add {ct k : Nat} {dk dv : Nat → Int32} {a v : Int32} (h : WdI ct k dk dv) (ha : a = nI 1 → ∃ id : Nat, v = nI id ∧ id < k) : WdI (ct + 1) k (upd dk ct a) (upd dv ct v) := fun i hi e => by
  by_cases hc : i = ct
  · subst hc
    obtain ⟨id, q1, q2⟩ := ha (by simpa [upd] using e)
    exact ⟨id, by simpa [upd] using q1, q2⟩
  · obtain ⟨id, q1, q2⟩ := h i (by omega) (by simpa [upd, hc] using e)
    exact ⟨id, by simpa [upd, hc] using q1, q2⟩
theorem dc_bound {k L n1 n2 n3 n4 k1 L1 m1 m2 m3 m4 d : Nat} (hd : d ≤ 128) (a : L ≤ n1) (b : k ≤ n2) (c : k ≤ n3) (e : k ≤ n4) (h1 : k1 ≤ k + 1) (h2 : L1 ≤ L + d) (g1 : n1 ≤ m1) (g2 : n2 ≤ m2) (g3 : n3 ≤ m3) (g4 : n4 ≤ m4) (f1 : m1 = n1 ∨ m1 ≤ 2 * L1 + 8) (f2 : m2 = n2 ∨ m2 ≤ 2 * k1 + 8) (f3 : m3 = n3 ∨ m3 ≤ 2 * k1 + 8) (f4 : m4 = n4 ∨ m4 ≤ 2 * k1 + 8) : (m1 - n1) + (m2 - n2) + (m3 - n3) + (m4 - n4) ≤ 2 * L + 6 * k + 560 := by
  have x1 : m1 - n1 ≤ L + 264 := by rcases f1 with h | h <;> omega
  have x2 : m2 - n2 ≤ k + 10 := by rcases f2 with h | h <;> omega
  have x3 : m3 - n3 ≤ k + 10 := by rcases f3 with h | h <;> omega
  have x4 : m4 - n4 ≤ k + 10 := by rcases f4 with h | h <;> omega
  omega
theorem NGr.wide {k L n1 n2 n3 n4 k1 L1 m1 m2 m3 m4 : Nat} {fs1 fz1 fn1 fh1 : Nat → Int32} {d e : Nat} (h : NGr k L n1 n2 n3 n4 k1 L1 m1 m2 m3 m4 fs1 fz1 fn1 fh1 d) (hd : d ≤ e) : NGr k L n1 n2 n3 n4 k1 L1 m1 m2 m3 m4 fs1 fz1 fn1 fh1 e := ⟨h.1, Nat.le_trans h.2.1 (by omega), h.2.2.1, Nat.le_trans h.2.2.2.1 (by omega), h.2.2.2.2⟩

def y_Wo_isLetter : MethodName := ⟨"ClassWorks$Words", "isLetter", "(I)Z"⟩
abbrev b_Wo_isLetter : ByteArray := prog_10_method_8_code
theorem d_Wo_isLetter_0 : decode b_Wo_isLetter 0 = .ok (.iload_n 0, 1) := by decide +kernel
theorem d_Wo_isLetter_1 : decode b_Wo_isLetter 1 = .ok (.bipush 97, 2) := by decide +kernel
theorem d_Wo_isLetter_3 : decode b_Wo_isLetter 3 = .ok (.if_icmp .lt 9, 3) := by decide +kernel
theorem d_Wo_isLetter_6 : decode b_Wo_isLetter 6 = .ok (.iload_n 0, 1) := by decide +kernel
theorem d_Wo_isLetter_7 : decode b_Wo_isLetter 7 = .ok (.bipush 122, 2) := by decide +kernel
theorem d_Wo_isLetter_9 : decode b_Wo_isLetter 9 = .ok (.if_icmp .le 21, 3) := by decide +kernel
theorem d_Wo_isLetter_12 : decode b_Wo_isLetter 12 = .ok (.iload_n 0, 1) := by decide +kernel
theorem d_Wo_isLetter_13 : decode b_Wo_isLetter 13 = .ok (.bipush 65, 2) := by decide +kernel
theorem d_Wo_isLetter_15 : decode b_Wo_isLetter 15 = .ok (.if_icmp .lt 9, 3) := by decide +kernel
theorem d_Wo_isLetter_18 : decode b_Wo_isLetter 18 = .ok (.iload_n 0, 1) := by decide +kernel
theorem d_Wo_isLetter_19 : decode b_Wo_isLetter 19 = .ok (.bipush 90, 2) := by decide +kernel
theorem d_Wo_isLetter_21 : decode b_Wo_isLetter 21 = .ok (.if_icmp .le 9, 3) := by decide +kernel
theorem d_Wo_isLetter_24 : decode b_Wo_isLetter 24 = .ok (.iload_n 0, 1) := by decide +kernel
theorem d_Wo_isLetter_25 : decode b_Wo_isLetter 25 = .ok (.bipush 95, 2) := by decide +kernel
theorem d_Wo_isLetter_27 : decode b_Wo_isLetter 27 = .ok (.if_icmp .ne 7, 3) := by decide +kernel
theorem d_Wo_isLetter_30 : decode b_Wo_isLetter 30 = .ok (.iconst 1, 1) := by decide +kernel
theorem d_Wo_isLetter_31 : decode b_Wo_isLetter 31 = .ok (.goto 4, 3) := by decide +kernel
theorem d_Wo_isLetter_34 : decode b_Wo_isLetter 34 = .ok (.iconst 0, 1) := by decide +kernel
theorem d_Wo_isLetter_35 : decode b_Wo_isLetter 35 = .ok (.ireturn, 1) := by decide +kernel
abbrev rm_Wo_isLetter : Room := { frames := 0, cells := 0, slots := 0, locals := 0 }
set_option maxHeartbeats 4000000 in
set_option maxRecDepth 100000 in
/-- isLetter -/
theorem c_Wo_isLetter (l : Launch) (D : va_G) (g : Nat → ClassId) (x9 : Int32) (sz : Nat)  : Met l y_Wo_isLetter (mw y_Wo_isLetter b_Wo_isLetter 1 (some (.boolean))) (rm_Wo_isLetter) (PC g D [] [.int x9] sz []) (va_Qi (fun (r : Int32) (u : Unit) => (r = 1 ∧ isL x9) ∨ (r = 0 ∧ ¬ isL x9)) (QW D (va_A [] sz) (fun u : Unit => [])) (va_A [] sz)) 0 0 (va_A [] sz) := by
  refine ofZ (by decide +kernel) (Nat.le_of_ble_eq_true rfl) ?_
  intro p e s m args below meth c A Q ls H locs G hsz hP hD hS hl hret
  subst hsz
  have hl : lv_has ls 1 [(0, .int x9)] := hl
  refine lv_iload_n G.1 G.2.1 d_Wo_isLetter_0 rfl (lv_at hl 0 rfl) ?_
  refine lv_bipush (v := nI 97) G.1 G.2.1 d_Wo_isLetter_1 (by decide) ?_
  refine lv_icmp_lt (tgt := 12) G.1 G.2.1 d_Wo_isLetter_3 (by decide) (fun c3 => ?_) (fun c3 => ?_)
  · skip
    refine lv_iload_n G.1 G.2.1 d_Wo_isLetter_12 rfl (lv_at hl 0 rfl) ?_
    refine lv_bipush (v := nI 65) G.1 G.2.1 d_Wo_isLetter_13 (by decide) ?_
    refine lv_icmp_lt (tgt := 24) G.1 G.2.1 d_Wo_isLetter_15 (by decide) (fun c15 => ?_) (fun c15 => ?_)
    · skip
      refine lv_iload_n G.1 G.2.1 d_Wo_isLetter_24 rfl (lv_at hl 0 rfl) ?_
      refine lv_bipush (v := nI 95) G.1 G.2.1 d_Wo_isLetter_25 (by decide) ?_
      refine lv_icmp_ne (tgt := 34) G.1 G.2.1 d_Wo_isLetter_27 (by decide) (fun c27 => ?_) (fun c27 => ?_)
      · skip
        refine lv_iconst (v := nI 0) G.1 G.2.1 d_Wo_isLetter_34 (by decide) ?_
        refine hret (nI 0) () _ _ _ _ _ ls (by decide) (Or.inr ⟨rfl, by simp [isL, c3, c15, c27]⟩) (hP.sub [] rfl) (hD.sub [] (by decide) rfl) hS (Nat.le_of_ble_eq_true rfl) (Nat.le_of_ble_eq_true rfl) d_Wo_isLetter_35
      · skip
        refine lv_iconst (v := nI 1) G.1 G.2.1 d_Wo_isLetter_30 (by decide) ?_
        refine lv_goto (tgt := 35) G.1 G.2.1 d_Wo_isLetter_31 (by decide) ?_
        refine W.eq (g2 := F0 m 35 ls [.int (nI 1)]) rfl ?_
        refine hret (nI 1) () _ _ _ _ _ ls (by decide) (Or.inl ⟨rfl, by simp [isL, c3, c15, c27]⟩) (hP.sub [] rfl) (hD.sub [] (by decide) rfl) hS (Nat.le_of_ble_eq_true rfl) (Nat.le_of_ble_eq_true rfl) d_Wo_isLetter_35
    · skip
      refine lv_iload_n G.1 G.2.1 d_Wo_isLetter_18 rfl (lv_at hl 0 rfl) ?_
      refine lv_bipush (v := nI 90) G.1 G.2.1 d_Wo_isLetter_19 (by decide) ?_
      refine lv_icmp_le (tgt := 30) G.1 G.2.1 d_Wo_isLetter_21 (by decide) (fun c21 => ?_) (fun c21 => ?_)
      · skip
        refine lv_iconst (v := nI 1) G.1 G.2.1 d_Wo_isLetter_30 (by decide) ?_
        refine lv_goto (tgt := 35) G.1 G.2.1 d_Wo_isLetter_31 (by decide) ?_
        refine W.eq (g2 := F0 m 35 ls [.int (nI 1)]) rfl ?_
        refine hret (nI 1) () _ _ _ _ _ ls (by decide) (Or.inl ⟨rfl, by simp [isL, c3, c15, c21]⟩) (hP.sub [] rfl) (hD.sub [] (by decide) rfl) hS (Nat.le_of_ble_eq_true rfl) (Nat.le_of_ble_eq_true rfl) d_Wo_isLetter_35
      · skip
        refine lv_iload_n G.1 G.2.1 d_Wo_isLetter_24 rfl (lv_at hl 0 rfl) ?_
        refine lv_bipush (v := nI 95) G.1 G.2.1 d_Wo_isLetter_25 (by decide) ?_
        refine W.eq (g2 := F0 m 27 ls [.int (nI 95), .int x9]) rfl ?_
        refine lv_icmp_ne (tgt := 34) G.1 G.2.1 d_Wo_isLetter_27 (by decide) (fun c27 => ?_) (fun c27 => ?_)
        · skip
          refine lv_iconst (v := nI 0) G.1 G.2.1 d_Wo_isLetter_34 (by decide) ?_
          refine hret (nI 0) () _ _ _ _ _ ls (by decide) (Or.inr ⟨rfl, by simp [isL, c3, c15, c21, c27]⟩) (hP.sub [] rfl) (hD.sub [] (by decide) rfl) hS (Nat.le_of_ble_eq_true rfl) (Nat.le_of_ble_eq_true rfl) d_Wo_isLetter_35
        · skip
          refine lv_iconst (v := nI 1) G.1 G.2.1 d_Wo_isLetter_30 (by decide) ?_
          refine lv_goto (tgt := 35) G.1 G.2.1 d_Wo_isLetter_31 (by decide) ?_
          refine hret (nI 1) () _ _ _ _ _ ls (by decide) (Or.inl ⟨rfl, by simp [isL, c3, c15, c21, c27]⟩) (hP.sub [] rfl) (hD.sub [] (by decide) rfl) hS (Nat.le_of_ble_eq_true rfl) (Nat.le_of_ble_eq_true rfl) d_Wo_isLetter_35
  · skip
    refine lv_iload_n G.1 G.2.1 d_Wo_isLetter_6 rfl (lv_at hl 0 rfl) ?_
    refine lv_bipush (v := nI 122) G.1 G.2.1 d_Wo_isLetter_7 (by decide) ?_
    refine lv_icmp_le (tgt := 30) G.1 G.2.1 d_Wo_isLetter_9 (by decide) (fun c9 => ?_) (fun c9 => ?_)
    · skip
      refine lv_iconst (v := nI 1) G.1 G.2.1 d_Wo_isLetter_30 (by decide) ?_
      refine lv_goto (tgt := 35) G.1 G.2.1 d_Wo_isLetter_31 (by decide) ?_
      refine hret (nI 1) () _ _ _ _ _ ls (by decide) (Or.inl ⟨rfl, by simp [isL, c3, c9]⟩) (hP.sub [] rfl) (hD.sub [] (by decide) rfl) hS (Nat.le_of_ble_eq_true rfl) (Nat.le_of_ble_eq_true rfl) d_Wo_isLetter_35
    · skip
      refine lv_iload_n G.1 G.2.1 d_Wo_isLetter_12 rfl (lv_at hl 0 rfl) ?_
      refine lv_bipush (v := nI 65) G.1 G.2.1 d_Wo_isLetter_13 (by decide) ?_
      refine lv_icmp_lt (tgt := 24) G.1 G.2.1 d_Wo_isLetter_15 (by decide) (fun c15 => ?_) (fun c15 => ?_)
      · skip
        refine lv_iload_n G.1 G.2.1 d_Wo_isLetter_24 rfl (lv_at hl 0 rfl) ?_
        refine lv_bipush (v := nI 95) G.1 G.2.1 d_Wo_isLetter_25 (by decide) ?_
        refine W.eq (g2 := F0 m 27 ls [.int (nI 95), .int x9]) rfl ?_
        refine lv_icmp_ne (tgt := 34) G.1 G.2.1 d_Wo_isLetter_27 (by decide) (fun c27 => ?_) (fun c27 => ?_)
        · skip
          refine lv_iconst (v := nI 0) G.1 G.2.1 d_Wo_isLetter_34 (by decide) ?_
          refine hret (nI 0) () _ _ _ _ _ ls (by decide) (Or.inr ⟨rfl, by simp [isL, c3, c9, c15, c27]⟩) (hP.sub [] rfl) (hD.sub [] (by decide) rfl) hS (Nat.le_of_ble_eq_true rfl) (Nat.le_of_ble_eq_true rfl) d_Wo_isLetter_35
        · skip
          refine lv_iconst (v := nI 1) G.1 G.2.1 d_Wo_isLetter_30 (by decide) ?_
          refine lv_goto (tgt := 35) G.1 G.2.1 d_Wo_isLetter_31 (by decide) ?_
          refine hret (nI 1) () _ _ _ _ _ ls (by decide) (Or.inl ⟨rfl, by simp [isL, c3, c9, c15, c27]⟩) (hP.sub [] rfl) (hD.sub [] (by decide) rfl) hS (Nat.le_of_ble_eq_true rfl) (Nat.le_of_ble_eq_true rfl) d_Wo_isLetter_35
      · skip
        refine lv_iload_n G.1 G.2.1 d_Wo_isLetter_18 rfl (lv_at hl 0 rfl) ?_
        refine lv_bipush (v := nI 90) G.1 G.2.1 d_Wo_isLetter_19 (by decide) ?_
        refine W.eq (g2 := F0 m 21 ls [.int (nI 90), .int x9]) rfl ?_
        refine lv_icmp_le (tgt := 30) G.1 G.2.1 d_Wo_isLetter_21 (by decide) (fun c21 => ?_) (fun c21 => ?_)
        · skip
          refine lv_iconst (v := nI 1) G.1 G.2.1 d_Wo_isLetter_30 (by decide) ?_
          refine lv_goto (tgt := 35) G.1 G.2.1 d_Wo_isLetter_31 (by decide) ?_
          refine hret (nI 1) () _ _ _ _ _ ls (by decide) (Or.inl ⟨rfl, by simp [isL, c3, c9, c15, c21]⟩) (hP.sub [] rfl) (hD.sub [] (by decide) rfl) hS (Nat.le_of_ble_eq_true rfl) (Nat.le_of_ble_eq_true rfl) d_Wo_isLetter_35
        · skip
          refine lv_iload_n G.1 G.2.1 d_Wo_isLetter_24 rfl (lv_at hl 0 rfl) ?_
          refine lv_bipush (v := nI 95) G.1 G.2.1 d_Wo_isLetter_25 (by decide) ?_
          refine lv_icmp_ne (tgt := 34) G.1 G.2.1 d_Wo_isLetter_27 (by decide) (fun c27 => ?_) (fun c27 => ?_)
          · skip
            refine lv_iconst (v := nI 0) G.1 G.2.1 d_Wo_isLetter_34 (by decide) ?_
            refine hret (nI 0) () _ _ _ _ _ ls (by decide) (Or.inr ⟨rfl, by simp [isL, c3, c9, c15, c21, c27]⟩) (hP.sub [] rfl) (hD.sub [] (by decide) rfl) hS (Nat.le_of_ble_eq_true rfl) (Nat.le_of_ble_eq_true rfl) d_Wo_isLetter_35
          · skip
            refine lv_iconst (v := nI 1) G.1 G.2.1 d_Wo_isLetter_30 (by decide) ?_
            refine lv_goto (tgt := 35) G.1 G.2.1 d_Wo_isLetter_31 (by decide) ?_
            refine hret (nI 1) () _ _ _ _ _ ls (by decide) (Or.inl ⟨rfl, by simp [isL, c3, c9, c15, c21, c27]⟩) (hP.sub [] rfl) (hD.sub [] (by decide) rfl) hS (Nat.le_of_ble_eq_true rfl) (Nat.le_of_ble_eq_true rfl) d_Wo_isLetter_35
def y_Wo_isDigit : MethodName := ⟨"ClassWorks$Words", "isDigit", "(I)Z"⟩
abbrev b_Wo_isDigit : ByteArray := prog_10_method_9_code
theorem d_Wo_isDigit_0 : decode b_Wo_isDigit 0 = .ok (.iload_n 0, 1) := by decide +kernel
theorem d_Wo_isDigit_1 : decode b_Wo_isDigit 1 = .ok (.bipush 48, 2) := by decide +kernel
theorem d_Wo_isDigit_3 : decode b_Wo_isDigit 3 = .ok (.if_icmp .lt 13, 3) := by decide +kernel
theorem d_Wo_isDigit_6 : decode b_Wo_isDigit 6 = .ok (.iload_n 0, 1) := by decide +kernel
theorem d_Wo_isDigit_7 : decode b_Wo_isDigit 7 = .ok (.bipush 57, 2) := by decide +kernel
theorem d_Wo_isDigit_9 : decode b_Wo_isDigit 9 = .ok (.if_icmp .gt 7, 3) := by decide +kernel
theorem d_Wo_isDigit_12 : decode b_Wo_isDigit 12 = .ok (.iconst 1, 1) := by decide +kernel
theorem d_Wo_isDigit_13 : decode b_Wo_isDigit 13 = .ok (.goto 4, 3) := by decide +kernel
theorem d_Wo_isDigit_16 : decode b_Wo_isDigit 16 = .ok (.iconst 0, 1) := by decide +kernel
theorem d_Wo_isDigit_17 : decode b_Wo_isDigit 17 = .ok (.ireturn, 1) := by decide +kernel
abbrev rm_Wo_isDigit : Room := { frames := 0, cells := 0, slots := 0, locals := 0 }
set_option maxHeartbeats 4000000 in
set_option maxRecDepth 100000 in
/-- isDigit -/
theorem c_Wo_isDigit (l : Launch) (D : va_G) (g : Nat → ClassId) (x9 : Int32) (sz : Nat)  : Met l y_Wo_isDigit (mw y_Wo_isDigit b_Wo_isDigit 1 (some (.boolean))) (rm_Wo_isDigit) (PC g D [] [.int x9] sz []) (va_Qi (fun (r : Int32) (u : Unit) => (r = 1 ∧ isD x9) ∨ (r = 0 ∧ ¬ isD x9)) (QW D (va_A [] sz) (fun u : Unit => [])) (va_A [] sz)) 0 0 (va_A [] sz) := by
  refine ofZ (by decide +kernel) (Nat.le_of_ble_eq_true rfl) ?_
  intro p e s m args below meth c A Q ls H locs G hsz hP hD hS hl hret
  subst hsz
  have hl : lv_has ls 1 [(0, .int x9)] := hl
  refine lv_iload_n G.1 G.2.1 d_Wo_isDigit_0 rfl (lv_at hl 0 rfl) ?_
  refine lv_bipush (v := nI 48) G.1 G.2.1 d_Wo_isDigit_1 (by decide) ?_
  refine lv_icmp_lt (tgt := 16) G.1 G.2.1 d_Wo_isDigit_3 (by decide) (fun c3 => ?_) (fun c3 => ?_)
  · skip
    refine lv_iconst (v := nI 0) G.1 G.2.1 d_Wo_isDigit_16 (by decide) ?_
    refine hret (nI 0) () _ _ _ _ _ ls (by decide) (Or.inr ⟨rfl, by simp [isD, c3]⟩) (hP.sub [] rfl) (hD.sub [] (by decide) rfl) hS (Nat.le_of_ble_eq_true rfl) (Nat.le_of_ble_eq_true rfl) d_Wo_isDigit_17
  · skip
    refine lv_iload_n G.1 G.2.1 d_Wo_isDigit_6 rfl (lv_at hl 0 rfl) ?_
    refine lv_bipush (v := nI 57) G.1 G.2.1 d_Wo_isDigit_7 (by decide) ?_
    refine lv_icmp_gt (tgt := 16) G.1 G.2.1 d_Wo_isDigit_9 (by decide) (fun c9 => ?_) (fun c9 => ?_)
    · skip
      refine lv_iconst (v := nI 0) G.1 G.2.1 d_Wo_isDigit_16 (by decide) ?_
      refine hret (nI 0) () _ _ _ _ _ ls (by decide) (Or.inr ⟨rfl, by simp [isD, c3, c9]⟩) (hP.sub [] rfl) (hD.sub [] (by decide) rfl) hS (Nat.le_of_ble_eq_true rfl) (Nat.le_of_ble_eq_true rfl) d_Wo_isDigit_17
    · skip
      refine lv_iconst (v := nI 1) G.1 G.2.1 d_Wo_isDigit_12 (by decide) ?_
      refine lv_goto (tgt := 17) G.1 G.2.1 d_Wo_isDigit_13 (by decide) ?_
      refine hret (nI 1) () _ _ _ _ _ ls (by decide) (Or.inl ⟨rfl, by simp [isD, c3, c9]⟩) (hP.sub [] rfl) (hD.sub [] (by decide) rfl) hS (Nat.le_of_ble_eq_true rfl) (Nat.le_of_ble_eq_true rfl) d_Wo_isDigit_17
def y_Wo_isSign : MethodName := ⟨"ClassWorks$Words", "isSign", "(I)Z"⟩
abbrev b_Wo_isSign : ByteArray := prog_10_method_10_code
theorem d_Wo_isSign_0 : decode b_Wo_isSign 0 = .ok (.iload_n 0, 1) := by decide +kernel
theorem d_Wo_isSign_1 : decode b_Wo_isSign 1 = .ok (.bipush 58, 2) := by decide +kernel
theorem d_Wo_isSign_3 : decode b_Wo_isSign 3 = .ok (.if_icmp .eq 39, 3) := by decide +kernel
theorem d_Wo_isSign_6 : decode b_Wo_isSign 6 = .ok (.iload_n 0, 1) := by decide +kernel
theorem d_Wo_isSign_7 : decode b_Wo_isSign 7 = .ok (.bipush 44, 2) := by decide +kernel
theorem d_Wo_isSign_9 : decode b_Wo_isSign 9 = .ok (.if_icmp .eq 33, 3) := by decide +kernel
theorem d_Wo_isSign_12 : decode b_Wo_isSign 12 = .ok (.iload_n 0, 1) := by decide +kernel
theorem d_Wo_isSign_13 : decode b_Wo_isSign 13 = .ok (.bipush 59, 2) := by decide +kernel
theorem d_Wo_isSign_15 : decode b_Wo_isSign 15 = .ok (.if_icmp .eq 27, 3) := by decide +kernel
theorem d_Wo_isSign_18 : decode b_Wo_isSign 18 = .ok (.iload_n 0, 1) := by decide +kernel
theorem d_Wo_isSign_19 : decode b_Wo_isSign 19 = .ok (.bipush 40, 2) := by decide +kernel
theorem d_Wo_isSign_21 : decode b_Wo_isSign 21 = .ok (.if_icmp .eq 21, 3) := by decide +kernel
theorem d_Wo_isSign_24 : decode b_Wo_isSign 24 = .ok (.iload_n 0, 1) := by decide +kernel
theorem d_Wo_isSign_25 : decode b_Wo_isSign 25 = .ok (.bipush 41, 2) := by decide +kernel
theorem d_Wo_isSign_27 : decode b_Wo_isSign 27 = .ok (.if_icmp .eq 15, 3) := by decide +kernel
theorem d_Wo_isSign_30 : decode b_Wo_isSign 30 = .ok (.iload_n 0, 1) := by decide +kernel
theorem d_Wo_isSign_31 : decode b_Wo_isSign 31 = .ok (.bipush 46, 2) := by decide +kernel
theorem d_Wo_isSign_33 : decode b_Wo_isSign 33 = .ok (.if_icmp .eq 9, 3) := by decide +kernel
theorem d_Wo_isSign_36 : decode b_Wo_isSign 36 = .ok (.iload_n 0, 1) := by decide +kernel
theorem d_Wo_isSign_37 : decode b_Wo_isSign 37 = .ok (.bipush 61, 2) := by decide +kernel
theorem d_Wo_isSign_39 : decode b_Wo_isSign 39 = .ok (.if_icmp .ne 7, 3) := by decide +kernel
theorem d_Wo_isSign_42 : decode b_Wo_isSign 42 = .ok (.iconst 1, 1) := by decide +kernel
theorem d_Wo_isSign_43 : decode b_Wo_isSign 43 = .ok (.goto 4, 3) := by decide +kernel
theorem d_Wo_isSign_46 : decode b_Wo_isSign 46 = .ok (.iconst 0, 1) := by decide +kernel
theorem d_Wo_isSign_47 : decode b_Wo_isSign 47 = .ok (.ireturn, 1) := by decide +kernel
abbrev rm_Wo_isSign : Room := { frames := 0, cells := 0, slots := 0, locals := 0 }
set_option maxHeartbeats 4000000 in
set_option maxRecDepth 100000 in
/-- isSign -/
theorem c_Wo_isSign (l : Launch) (D : va_G) (g : Nat → ClassId) (x9 : Int32) (sz : Nat)  : Met l y_Wo_isSign (mw y_Wo_isSign b_Wo_isSign 1 (some (.boolean))) (rm_Wo_isSign) (PC g D [] [.int x9] sz []) (va_Qi (fun (r : Int32) (u : Unit) => r = 1 ∨ r = 0) (QW D (va_A [] sz) (fun u : Unit => [])) (va_A [] sz)) 0 0 (va_A [] sz) := by
  refine ofZ (by decide +kernel) (Nat.le_of_ble_eq_true rfl) ?_
  intro p e s m args below meth c A Q ls H locs G hsz hP hD hS hl hret
  subst hsz
  have hl : lv_has ls 1 [(0, .int x9)] := hl
  refine lv_iload_n G.1 G.2.1 d_Wo_isSign_0 rfl (lv_at hl 0 rfl) ?_
  refine lv_bipush (v := nI 58) G.1 G.2.1 d_Wo_isSign_1 (by decide) ?_
  refine lv_icmp_eq (tgt := 42) G.1 G.2.1 d_Wo_isSign_3 (by decide) (fun c3 => ?_) (fun c3 => ?_)
  · skip
    refine lv_iconst (v := nI 1) G.1 G.2.1 d_Wo_isSign_42 (by decide) ?_
    refine lv_goto (tgt := 47) G.1 G.2.1 d_Wo_isSign_43 (by decide) ?_
    refine hret (nI 1) () _ _ _ _ _ ls (by decide) (Or.inl rfl) (hP.sub [] rfl) (hD.sub [] (by decide) rfl) hS (Nat.le_of_ble_eq_true rfl) (Nat.le_of_ble_eq_true rfl) d_Wo_isSign_47
  · skip
    refine lv_iload_n G.1 G.2.1 d_Wo_isSign_6 rfl (lv_at hl 0 rfl) ?_
    refine lv_bipush (v := nI 44) G.1 G.2.1 d_Wo_isSign_7 (by decide) ?_
    refine lv_icmp_eq (tgt := 42) G.1 G.2.1 d_Wo_isSign_9 (by decide) (fun c9 => ?_) (fun c9 => ?_)
    · skip
      refine lv_iconst (v := nI 1) G.1 G.2.1 d_Wo_isSign_42 (by decide) ?_
      refine lv_goto (tgt := 47) G.1 G.2.1 d_Wo_isSign_43 (by decide) ?_
      refine hret (nI 1) () _ _ _ _ _ ls (by decide) (Or.inl rfl) (hP.sub [] rfl) (hD.sub [] (by decide) rfl) hS (Nat.le_of_ble_eq_true rfl) (Nat.le_of_ble_eq_true rfl) d_Wo_isSign_47
    · skip
      refine lv_iload_n G.1 G.2.1 d_Wo_isSign_12 rfl (lv_at hl 0 rfl) ?_
      refine lv_bipush (v := nI 59) G.1 G.2.1 d_Wo_isSign_13 (by decide) ?_
      refine lv_icmp_eq (tgt := 42) G.1 G.2.1 d_Wo_isSign_15 (by decide) (fun c15 => ?_) (fun c15 => ?_)
      · skip
        refine lv_iconst (v := nI 1) G.1 G.2.1 d_Wo_isSign_42 (by decide) ?_
        refine lv_goto (tgt := 47) G.1 G.2.1 d_Wo_isSign_43 (by decide) ?_
        refine W.eq (g2 := F0 m 47 ls [.int (nI 1)]) rfl ?_
        refine hret (nI 1) () _ _ _ _ _ ls (by decide) (Or.inl rfl) (hP.sub [] rfl) (hD.sub [] (by decide) rfl) hS (Nat.le_of_ble_eq_true rfl) (Nat.le_of_ble_eq_true rfl) d_Wo_isSign_47
      · skip
        refine lv_iload_n G.1 G.2.1 d_Wo_isSign_18 rfl (lv_at hl 0 rfl) ?_
        refine lv_bipush (v := nI 40) G.1 G.2.1 d_Wo_isSign_19 (by decide) ?_
        refine W.eq (g2 := F0 m 21 ls [.int (nI 40), .int x9]) rfl ?_
        refine lv_icmp_eq (tgt := 42) G.1 G.2.1 d_Wo_isSign_21 (by decide) (fun c21 => ?_) (fun c21 => ?_)
        · skip
          refine lv_iconst (v := nI 1) G.1 G.2.1 d_Wo_isSign_42 (by decide) ?_
          refine lv_goto (tgt := 47) G.1 G.2.1 d_Wo_isSign_43 (by decide) ?_
          refine hret (nI 1) () _ _ _ _ _ ls (by decide) (Or.inl rfl) (hP.sub [] rfl) (hD.sub [] (by decide) rfl) hS (Nat.le_of_ble_eq_true rfl) (Nat.le_of_ble_eq_true rfl) d_Wo_isSign_47
        · skip
          refine lv_iload_n G.1 G.2.1 d_Wo_isSign_24 rfl (lv_at hl 0 rfl) ?_
          refine lv_bipush (v := nI 41) G.1 G.2.1 d_Wo_isSign_25 (by decide) ?_
          refine lv_icmp_eq (tgt := 42) G.1 G.2.1 d_Wo_isSign_27 (by decide) (fun c27 => ?_) (fun c27 => ?_)
          · skip
            refine lv_iconst (v := nI 1) G.1 G.2.1 d_Wo_isSign_42 (by decide) ?_
            refine lv_goto (tgt := 47) G.1 G.2.1 d_Wo_isSign_43 (by decide) ?_
            refine hret (nI 1) () _ _ _ _ _ ls (by decide) (Or.inl rfl) (hP.sub [] rfl) (hD.sub [] (by decide) rfl) hS (Nat.le_of_ble_eq_true rfl) (Nat.le_of_ble_eq_true rfl) d_Wo_isSign_47
          · skip
            refine lv_iload_n G.1 G.2.1 d_Wo_isSign_30 rfl (lv_at hl 0 rfl) ?_
            refine lv_bipush (v := nI 46) G.1 G.2.1 d_Wo_isSign_31 (by decide) ?_
            refine lv_icmp_eq (tgt := 42) G.1 G.2.1 d_Wo_isSign_33 (by decide) (fun c33 => ?_) (fun c33 => ?_)
            · skip
              refine lv_iconst (v := nI 1) G.1 G.2.1 d_Wo_isSign_42 (by decide) ?_
              refine lv_goto (tgt := 47) G.1 G.2.1 d_Wo_isSign_43 (by decide) ?_
              refine hret (nI 1) () _ _ _ _ _ ls (by decide) (Or.inl rfl) (hP.sub [] rfl) (hD.sub [] (by decide) rfl) hS (Nat.le_of_ble_eq_true rfl) (Nat.le_of_ble_eq_true rfl) d_Wo_isSign_47
            · skip
              refine lv_iload_n G.1 G.2.1 d_Wo_isSign_36 rfl (lv_at hl 0 rfl) ?_
              refine lv_bipush (v := nI 61) G.1 G.2.1 d_Wo_isSign_37 (by decide) ?_
              refine lv_icmp_ne (tgt := 46) G.1 G.2.1 d_Wo_isSign_39 (by decide) (fun c39 => ?_) (fun c39 => ?_)
              · skip
                refine lv_iconst (v := nI 0) G.1 G.2.1 d_Wo_isSign_46 (by decide) ?_
                refine hret (nI 0) () _ _ _ _ _ ls (by decide) (Or.inr rfl) (hP.sub [] rfl) (hD.sub [] (by decide) rfl) hS (Nat.le_of_ble_eq_true rfl) (Nat.le_of_ble_eq_true rfl) d_Wo_isSign_47
              · skip
                refine lv_iconst (v := nI 1) G.1 G.2.1 d_Wo_isSign_42 (by decide) ?_
                refine lv_goto (tgt := 47) G.1 G.2.1 d_Wo_isSign_43 (by decide) ?_
                refine W.eq (g2 := F0 m 47 ls [.int (nI 1)]) rfl ?_
                refine hret (nI 1) () _ _ _ _ _ ls (by decide) (Or.inl rfl) (hP.sub [] rfl) (hD.sub [] (by decide) rfl) hS (Nat.le_of_ble_eq_true rfl) (Nat.le_of_ble_eq_true rfl) d_Wo_isSign_47
def y_Wo_add : MethodName := ⟨"ClassWorks$Words", "add", "(III)V"⟩
abbrev b_Wo_add : ByteArray := prog_10_method_3_code
theorem q547 : Cond.fieldLink "ClassWorks$Words" 9 "ClassWorks$Words" "kind" "[I" ∈ lw_ok := lw_okmem (List.mem_of_getElem? (i := 547) (by decide +kernel)) rfl
theorem q557 : Cond.fieldLink "ClassWorks$Words" 25 "ClassWorks$Words" "count" "I" ∈ lw_ok := lw_okmem (List.mem_of_getElem? (i := 557) (by decide +kernel)) rfl
theorem q549 : Cond.fieldLink "ClassWorks$Words" 15 "ClassWorks$Words" "value" "[I" ∈ lw_ok := lw_okmem (List.mem_of_getElem? (i := 549) (by decide +kernel)) rfl
theorem q551 : Cond.fieldLink "ClassWorks$Words" 18 "ClassWorks$Words" "at" "[I" ∈ lw_ok := lw_okmem (List.mem_of_getElem? (i := 551) (by decide +kernel)) rfl
theorem d_Wo_add_0 : decode b_Wo_add 0 = .ok (.aload_n 0, 1) := by decide +kernel
theorem d_Wo_add_1 : decode b_Wo_add 1 = .ok (.getfield 9, 3) := by decide +kernel
theorem d_Wo_add_4 : decode b_Wo_add 4 = .ok (.aload_n 0, 1) := by decide +kernel
theorem d_Wo_add_5 : decode b_Wo_add 5 = .ok (.getfield 25, 3) := by decide +kernel
theorem d_Wo_add_8 : decode b_Wo_add 8 = .ok (.iload_n 1, 1) := by decide +kernel
theorem d_Wo_add_9 : decode b_Wo_add 9 = .ok (.iastore, 1) := by decide +kernel
theorem d_Wo_add_10 : decode b_Wo_add 10 = .ok (.aload_n 0, 1) := by decide +kernel
theorem d_Wo_add_11 : decode b_Wo_add 11 = .ok (.getfield 15, 3) := by decide +kernel
theorem d_Wo_add_14 : decode b_Wo_add 14 = .ok (.aload_n 0, 1) := by decide +kernel
theorem d_Wo_add_15 : decode b_Wo_add 15 = .ok (.getfield 25, 3) := by decide +kernel
theorem d_Wo_add_18 : decode b_Wo_add 18 = .ok (.iload_n 2, 1) := by decide +kernel
theorem d_Wo_add_19 : decode b_Wo_add 19 = .ok (.iastore, 1) := by decide +kernel
theorem d_Wo_add_20 : decode b_Wo_add 20 = .ok (.aload_n 0, 1) := by decide +kernel
theorem d_Wo_add_21 : decode b_Wo_add 21 = .ok (.getfield 18, 3) := by decide +kernel
theorem d_Wo_add_24 : decode b_Wo_add 24 = .ok (.aload_n 0, 1) := by decide +kernel
theorem d_Wo_add_25 : decode b_Wo_add 25 = .ok (.getfield 25, 3) := by decide +kernel
theorem d_Wo_add_28 : decode b_Wo_add 28 = .ok (.iload_n 3, 1) := by decide +kernel
theorem d_Wo_add_29 : decode b_Wo_add 29 = .ok (.iastore, 1) := by decide +kernel
theorem d_Wo_add_30 : decode b_Wo_add 30 = .ok (.aload_n 0, 1) := by decide +kernel
theorem d_Wo_add_31 : decode b_Wo_add 31 = .ok (.dup, 1) := by decide +kernel
theorem d_Wo_add_32 : decode b_Wo_add 32 = .ok (.getfield 25, 3) := by decide +kernel
theorem d_Wo_add_35 : decode b_Wo_add 35 = .ok (.iconst 1, 1) := by decide +kernel
theorem d_Wo_add_36 : decode b_Wo_add 36 = .ok (.iadd, 1) := by decide +kernel
theorem d_Wo_add_37 : decode b_Wo_add 37 = .ok (.putfield 25, 3) := by decide +kernel
theorem d_Wo_add_40 : decode b_Wo_add 40 = .ok (.return_, 1) := by decide +kernel
abbrev rm_Wo_add : Room := { frames := 0, cells := 0, slots := 0, locals := 0 }
set_option maxHeartbeats 4000000 in
set_option maxRecDepth 100000 in
/-- add -/
theorem c_Wo_add (l : Launch) (D : va_G) (g : Nat → ClassId) (h0 : Nat) (k9 : Int32) (v9 : Int32) (p9 : Int32) (r_kind : Nat) (r_value : Nat) (r_at : Nat) (f_after : Int32) (r_names : Nat) (ct : Nat) (r_text : Nat) (f_end : Int32) (d_kind : Nat → Int32) (d_value : Nat → Int32) (d_at : Nat → Int32) (sz : Nat) (hct : ct < 6002) : Met l y_Wo_add (mw y_Wo_add b_Wo_add 4 (none)) (rm_Wo_add) (PC g D [] [.ref h0, .int k9, .int v9, .int p9] sz [(h0, .inr (8, [.ref r_kind, .ref r_value, .ref r_at, .int f_after, .ref r_names, .int (nI ct), .ref r_text, .int f_end])), (r_kind, .inl (g 0, 6002, .inl d_kind)), (r_value, .inl (g 0, 6002, .inl d_value)), (r_at, .inl (g 0, 6002, .inl d_at))]) (va_Qv (fun u : Unit => True) (QW D (va_A [(h0, .inr (8, [.ref r_kind, .ref r_value, .ref r_at, .int f_after, .ref r_names, .int (nI ct), .ref r_text, .int f_end])), (r_kind, .inl (g 0, 6002, .inl d_kind)), (r_value, .inl (g 0, 6002, .inl d_value)), (r_at, .inl (g 0, 6002, .inl d_at))] sz) (fun u : Unit => [(h0, .inr (8, [.ref r_kind, .ref r_value, .ref r_at, .int f_after, .ref r_names, .int (nI (ct + 1)), .ref r_text, .int f_end])), (r_kind, .inl (g 0, 6002, .inl (upd d_kind ct k9))), (r_value, .inl (g 0, 6002, .inl (upd d_value ct v9))), (r_at, .inl (g 0, 6002, .inl (upd d_at ct p9)))])) (va_A [(h0, .inr (8, [.ref r_kind, .ref r_value, .ref r_at, .int f_after, .ref r_names, .int (nI ct), .ref r_text, .int f_end])), (r_kind, .inl (g 0, 6002, .inl d_kind)), (r_value, .inl (g 0, 6002, .inl d_value)), (r_at, .inl (g 0, 6002, .inl d_at))] sz)) 0 0 (va_A [(h0, .inr (8, [.ref r_kind, .ref r_value, .ref r_at, .int f_after, .ref r_names, .int (nI ct), .ref r_text, .int f_end])), (r_kind, .inl (g 0, 6002, .inl d_kind)), (r_value, .inl (g 0, 6002, .inl d_value)), (r_at, .inl (g 0, 6002, .inl d_at))] sz) := by
  refine ofV (by decide +kernel) (Nat.le_of_ble_eq_true rfl) ?_
  intro p e s m args below meth c A Q ls H locs G hsz hP hD hS hl hret
  subst hsz
  have hl : lv_has ls 4 [(0, .ref h0), (1, .int k9), (2, .int v9), (3, .int p9)] := hl
  refine lv_aload_n G.1 G.2.1 d_Wo_add_0 rfl (lv_at hl 0 rfl) ?_
  refine kg (ci := 8) G iWo hP 0 rfl rfl 0 (by decide) q547 rfl rfl d_Wo_add_1 ?_
  refine lv_aload_n G.1 G.2.1 d_Wo_add_4 rfl (lv_at hl 0 rfl) ?_
  refine kg (ci := 8) G iWo hP 0 rfl rfl 5 (by decide) q557 rfl rfl d_Wo_add_5 ?_
  refine lv_iload_n G.1 G.2.1 d_Wo_add_8 rfl (lv_at hl 1 rfl) ?_
  refine kiast G hP hD hS 1 0 rfl rfl (by omega) (by omega) d_Wo_add_9 (fun H locs hP hD hS => ?_)
  have hP : va_P D CL [(h0, .inr (8, [.ref r_kind, .ref r_value, .ref r_at, .int f_after, .ref r_names, .int (nI ct), .ref r_text, .int f_end])), (r_kind, .inl (g 0, 6002, .inl (upd d_kind ct k9))), (r_value, .inl (g 0, 6002, .inl d_value)), (r_at, .inl (g 0, 6002, .inl d_at))] H := hP
  have hD : va_D A [(h0, .inr (8, [.ref r_kind, .ref r_value, .ref r_at, .int f_after, .ref r_names, .int (nI ct), .ref r_text, .int f_end])), (r_kind, .inl (g 0, 6002, .inl (upd d_kind ct k9))), (r_value, .inl (g 0, 6002, .inl d_value)), (r_at, .inl (g 0, 6002, .inl d_at))] := hD
  refine lv_aload_n G.1 G.2.1 d_Wo_add_10 rfl (lv_at hl 0 rfl) ?_
  refine kg (ci := 8) G iWo hP 0 rfl rfl 1 (by decide) q549 rfl rfl d_Wo_add_11 ?_
  refine lv_aload_n G.1 G.2.1 d_Wo_add_14 rfl (lv_at hl 0 rfl) ?_
  refine kg (ci := 8) G iWo hP 0 rfl rfl 5 (by decide) q557 rfl rfl d_Wo_add_15 ?_
  refine lv_iload_n G.1 G.2.1 d_Wo_add_18 rfl (lv_at hl 2 rfl) ?_
  refine W.eq (g2 := F0 m 19 ls [.int v9, .int (nI ct), .ref r_value]) rfl ?_
  refine kiast G hP hD hS 2 0 rfl rfl (by omega) (by omega) d_Wo_add_19 (fun H locs hP hD hS => ?_)
  have hP : va_P D CL [(h0, .inr (8, [.ref r_kind, .ref r_value, .ref r_at, .int f_after, .ref r_names, .int (nI ct), .ref r_text, .int f_end])), (r_kind, .inl (g 0, 6002, .inl (upd d_kind ct k9))), (r_value, .inl (g 0, 6002, .inl (upd d_value ct v9))), (r_at, .inl (g 0, 6002, .inl d_at))] H := hP
  have hD : va_D A [(h0, .inr (8, [.ref r_kind, .ref r_value, .ref r_at, .int f_after, .ref r_names, .int (nI ct), .ref r_text, .int f_end])), (r_kind, .inl (g 0, 6002, .inl (upd d_kind ct k9))), (r_value, .inl (g 0, 6002, .inl (upd d_value ct v9))), (r_at, .inl (g 0, 6002, .inl d_at))] := hD
  refine lv_aload_n G.1 G.2.1 d_Wo_add_20 rfl (lv_at hl 0 rfl) ?_
  refine kg (ci := 8) G iWo hP 0 rfl rfl 2 (by decide) q551 rfl rfl d_Wo_add_21 ?_
  refine lv_aload_n G.1 G.2.1 d_Wo_add_24 rfl (lv_at hl 0 rfl) ?_
  refine kg (ci := 8) G iWo hP 0 rfl rfl 5 (by decide) q557 rfl rfl d_Wo_add_25 ?_
  refine lv_iload_n G.1 G.2.1 d_Wo_add_28 rfl (lv_at hl 3 rfl) ?_
  refine kiast G hP hD hS 3 0 rfl rfl (by omega) (by omega) d_Wo_add_29 (fun H locs hP hD hS => ?_)
  have hP : va_P D CL [(h0, .inr (8, [.ref r_kind, .ref r_value, .ref r_at, .int f_after, .ref r_names, .int (nI ct), .ref r_text, .int f_end])), (r_kind, .inl (g 0, 6002, .inl (upd d_kind ct k9))), (r_value, .inl (g 0, 6002, .inl (upd d_value ct v9))), (r_at, .inl (g 0, 6002, .inl (upd d_at ct p9)))] H := hP
  have hD : va_D A [(h0, .inr (8, [.ref r_kind, .ref r_value, .ref r_at, .int f_after, .ref r_names, .int (nI ct), .ref r_text, .int f_end])), (r_kind, .inl (g 0, 6002, .inl (upd d_kind ct k9))), (r_value, .inl (g 0, 6002, .inl (upd d_value ct v9))), (r_at, .inl (g 0, 6002, .inl (upd d_at ct p9)))] := hD
  refine lv_aload_n G.1 G.2.1 d_Wo_add_30 rfl (lv_at hl 0 rfl) ?_
  refine lv_dup G.1 G.2.1 d_Wo_add_31 rfl ?_
  refine kg (ci := 8) G iWo hP 0 rfl rfl 5 (by decide) q557 rfl rfl d_Wo_add_32 ?_
  refine lv_iconst (v := nI 1) G.1 G.2.1 d_Wo_add_35 (by decide) ?_
  refine lv_iadd G.1 G.2.1 d_Wo_add_36 ?_
  refine tpi (w := nI (ct + 1)) (nI_add _ _) ?_
  refine W.eq (g2 := F0 m 37 ls [.int (nI (ct + 1)), .ref h0]) rfl ?_
  refine kp (ci := 8) G iWo tWo tWo_ok nWo hP hD hS 0 rfl rfl 5 (by decide) q557 rfl rfl rfl rfl (Nat.le_of_ble_eq_true rfl) d_Wo_add_37 (fun H locs hP hD hS => ?_)
  have hP : va_P D CL [(h0, .inr (8, [.ref r_kind, .ref r_value, .ref r_at, .int f_after, .ref r_names, .int (nI (ct + 1)), .ref r_text, .int f_end])), (r_kind, .inl (g 0, 6002, .inl (upd d_kind ct k9))), (r_value, .inl (g 0, 6002, .inl (upd d_value ct v9))), (r_at, .inl (g 0, 6002, .inl (upd d_at ct p9)))] H := hP
  have hD : va_D A [(h0, .inr (8, [.ref r_kind, .ref r_value, .ref r_at, .int f_after, .ref r_names, .int (nI (ct + 1)), .ref r_text, .int f_end])), (r_kind, .inl (g 0, 6002, .inl (upd d_kind ct k9))), (r_value, .inl (g 0, 6002, .inl (upd d_value ct v9))), (r_at, .inl (g 0, 6002, .inl (upd d_at ct p9)))] := hD
  refine hret () _ _ _ _ _ ls trivial (hP.sub [0, 1, 2, 3] rfl) (hD.sub [0, 1, 2, 3] (by decide) rfl) hS (Nat.le_of_ble_eq_true rfl) (Nat.le_of_ble_eq_true rfl) d_Wo_add_40
def y_Wo_nameEnd : MethodName := ⟨"ClassWorks$Words", "nameEnd", "(I)I"⟩
abbrev b_Wo_nameEnd : ByteArray := prog_10_method_5_code
theorem q559 : Cond.fieldLink "ClassWorks$Words" 28 "ClassWorks$Words" "end" "I" ∈ lw_ok := lw_okmem (List.mem_of_getElem? (i := 559) (by decide +kernel)) rfl
theorem q556 : Cond.fieldLink "ClassWorks$Words" 31 "ClassWorks$Words" "names" "LClassWorks$Names;" ∈ lw_ok := lw_okmem (List.mem_of_getElem? (i := 556) (by decide +kernel)) rfl
theorem q558 : Cond.fieldLink "ClassWorks$Words" 35 "ClassWorks$Words" "text" "[B" ∈ lw_ok := lw_okmem (List.mem_of_getElem? (i := 558) (by decide +kernel)) rfl
theorem q464 : Cond.code y_Na_number b_Na_number 6 (some .int) ∈ lw_ok := lw_okmem (List.mem_of_getElem? (i := 464) (by decide +kernel)) rfl
theorem q462 : Cond.instanceMethod y_Na_number ∈ lw_ok := lw_okmem (List.mem_of_getElem? (i := 462) (by decide +kernel)) rfl
theorem q463 : Cond.selects y_Na_number.cls y_Na_number y_Na_number ∈ lw_ok := lw_okmem (List.mem_of_getElem? (i := 463) (by decide +kernel)) rfl
theorem w_Na_number : CWv y_Na_number b_Na_number 6 (some .int) 3 ∧ Cond.instanceMethod y_Na_number ∈ lw_ok ∧ Cond.selects y_Na_number.cls y_Na_number y_Na_number ∈ lw_ok := ⟨⟨q464, q330, by decide +kernel, by decide +kernel, by decide +kernel⟩, q462, q463⟩
theorem q1282 : Cond.methodLink "ClassWorks$Words" 66 y_Na_number ∈ lw_ok := lw_okmem (List.mem_of_getElem? (i := 1282) (by decide +kernel)) rfl
theorem q1286 : Cond.code y_Wo_add b_Wo_add 4 (none) ∈ lw_ok := lw_okmem (List.mem_of_getElem? (i := 1286) (by decide +kernel)) rfl
theorem q339 : Cond.initialized "ClassWorks$Words" ∈ lw_ok := lw_okmem (List.mem_of_getElem? (i := 339) (by decide +kernel)) rfl
theorem q1285 : Cond.instanceMethod y_Wo_add ∈ lw_ok := lw_okmem (List.mem_of_getElem? (i := 1285) (by decide +kernel)) rfl
theorem q11 : Cond.selects y_Wo_add.cls y_Wo_add y_Wo_add ∈ lw_ok := lw_okmem (List.mem_of_getElem? (i := 11) (by decide +kernel)) rfl
theorem w_Wo_add : CWv y_Wo_add b_Wo_add 4 (none) 3 ∧ Cond.instanceMethod y_Wo_add ∈ lw_ok ∧ Cond.selects y_Wo_add.cls y_Wo_add y_Wo_add ∈ lw_ok := ⟨⟨q1286, q339, by decide +kernel, by decide +kernel, by decide +kernel⟩, q1285, q11⟩
theorem q1283 : Cond.methodLink "ClassWorks$Words" 43 y_Wo_add ∈ lw_ok := lw_okmem (List.mem_of_getElem? (i := 1283) (by decide +kernel)) rfl
theorem q1274 : Cond.code y_Wo_isLetter b_Wo_isLetter 1 (some (.boolean)) ∈ lw_ok := lw_okmem (List.mem_of_getElem? (i := 1274) (by decide +kernel)) rfl
theorem q1273 : Cond.static y_Wo_isLetter ∈ lw_ok := lw_okmem (List.mem_of_getElem? (i := 1273) (by decide +kernel)) rfl
theorem w_Wo_isLetter : CWv y_Wo_isLetter b_Wo_isLetter 1 (some (.boolean)) 1 ∧ Cond.static y_Wo_isLetter ∈ lw_ok := ⟨⟨q1274, q339, by decide +kernel, by decide +kernel, by decide +kernel⟩, q1273⟩
theorem q1272 : Cond.methodLink "ClassWorks$Words" 47 y_Wo_isLetter ∈ lw_ok := lw_okmem (List.mem_of_getElem? (i := 1272) (by decide +kernel)) rfl
theorem q1281 : Cond.code y_Wo_isDigit b_Wo_isDigit 1 (some (.boolean)) ∈ lw_ok := lw_okmem (List.mem_of_getElem? (i := 1281) (by decide +kernel)) rfl
theorem q1280 : Cond.static y_Wo_isDigit ∈ lw_ok := lw_okmem (List.mem_of_getElem? (i := 1280) (by decide +kernel)) rfl
theorem w_Wo_isDigit : CWv y_Wo_isDigit b_Wo_isDigit 1 (some (.boolean)) 1 ∧ Cond.static y_Wo_isDigit ∈ lw_ok := ⟨⟨q1281, q339, by decide +kernel, by decide +kernel, by decide +kernel⟩, q1280⟩
theorem q1279 : Cond.methodLink "ClassWorks$Words" 54 y_Wo_isDigit ∈ lw_ok := lw_okmem (List.mem_of_getElem? (i := 1279) (by decide +kernel)) rfl
theorem d_Wo_nameEnd_0 : decode b_Wo_nameEnd 0 = .ok (.iload_n 1, 1) := by decide +kernel
theorem d_Wo_nameEnd_1 : decode b_Wo_nameEnd 1 = .ok (.istore_n 2, 1) := by decide +kernel
theorem d_Wo_nameEnd_2 : decode b_Wo_nameEnd 2 = .ok (.iload_n 2, 1) := by decide +kernel
theorem d_Wo_nameEnd_3 : decode b_Wo_nameEnd 3 = .ok (.aload_n 0, 1) := by decide +kernel
theorem d_Wo_nameEnd_4 : decode b_Wo_nameEnd 4 = .ok (.getfield 28, 3) := by decide +kernel
theorem d_Wo_nameEnd_7 : decode b_Wo_nameEnd 7 = .ok (.if_icmp .ge 33, 3) := by decide +kernel
theorem d_Wo_nameEnd_10 : decode b_Wo_nameEnd 10 = .ok (.aload_n 0, 1) := by decide +kernel
theorem d_Wo_nameEnd_11 : decode b_Wo_nameEnd 11 = .ok (.getfield 35, 3) := by decide +kernel
theorem d_Wo_nameEnd_14 : decode b_Wo_nameEnd 14 = .ok (.iload_n 2, 1) := by decide +kernel
theorem d_Wo_nameEnd_15 : decode b_Wo_nameEnd 15 = .ok (.baload, 1) := by decide +kernel
theorem d_Wo_nameEnd_16 : decode b_Wo_nameEnd 16 = .ok (.invokestatic 47, 3) := by decide +kernel
theorem d_Wo_nameEnd_19 : decode b_Wo_nameEnd 19 = .ok (.ifCond .ne 15, 3) := by decide +kernel
theorem d_Wo_nameEnd_22 : decode b_Wo_nameEnd 22 = .ok (.aload_n 0, 1) := by decide +kernel
theorem d_Wo_nameEnd_23 : decode b_Wo_nameEnd 23 = .ok (.getfield 35, 3) := by decide +kernel
theorem d_Wo_nameEnd_26 : decode b_Wo_nameEnd 26 = .ok (.iload_n 2, 1) := by decide +kernel
theorem d_Wo_nameEnd_27 : decode b_Wo_nameEnd 27 = .ok (.baload, 1) := by decide +kernel
theorem d_Wo_nameEnd_28 : decode b_Wo_nameEnd 28 = .ok (.invokestatic 54, 3) := by decide +kernel
theorem d_Wo_nameEnd_31 : decode b_Wo_nameEnd 31 = .ok (.ifCond .eq 9, 3) := by decide +kernel
theorem d_Wo_nameEnd_34 : decode b_Wo_nameEnd 34 = .ok (.iinc 2 1, 3) := by decide +kernel
theorem d_Wo_nameEnd_37 : decode b_Wo_nameEnd 37 = .ok (.goto (-35), 3) := by decide +kernel
theorem d_Wo_nameEnd_40 : decode b_Wo_nameEnd 40 = .ok (.iload_n 2, 1) := by decide +kernel
theorem d_Wo_nameEnd_41 : decode b_Wo_nameEnd 41 = .ok (.iload_n 1, 1) := by decide +kernel
theorem d_Wo_nameEnd_42 : decode b_Wo_nameEnd 42 = .ok (.isub, 1) := by decide +kernel
theorem d_Wo_nameEnd_43 : decode b_Wo_nameEnd 43 = .ok (.bipush 12, 2) := by decide +kernel
theorem d_Wo_nameEnd_45 : decode b_Wo_nameEnd 45 = .ok (.if_icmp .le 5, 3) := by decide +kernel
theorem d_Wo_nameEnd_48 : decode b_Wo_nameEnd 48 = .ok (.iconst (-1), 1) := by decide +kernel
theorem d_Wo_nameEnd_49 : decode b_Wo_nameEnd 49 = .ok (.ireturn, 1) := by decide +kernel
theorem d_Wo_nameEnd_50 : decode b_Wo_nameEnd 50 = .ok (.aload_n 0, 1) := by decide +kernel
theorem d_Wo_nameEnd_51 : decode b_Wo_nameEnd 51 = .ok (.iconst 1, 1) := by decide +kernel
theorem d_Wo_nameEnd_52 : decode b_Wo_nameEnd 52 = .ok (.aload_n 0, 1) := by decide +kernel
theorem d_Wo_nameEnd_53 : decode b_Wo_nameEnd 53 = .ok (.getfield 31, 3) := by decide +kernel
theorem d_Wo_nameEnd_56 : decode b_Wo_nameEnd 56 = .ok (.aload_n 0, 1) := by decide +kernel
theorem d_Wo_nameEnd_57 : decode b_Wo_nameEnd 57 = .ok (.getfield 35, 3) := by decide +kernel
theorem d_Wo_nameEnd_60 : decode b_Wo_nameEnd 60 = .ok (.iload_n 1, 1) := by decide +kernel
theorem d_Wo_nameEnd_61 : decode b_Wo_nameEnd 61 = .ok (.iload_n 2, 1) := by decide +kernel
theorem d_Wo_nameEnd_62 : decode b_Wo_nameEnd 62 = .ok (.iload_n 1, 1) := by decide +kernel
theorem d_Wo_nameEnd_63 : decode b_Wo_nameEnd 63 = .ok (.isub, 1) := by decide +kernel
theorem d_Wo_nameEnd_64 : decode b_Wo_nameEnd 64 = .ok (.invokevirtual 66, 3) := by decide +kernel
theorem d_Wo_nameEnd_67 : decode b_Wo_nameEnd 67 = .ok (.iload_n 1, 1) := by decide +kernel
theorem d_Wo_nameEnd_68 : decode b_Wo_nameEnd 68 = .ok (.invokevirtual 43, 3) := by decide +kernel
theorem d_Wo_nameEnd_71 : decode b_Wo_nameEnd 71 = .ok (.iload_n 2, 1) := by decide +kernel
theorem d_Wo_nameEnd_72 : decode b_Wo_nameEnd 72 = .ok (.ireturn, 1) := by decide +kernel
abbrev rm_Wo_nameEnd (L : Nat) (k : Nat) : Room := { frames := 4, cells := (2 * L + 6 * k + 600), slots := 2 * (2 * L + 6 * k + 600), locals := 188 }
set_option maxHeartbeats 4000000 in
set_option maxRecDepth 100000 in
/-- nameEnd(i): where a name ends -/
theorem c_Wo_nameEnd (l : Launch) (D : va_G) (g : Nat → ClassId) (h0 : Nat) (i9 : Nat) (r_kind : Nat) (r_value : Nat) (r_at : Nat) (f_after : Int32) (nm : Nat) (ct : Nat) (tx : Nat) (e9 : Nat) (d_kind : Nat → Int32) (d_value : Nat → Int32) (d_at : Nat → Int32) (a1 : Nat) (a2 : Nat) (a3 : Nat) (a4 : Nat) (a5 : Nat) (a6 : Nat) (a7 : Nat) (a8 : Nat) (a9 : Nat) (mk : Int32) (stt : Int32) (b1 : Nat) (L : Nat) (n1 : Nat) (fl : Nat → Int32) (b2 : Nat) (k : Nat) (n2 : Nat) (fs : Nat → Int32) (b3 : Nat) (n3 : Nat) (fz : Nat → Int32) (b4 : Nat) (n4 : Nat) (fn : Nat → Int32) (fh : Nat → Int32) (N : Nat) (ft : Nat → Int32) (sz uz : Nat) (hI : NI k L fs fz fn fh) (hL1 : L ≤ n1) (hk2 : k ≤ n2) (hk3 : k ≤ n3) (hk4 : k ≤ n4) (hn1 : n1 < 2 ^ 24) (hn2 : n2 < 2 ^ 24) (hn3 : n3 < 2 ^ 24) (hn4 : n4 < 2 ^ 24) (hk : k < 2 ^ 19) (hL : L < 2 ^ 19) (hN : N < 2 ^ 24) (he : e9 ≤ N) (hi9 : i9 < e9) (hct : ct < 6001) (hW : WdI ct k d_kind d_value) (hlt : isL (ft i9)) : Met l y_Wo_nameEnd (mw y_Wo_nameEnd b_Wo_nameEnd 3 (some .int)) (rm_Wo_nameEnd L k) (PCu g D [] [.ref h0, .int (nI i9)] sz uz [(h0, .inr (8, [.ref r_kind, .ref r_value, .ref r_at, .int f_after, .ref nm, .int (nI ct), .ref tx, .int (nI e9)])), (r_kind, .inl (g 0, 6002, .inl d_kind)), (r_value, .inl (g 0, 6002, .inl d_value)), (r_at, .inl (g 0, 6002, .inl d_at)), (nm, .inr (5, [.ref a1, .ref a2, .ref a3, .ref a4, .ref a5, .ref a6, .ref a7, .ref a8, .ref a9, .int mk, .int stt])), (a1, .inr (3, [.ref b1, .int (nI L)])), (b1, .inl (g 0, n1, .inl fl)), (a2, .inr (3, [.ref b2, .int (nI k)])), (b2, .inl (g 0, n2, .inl fs)), (a3, .inr (3, [.ref b3, .int (nI k)])), (b3, .inl (g 0, n3, .inl fz)), (a4, .inr (3, [.ref b4, .int (nI k)])), (b4, .inl (g 0, n4, .inl fn)), (a5, .inl (g 0, 256, .inl fh)), (tx, .inl (g 1, N, .inl ft))]) (va_Qi (fun (r : Int32) (u : Nat × Nat × (Nat → Int32) × (Nat → Int32) × (Nat → Int32) × (Nat → Int32) × (Nat → Int32) × Nat × Nat × Nat × Nat × Nat × Nat × Nat × Nat × (Nat → Int32) × (Nat → Int32) × (Nat → Int32) × Nat) => (u.2.2.2.2.2.2.2.2.2.2.2.1 - n1) + (u.2.2.2.2.2.2.2.2.2.2.2.2.1 - n2) + (u.2.2.2.2.2.2.2.2.2.2.2.2.2.1 - n3) + (u.2.2.2.2.2.2.2.2.2.2.2.2.2.2.1 - n4) ≤ 2 * L + 6 * k + 560 ∧ WdI u.2.2.2.2.2.2.2.2.2.2.2.2.2.2.2.2.2.2 u.1 u.2.2.2.2.2.2.2.2.2.2.2.2.2.2.2.1 u.2.2.2.2.2.2.2.2.2.2.2.2.2.2.2.2.1 ∧ ((r = -1 ∧ u.2.2.2.2.2.2.2.2.2.2.2.2.2.2.2.2.2.2 = ct ∧ NGr k L n1 n2 n3 n4 u.1 u.2.1 u.2.2.2.2.2.2.2.2.2.2.2.1 u.2.2.2.2.2.2.2.2.2.2.2.2.1 u.2.2.2.2.2.2.2.2.2.2.2.2.2.1 u.2.2.2.2.2.2.2.2.2.2.2.2.2.2.1 u.2.2.2.1 u.2.2.2.2.1 u.2.2.2.2.2.1 u.2.2.2.2.2.2.1 (e9 - i9)) ∨ ∃ jr : Nat, r = nI jr ∧ i9 < jr ∧ jr ≤ e9 ∧ u.2.2.2.2.2.2.2.2.2.2.2.2.2.2.2.2.2.2 = ct + 1 ∧ NGr k L n1 n2 n3 n4 u.1 u.2.1 u.2.2.2.2.2.2.2.2.2.2.2.1 u.2.2.2.2.2.2.2.2.2.2.2.2.1 u.2.2.2.2.2.2.2.2.2.2.2.2.2.1 u.2.2.2.2.2.2.2.2.2.2.2.2.2.2.1 u.2.2.2.1 u.2.2.2.2.1 u.2.2.2.2.2.1 u.2.2.2.2.2.2.1 (jr - i9))) (QU D (va_A [(h0, .inr (8, [.ref r_kind, .ref r_value, .ref r_at, .int f_after, .ref nm, .int (nI ct), .ref tx, .int (nI e9)])), (r_kind, .inl (g 0, 6002, .inl d_kind)), (r_value, .inl (g 0, 6002, .inl d_value)), (r_at, .inl (g 0, 6002, .inl d_at)), (nm, .inr (5, [.ref a1, .ref a2, .ref a3, .ref a4, .ref a5, .ref a6, .ref a7, .ref a8, .ref a9, .int mk, .int stt])), (a1, .inr (3, [.ref b1, .int (nI L)])), (b1, .inl (g 0, n1, .inl fl)), (a2, .inr (3, [.ref b2, .int (nI k)])), (b2, .inl (g 0, n2, .inl fs)), (a3, .inr (3, [.ref b3, .int (nI k)])), (b3, .inl (g 0, n3, .inl fz)), (a4, .inr (3, [.ref b4, .int (nI k)])), (b4, .inl (g 0, n4, .inl fn)), (a5, .inl (g 0, 256, .inl fh)), (tx, .inl (g 1, N, .inl ft))] sz) (fun u : Nat × Nat × (Nat → Int32) × (Nat → Int32) × (Nat → Int32) × (Nat → Int32) × (Nat → Int32) × Nat × Nat × Nat × Nat × Nat × Nat × Nat × Nat × (Nat → Int32) × (Nat → Int32) × (Nat → Int32) × Nat => [(h0, .inr (8, [.ref r_kind, .ref r_value, .ref r_at, .int f_after, .ref nm, .int (nI u.2.2.2.2.2.2.2.2.2.2.2.2.2.2.2.2.2.2), .ref tx, .int (nI e9)])), (r_kind, .inl (g 0, 6002, .inl u.2.2.2.2.2.2.2.2.2.2.2.2.2.2.2.1)), (r_value, .inl (g 0, 6002, .inl u.2.2.2.2.2.2.2.2.2.2.2.2.2.2.2.2.1)), (r_at, .inl (g 0, 6002, .inl u.2.2.2.2.2.2.2.2.2.2.2.2.2.2.2.2.2.1)), (nm, .inr (5, [.ref a1, .ref a2, .ref a3, .ref a4, .ref a5, .ref a6, .ref a7, .ref a8, .ref a9, .int mk, .int stt])), (a1, .inr (3, [.ref u.2.2.2.2.2.2.2.1, .int (nI u.2.1)])), (u.2.2.2.2.2.2.2.1, .inl (g 0, u.2.2.2.2.2.2.2.2.2.2.2.1, .inl u.2.2.1)), (a2, .inr (3, [.ref u.2.2.2.2.2.2.2.2.1, .int (nI u.1)])), (u.2.2.2.2.2.2.2.2.1, .inl (g 0, u.2.2.2.2.2.2.2.2.2.2.2.2.1, .inl u.2.2.2.1)), (a3, .inr (3, [.ref u.2.2.2.2.2.2.2.2.2.1, .int (nI u.1)])), (u.2.2.2.2.2.2.2.2.2.1, .inl (g 0, u.2.2.2.2.2.2.2.2.2.2.2.2.2.1, .inl u.2.2.2.2.1)), (a4, .inr (3, [.ref u.2.2.2.2.2.2.2.2.2.2.1, .int (nI u.1)])), (u.2.2.2.2.2.2.2.2.2.2.1, .inl (g 0, u.2.2.2.2.2.2.2.2.2.2.2.2.2.2.1, .inl u.2.2.2.2.2.1)), (a5, .inl (g 0, 256, .inl u.2.2.2.2.2.2.1)), (tx, .inl (g 1, N, .inl ft))]) sz uz (fun u : Nat × Nat × (Nat → Int32) × (Nat → Int32) × (Nat → Int32) × (Nat → Int32) × (Nat → Int32) × Nat × Nat × Nat × Nat × Nat × Nat × Nat × Nat × (Nat → Int32) × (Nat → Int32) × (Nat → Int32) × Nat => (u.2.2.2.2.2.2.2.2.2.2.2.1 - n1) + (u.2.2.2.2.2.2.2.2.2.2.2.2.1 - n2) + (u.2.2.2.2.2.2.2.2.2.2.2.2.2.1 - n3) + (u.2.2.2.2.2.2.2.2.2.2.2.2.2.2.1 - n4)) (fun u : Nat × Nat × (Nat → Int32) × (Nat → Int32) × (Nat → Int32) × (Nat → Int32) × (Nat → Int32) × Nat × Nat × Nat × Nat × Nat × Nat × Nat × Nat × (Nat → Int32) × (Nat → Int32) × (Nat → Int32) × Nat => 2 * ((u.2.2.2.2.2.2.2.2.2.2.2.1 - n1) + (u.2.2.2.2.2.2.2.2.2.2.2.2.1 - n2) + (u.2.2.2.2.2.2.2.2.2.2.2.2.2.1 - n3) + (u.2.2.2.2.2.2.2.2.2.2.2.2.2.2.1 - n4)))) (va_A [(h0, .inr (8, [.ref r_kind, .ref r_value, .ref r_at, .int f_after, .ref nm, .int (nI ct), .ref tx, .int (nI e9)])), (r_kind, .inl (g 0, 6002, .inl d_kind)), (r_value, .inl (g 0, 6002, .inl d_value)), (r_at, .inl (g 0, 6002, .inl d_at)), (nm, .inr (5, [.ref a1, .ref a2, .ref a3, .ref a4, .ref a5, .ref a6, .ref a7, .ref a8, .ref a9, .int mk, .int stt])), (a1, .inr (3, [.ref b1, .int (nI L)])), (b1, .inl (g 0, n1, .inl fl)), (a2, .inr (3, [.ref b2, .int (nI k)])), (b2, .inl (g 0, n2, .inl fs)), (a3, .inr (3, [.ref b3, .int (nI k)])), (b3, .inl (g 0, n3, .inl fz)), (a4, .inr (3, [.ref b4, .int (nI k)])), (b4, .inl (g 0, n4, .inl fn)), (a5, .inl (g 0, 256, .inl fh)), (tx, .inl (g 1, N, .inl ft))] sz)) (2 * L + 6 * k + 600) (2 * (2 * L + 6 * k + 600)) (va_A [(h0, .inr (8, [.ref r_kind, .ref r_value, .ref r_at, .int f_after, .ref nm, .int (nI ct), .ref tx, .int (nI e9)])), (r_kind, .inl (g 0, 6002, .inl d_kind)), (r_value, .inl (g 0, 6002, .inl d_value)), (r_at, .inl (g 0, 6002, .inl d_at)), (nm, .inr (5, [.ref a1, .ref a2, .ref a3, .ref a4, .ref a5, .ref a6, .ref a7, .ref a8, .ref a9, .int mk, .int stt])), (a1, .inr (3, [.ref b1, .int (nI L)])), (b1, .inl (g 0, n1, .inl fl)), (a2, .inr (3, [.ref b2, .int (nI k)])), (b2, .inl (g 0, n2, .inl fs)), (a3, .inr (3, [.ref b3, .int (nI k)])), (b3, .inl (g 0, n3, .inl fz)), (a4, .inr (3, [.ref b4, .int (nI k)])), (b4, .inl (g 0, n4, .inl fn)), (a5, .inl (g 0, 256, .inl fh)), (tx, .inl (g 1, N, .inl ft))] sz) := by
  refine ofIu (by decide +kernel) (Nat.le_of_ble_eq_true rfl) ?_
  intro p e s m args below meth c A Q ls H locs G hsz hP hD hS hl hret
  subst hsz
  have hl : lv_has ls 3 [(0, .ref h0), (1, .int (nI i9))] := hl
  refine lv_iload_n G.1 G.2.1 d_Wo_nameEnd_0 rfl (lv_at hl 1 rfl) ?_
  refine lv_istore_n (lv' := [(2, .int (nI i9)), (0, .ref h0), (1, .int (nI i9))]) G.1 G.2.1 d_Wo_nameEnd_1 rfl hl (by decide) rfl (fun ls hl => ?_)
  have L_1 : ∀ (k_L_1 : Nat) (j : Nat), (e9 - j) < k_L_1 → (i9 ≤ j) → (j ≤ e9) → (j = i9 ∨ i9 < j) → ∀ (H : Heap) (locs : List Loc), va_P D CL [(h0, .inr (8, [.ref r_kind, .ref r_value, .ref r_at, .int f_after, .ref nm, .int (nI ct), .ref tx, .int (nI e9)])), (r_kind, .inl (g 0, 6002, .inl d_kind)), (r_value, .inl (g 0, 6002, .inl d_value)), (r_at, .inl (g 0, 6002, .inl d_at)), (nm, .inr (5, [.ref a1, .ref a2, .ref a3, .ref a4, .ref a5, .ref a6, .ref a7, .ref a8, .ref a9, .int mk, .int stt])), (a1, .inr (3, [.ref b1, .int (nI L)])), (b1, .inl (g 0, n1, .inl fl)), (a2, .inr (3, [.ref b2, .int (nI k)])), (b2, .inl (g 0, n2, .inl fs)), (a3, .inr (3, [.ref b3, .int (nI k)])), (b3, .inl (g 0, n3, .inl fz)), (a4, .inr (3, [.ref b4, .int (nI k)])), (b4, .inl (g 0, n4, .inl fn)), (a5, .inl (g 0, 256, .inl fh)), (tx, .inl (g 1, N, .inl ft))] H → va_D A [(h0, .inr (8, [.ref r_kind, .ref r_value, .ref r_at, .int f_after, .ref nm, .int (nI ct), .ref tx, .int (nI e9)])), (r_kind, .inl (g 0, 6002, .inl d_kind)), (r_value, .inl (g 0, 6002, .inl d_value)), (r_at, .inl (g 0, 6002, .inl d_at)), (nm, .inr (5, [.ref a1, .ref a2, .ref a3, .ref a4, .ref a5, .ref a6, .ref a7, .ref a8, .ref a9, .int mk, .int stt])), (a1, .inr (3, [.ref b1, .int (nI L)])), (b1, .inl (g 0, n1, .inl fl)), (a2, .inr (3, [.ref b2, .int (nI k)])), (b2, .inl (g 0, n2, .inl fs)), (a3, .inr (3, [.ref b3, .int (nI k)])), (b3, .inl (g 0, n3, .inl fz)), (a4, .inr (3, [.ref b4, .int (nI k)])), (b4, .inl (g 0, n4, .inl fn)), (a5, .inl (g 0, 256, .inl fh)), (tx, .inl (g 1, N, .inl ft))] → va_S A s.heap H locs → ∀ ls, lv_has ls 3 [(0, .ref h0), (1, .int (nI i9)), (2, .int (nI j))] → W p l e (rm_Wo_nameEnd L k) s m args below meth c H locs 0 0 Q (F0 m 2 ls []) := by
    intro k_L_1
    induction k_L_1 with
    | zero => intro j hk_L_1; exact absurd hk_L_1 (Nat.not_lt_zero _)
    | succ k_L_1 ih_L_1 =>
      intro j hk_L_1 hj hje hjl H locs hP hD hS ls hl
      refine lv_iload_n G.1 G.2.1 d_Wo_nameEnd_2 rfl (lv_at hl 2 rfl) ?_
      refine lv_aload_n G.1 G.2.1 d_Wo_nameEnd_3 rfl (lv_at hl 0 rfl) ?_
      refine kg (ci := 8) G iWo hP 0 rfl rfl 7 (by decide) q559 rfl rfl d_Wo_nameEnd_4 ?_
      refine lv_icmp_ge (tgt := 40) G.1 G.2.1 d_Wo_nameEnd_7 (by decide) (fun c7 => ?_) (fun c7 => ?_)
      · skip
        have c7 : e9 ≤ j := (nI_leI (by omega) (by omega)).mp c7
        have hij : i9 < j := by omega
        refine lv_iload_n G.1 G.2.1 d_Wo_nameEnd_40 rfl (lv_at hl 2 rfl) ?_
        refine lv_iload_n G.1 G.2.1 d_Wo_nameEnd_41 rfl (lv_at hl 1 rfl) ?_
        refine lv_isub G.1 G.2.1 d_Wo_nameEnd_42 ?_
        refine tpi (w := nI (j - i9)) (pk_sub (by omega)) ?_
        refine lv_bipush (v := nI 12) G.1 G.2.1 d_Wo_nameEnd_43 (by decide) ?_
        refine lv_icmp_le (tgt := 50) G.1 G.2.1 d_Wo_nameEnd_45 (by decide) (fun c45 => ?_) (fun c45 => ?_)
        · skip
          have c45 : (j - i9) ≤ 12 := (nI_leI (by omega) (by omega)).mp c45
          refine lv_aload_n G.1 G.2.1 d_Wo_nameEnd_50 rfl (lv_at hl 0 rfl) ?_
          refine W.eq (g2 := F0 m 51 ls [.ref h0]) rfl ?_
          refine lv_iconst (v := nI 1) G.1 G.2.1 d_Wo_nameEnd_51 (by decide) ?_
          refine lv_aload_n G.1 G.2.1 d_Wo_nameEnd_52 rfl (lv_at hl 0 rfl) ?_
          refine kg (ci := 8) G iWo hP 0 rfl rfl 4 (by decide) q556 rfl rfl d_Wo_nameEnd_53 ?_
          refine lv_aload_n G.1 G.2.1 d_Wo_nameEnd_56 rfl (lv_at hl 0 rfl) ?_
          refine kg (ci := 8) G iWo hP 0 rfl rfl 6 (by decide) q558 rfl rfl d_Wo_nameEnd_57 ?_
          refine lv_iload_n G.1 G.2.1 d_Wo_nameEnd_60 rfl (lv_at hl 1 rfl) ?_
          refine lv_iload_n G.1 G.2.1 d_Wo_nameEnd_61 rfl (lv_at hl 2 rfl) ?_
          refine lv_iload_n G.1 G.2.1 d_Wo_nameEnd_62 rfl (lv_at hl 1 rfl) ?_
          refine lv_isub G.1 G.2.1 d_Wo_nameEnd_63 ?_
          refine tpi (w := nI (j - i9)) (pk_sub (by omega)) ?_
          refine kEiu (wr := [(h0, .inr (8, [.ref r_kind, .ref r_value, .ref r_at, .int f_after, .ref nm, .int (nI ct), .ref tx, .int (nI e9)])), (r_kind, .inl (g 0, 6002, .inl d_kind)), (r_value, .inl (g 0, 6002, .inl d_value)), (r_at, .inl (g 0, 6002, .inl d_at))]) G (kVu (As := [.ref tx, .int (nI i9), .int (nI (j - i9))]) (rest := [.int (nI 1), .ref h0]) G hP hD hS [4, 5, 6, 7, 8, 9, 10, 11, 12, 13, 14] rfl rfl (c_Na_number_g l D g nm a1 a2 a3 a4 a5 a6 a7 a8 a9 b1 b2 b3 b4 n1 n2 n3 n4 mk stt k L fl fs fz fn fh tx N ft i9 (j - i9) H.size (us H) hI hL1 hk2 hk3 hk4 hn1 hn2 hn3 hn4 (by omega) (by omega) hN (by omega) (by omega)) w_Na_number q1282 rfl rfl ⟨Nat.le_of_ble_eq_true rfl, Nat.le_of_ble_eq_true rfl⟩ (fun _ h => absurd h List.not_mem_nil) 4 (ci := 5) rfl rfl rfl hl.1 rfl (Nat.le_of_ble_eq_true rfl) rfl ⟨by show _ ≤ (2 * L + 6 * k + 600); omega, by show _ ≤ 2 * (2 * L + 6 * k + 600); omega⟩ d_Wo_nameEnd_64) hP hD hS [4, 5, 6, 7, 8, 9, 10, 11, 12, 13, 14] [0, 1, 2, 3] rfl rfl rfl rfl (fun r_2 u_3 H locs hw hP hD hS hzH => ?_)
          obtain ⟨k1, L1, fl1, fs1, fz1, fn1, fh1, d1, d2, d3, d4, m1, m2, m3, m4⟩ := u_3
          have hw : (∃ id : Nat, r_2 = nI id ∧ id < k1) ∧ k ≤ k1 ∧ k1 ≤ k + 1 ∧ L ≤ L1 ∧ L1 ≤ L + ((j - i9)) ∧ NI k1 L1 fs1 fz1 fn1 fh1 ∧ (L1 ≤ m1 ∧ k1 ≤ m2 ∧ k1 ≤ m3 ∧ k1 ≤ m4) ∧ (n1 ≤ m1 ∧ n2 ≤ m2 ∧ n3 ≤ m3 ∧ n4 ≤ m4) ∧ (m1 = n1 ∨ m1 ≤ 2 * L1 + 8) ∧ (m2 = n2 ∨ m2 ≤ 2 * k1 + 8) ∧ (m3 = n3 ∨ m3 ≤ 2 * k1 + 8) ∧ (m4 = n4 ∨ m4 ≤ 2 * k1 + 8) := hw
          obtain ⟨⟨id, hid, hid2⟩, hw1, hw2, hw3, hw4, hwI, ⟨hw5, hw6, hw7, hw8⟩, ⟨hw9, hw10, hw11, hw12⟩, hw13, hw14, hw15, hw16⟩ := hw
          have hG : NGr k L n1 n2 n3 n4 k1 L1 m1 m2 m3 m4 fs1 fz1 fn1 fh1 (j - i9) := ⟨hw1, by omega, hw3, by omega, hwI, ⟨hw5, hw6, hw7, hw8⟩, ⟨hw9, hw10, hw11, hw12⟩, hw13, hw14, hw15, hw16⟩
          have hB : (m1 - n1) + (m2 - n2) + (m3 - n3) + (m4 - n4) ≤ 2 * L + 6 * k + 560 := dc_bound (d := (j - i9)) (by omega) hL1 hk2 hk3 hk4 hw2 hw4 hw9 hw10 hw11 hw12 hw13 hw14 hw15 hw16
          have hkk : k1 < 2 ^ 20 := Nat.lt_of_le_of_lt hw2 (by omega)
          clear hw1 hw2 hw3 hw4 hwI hw5 hw6 hw7 hw8 hw9 hw10 hw11 hw12 hw13 hw14 hw15 hw16
          have hP : va_P D CL [(h0, .inr (8, [.ref r_kind, .ref r_value, .ref r_at, .int f_after, .ref nm, .int (nI ct), .ref tx, .int (nI e9)])), (r_kind, .inl (g 0, 6002, .inl d_kind)), (r_value, .inl (g 0, 6002, .inl d_value)), (r_at, .inl (g 0, 6002, .inl d_at)), (nm, .inr (5, [.ref a1, .ref a2, .ref a3, .ref a4, .ref a5, .ref a6, .ref a7, .ref a8, .ref a9, .int mk, .int stt])), (a1, .inr (3, [.ref d1, .int (nI L1)])), (d1, .inl (g 0, m1, .inl fl1)), (a2, .inr (3, [.ref d2, .int (nI k1)])), (d2, .inl (g 0, m2, .inl fs1)), (a3, .inr (3, [.ref d3, .int (nI k1)])), (d3, .inl (g 0, m3, .inl fz1)), (a4, .inr (3, [.ref d4, .int (nI k1)])), (d4, .inl (g 0, m4, .inl fn1)), (a5, .inl (g 0, 256, .inl fh1)), (tx, .inl (g 1, N, .inl ft))] H := hP
          have hD : va_D A [(h0, .inr (8, [.ref r_kind, .ref r_value, .ref r_at, .int f_after, .ref nm, .int (nI ct), .ref tx, .int (nI e9)])), (r_kind, .inl (g 0, 6002, .inl d_kind)), (r_value, .inl (g 0, 6002, .inl d_value)), (r_at, .inl (g 0, 6002, .inl d_at)), (nm, .inr (5, [.ref a1, .ref a2, .ref a3, .ref a4, .ref a5, .ref a6, .ref a7, .ref a8, .ref a9, .int mk, .int stt])), (a1, .inr (3, [.ref d1, .int (nI L1)])), (d1, .inl (g 0, m1, .inl fl1)), (a2, .inr (3, [.ref d2, .int (nI k1)])), (d2, .inl (g 0, m2, .inl fs1)), (a3, .inr (3, [.ref d3, .int (nI k1)])), (d3, .inl (g 0, m3, .inl fz1)), (a4, .inr (3, [.ref d4, .int (nI k1)])), (d4, .inl (g 0, m4, .inl fn1)), (a5, .inl (g 0, 256, .inl fh1)), (tx, .inl (g 1, N, .inl ft))] := hD
          refine W.widen (k := ((m1 - n1) + (m2 - n2) + (m3 - n3) + (m4 - n4))) (n := 2 * ((m1 - n1) + (m2 - n2) + (m3 - n3) + (m4 - n4))) (Nat.le_of_eq (Nat.zero_add _)) (Nat.le_of_eq (Nat.zero_add _)) ?_
          refine tpi (w := nI id) hid ?_
          refine lv_iload_n G.1 G.2.1 d_Wo_nameEnd_67 rfl (lv_at hl 1 rfl) ?_
          refine kEv (wr := [(nm, .inr (5, [.ref a1, .ref a2, .ref a3, .ref a4, .ref a5, .ref a6, .ref a7, .ref a8, .ref a9, .int mk, .int stt])), (a1, .inr (3, [.ref d1, .int (nI L1)])), (d1, .inl (g 0, m1, .inl fl1)), (a2, .inr (3, [.ref d2, .int (nI k1)])), (d2, .inl (g 0, m2, .inl fs1)), (a3, .inr (3, [.ref d3, .int (nI k1)])), (d3, .inl (g 0, m3, .inl fz1)), (a4, .inr (3, [.ref d4, .int (nI k1)])), (d4, .inl (g 0, m4, .inl fn1)), (a5, .inl (g 0, 256, .inl fh1)), (tx, .inl (g 1, N, .inl ft))]) G (kV (As := [.int (nI 1), .int (nI id), .int (nI i9)]) (rest := []) G hP hD hS [0, 1, 2, 3] rfl rfl (c_Wo_add l D g h0 (nI 1) (nI id) (nI i9) r_kind r_value r_at f_after nm ct tx (nI e9) d_kind d_value d_at H.size (by omega)) w_Wo_add q1283 rfl rfl ⟨Nat.le_of_ble_eq_true rfl, Nat.le_of_ble_eq_true rfl⟩ (fun _ h => absurd h List.not_mem_nil) 0 (ci := 8) rfl rfl rfl hl.1 rfl (Nat.le_of_ble_eq_true rfl) rfl ⟨by show _ ≤ (2 * L + 6 * k + 600); omega, (by show _ ≤ 2 * (2 * L + 6 * k + 600); omega)⟩ d_Wo_nameEnd_68) hP hD hS [0, 1, 2, 3] [4, 5, 6, 7, 8, 9, 10, 11, 12, 13, 14] rfl rfl rfl rfl (fun u_5 H locs hw hP hD hS hzH => ?_)
          have hw : True := hw
          have hP : va_P D CL [(nm, .inr (5, [.ref a1, .ref a2, .ref a3, .ref a4, .ref a5, .ref a6, .ref a7, .ref a8, .ref a9, .int mk, .int stt])), (a1, .inr (3, [.ref d1, .int (nI L1)])), (d1, .inl (g 0, m1, .inl fl1)), (a2, .inr (3, [.ref d2, .int (nI k1)])), (d2, .inl (g 0, m2, .inl fs1)), (a3, .inr (3, [.ref d3, .int (nI k1)])), (d3, .inl (g 0, m3, .inl fz1)), (a4, .inr (3, [.ref d4, .int (nI k1)])), (d4, .inl (g 0, m4, .inl fn1)), (a5, .inl (g 0, 256, .inl fh1)), (tx, .inl (g 1, N, .inl ft)), (h0, .inr (8, [.ref r_kind, .ref r_value, .ref r_at, .int f_after, .ref nm, .int (nI (ct + 1)), .ref tx, .int (nI e9)])), (r_kind, .inl (g 0, 6002, .inl (upd d_kind ct (nI 1)))), (r_value, .inl (g 0, 6002, .inl (upd d_value ct (nI id)))), (r_at, .inl (g 0, 6002, .inl (upd d_at ct (nI i9))))] H := hP
          have hD : va_D A [(nm, .inr (5, [.ref a1, .ref a2, .ref a3, .ref a4, .ref a5, .ref a6, .ref a7, .ref a8, .ref a9, .int mk, .int stt])), (a1, .inr (3, [.ref d1, .int (nI L1)])), (d1, .inl (g 0, m1, .inl fl1)), (a2, .inr (3, [.ref d2, .int (nI k1)])), (d2, .inl (g 0, m2, .inl fs1)), (a3, .inr (3, [.ref d3, .int (nI k1)])), (d3, .inl (g 0, m3, .inl fz1)), (a4, .inr (3, [.ref d4, .int (nI k1)])), (d4, .inl (g 0, m4, .inl fn1)), (a5, .inl (g 0, 256, .inl fh1)), (tx, .inl (g 1, N, .inl ft)), (h0, .inr (8, [.ref r_kind, .ref r_value, .ref r_at, .int f_after, .ref nm, .int (nI (ct + 1)), .ref tx, .int (nI e9)])), (r_kind, .inl (g 0, 6002, .inl (upd d_kind ct (nI 1)))), (r_value, .inl (g 0, 6002, .inl (upd d_value ct (nI id)))), (r_at, .inl (g 0, 6002, .inl (upd d_at ct (nI i9))))] := hD
          refine W.eq (g2 := F0 m 71 ls []) rfl ?_
          refine lv_iload_n G.1 G.2.1 d_Wo_nameEnd_71 rfl (lv_at hl 2 rfl) ?_
          have hP : va_P D CL [(h0, .inr (8, [.ref r_kind, .ref r_value, .ref r_at, .int f_after, .ref nm, .int (nI (ct + 1)), .ref tx, .int (nI e9)])), (r_kind, .inl (g 0, 6002, .inl ((upd d_kind ct (nI 1))))), (r_value, .inl (g 0, 6002, .inl ((upd d_value ct (nI id))))), (r_at, .inl (g 0, 6002, .inl ((upd d_at ct (nI i9))))), (nm, .inr (5, [.ref a1, .ref a2, .ref a3, .ref a4, .ref a5, .ref a6, .ref a7, .ref a8, .ref a9, .int mk, .int stt])), (a1, .inr (3, [.ref d1, .int (nI L1)])), (d1, .inl (g 0, m1, .inl fl1)), (a2, .inr (3, [.ref d2, .int (nI k1)])), (d2, .inl (g 0, m2, .inl fs1)), (a3, .inr (3, [.ref d3, .int (nI k1)])), (d3, .inl (g 0, m3, .inl fz1)), (a4, .inr (3, [.ref d4, .int (nI k1)])), (d4, .inl (g 0, m4, .inl fn1)), (a5, .inl (g 0, 256, .inl fh1)), (tx, .inl (g 1, N, .inl ft))] H := hP.sub [11, 12, 13, 14, 0, 1, 2, 3, 4, 5, 6, 7, 8, 9, 10] rfl
          have hD : va_D A [(h0, .inr (8, [.ref r_kind, .ref r_value, .ref r_at, .int f_after, .ref nm, .int (nI (ct + 1)), .ref tx, .int (nI e9)])), (r_kind, .inl (g 0, 6002, .inl ((upd d_kind ct (nI 1))))), (r_value, .inl (g 0, 6002, .inl ((upd d_value ct (nI id))))), (r_at, .inl (g 0, 6002, .inl ((upd d_at ct (nI i9))))), (nm, .inr (5, [.ref a1, .ref a2, .ref a3, .ref a4, .ref a5, .ref a6, .ref a7, .ref a8, .ref a9, .int mk, .int stt])), (a1, .inr (3, [.ref d1, .int (nI L1)])), (d1, .inl (g 0, m1, .inl fl1)), (a2, .inr (3, [.ref d2, .int (nI k1)])), (d2, .inl (g 0, m2, .inl fs1)), (a3, .inr (3, [.ref d3, .int (nI k1)])), (d3, .inl (g 0, m3, .inl fz1)), (a4, .inr (3, [.ref d4, .int (nI k1)])), (d4, .inl (g 0, m4, .inl fn1)), (a5, .inl (g 0, 256, .inl fh1)), (tx, .inl (g 1, N, .inl ft))] := hD.sub [11, 12, 13, 14, 0, 1, 2, 3, 4, 5, 6, 7, 8, 9, 10] (by decide) rfl
          refine hret (nI j) (k1, L1, fl1, fs1, fz1, fn1, fh1, d1, d2, d3, d4, m1, m2, m3, m4, (upd d_kind ct (nI 1)), (upd d_value ct (nI id)), (upd d_at ct (nI i9)), ct + 1) _ _ _ _ _ ls (show (m1 - n1) + (m2 - n2) + (m3 - n3) + (m4 - n4) ≤ 2 * L + 6 * k + 560 ∧ WdI (ct + 1) k1 ((upd d_kind ct (nI 1))) ((upd d_value ct (nI id))) ∧ (((nI j) = -1 ∧ (ct + 1) = ct ∧ NGr k L n1 n2 n3 n4 k1 L1 m1 m2 m3 m4 fs1 fz1 fn1 fh1 (e9 - i9)) ∨ ∃ jr : Nat, (nI j) = nI jr ∧ i9 < jr ∧ jr ≤ e9 ∧ (ct + 1) = ct + 1 ∧ NGr k L n1 n2 n3 n4 k1 L1 m1 m2 m3 m4 fs1 fz1 fn1 fh1 (jr - i9)) from ⟨hB, (hW.more hG.1).add (fun _ => ⟨id, rfl, hid2⟩), Or.inr ⟨j, rfl, hij, by omega, rfl, hG⟩⟩) hP hD hS (by show _ ≤ (m1 - n1) + (m2 - n2) + (m3 - n3) + (m4 - n4); omega) (by show _ ≤ 2 * ((m1 - n1) + (m2 - n2) + (m3 - n3) + (m4 - n4)); omega) (by show (m1 - n1) + (m2 - n2) + (m3 - n3) + (m4 - n4) ≤ _; omega) (by show 2 * ((m1 - n1) + (m2 - n2) + (m3 - n3) + (m4 - n4)) ≤ _; omega) d_Wo_nameEnd_72
        · skip
          have c45 : ¬ ((j - i9) ≤ 12) := fun h => c45 ((nI_leI (by omega) (by omega)).mpr h)
          refine lv_iconst (v := (-1)) G.1 G.2.1 d_Wo_nameEnd_48 (by decide) ?_
          refine W.eq (g2 := F0 m 49 ls [.int (-1)]) rfl ?_
          have hP : va_P D CL [(h0, .inr (8, [.ref r_kind, .ref r_value, .ref r_at, .int f_after, .ref nm, .int (nI ct), .ref tx, .int (nI e9)])), (r_kind, .inl (g 0, 6002, .inl d_kind)), (r_value, .inl (g 0, 6002, .inl d_value)), (r_at, .inl (g 0, 6002, .inl d_at)), (nm, .inr (5, [.ref a1, .ref a2, .ref a3, .ref a4, .ref a5, .ref a6, .ref a7, .ref a8, .ref a9, .int mk, .int stt])), (a1, .inr (3, [.ref b1, .int (nI L)])), (b1, .inl (g 0, n1, .inl fl)), (a2, .inr (3, [.ref b2, .int (nI k)])), (b2, .inl (g 0, n2, .inl fs)), (a3, .inr (3, [.ref b3, .int (nI k)])), (b3, .inl (g 0, n3, .inl fz)), (a4, .inr (3, [.ref b4, .int (nI k)])), (b4, .inl (g 0, n4, .inl fn)), (a5, .inl (g 0, 256, .inl fh)), (tx, .inl (g 1, N, .inl ft))] H := hP.sub [0, 1, 2, 3, 4, 5, 6, 7, 8, 9, 10, 11, 12, 13, 14] rfl
          have hD : va_D A [(h0, .inr (8, [.ref r_kind, .ref r_value, .ref r_at, .int f_after, .ref nm, .int (nI ct), .ref tx, .int (nI e9)])), (r_kind, .inl (g 0, 6002, .inl d_kind)), (r_value, .inl (g 0, 6002, .inl d_value)), (r_at, .inl (g 0, 6002, .inl d_at)), (nm, .inr (5, [.ref a1, .ref a2, .ref a3, .ref a4, .ref a5, .ref a6, .ref a7, .ref a8, .ref a9, .int mk, .int stt])), (a1, .inr (3, [.ref b1, .int (nI L)])), (b1, .inl (g 0, n1, .inl fl)), (a2, .inr (3, [.ref b2, .int (nI k)])), (b2, .inl (g 0, n2, .inl fs)), (a3, .inr (3, [.ref b3, .int (nI k)])), (b3, .inl (g 0, n3, .inl fz)), (a4, .inr (3, [.ref b4, .int (nI k)])), (b4, .inl (g 0, n4, .inl fn)), (a5, .inl (g 0, 256, .inl fh)), (tx, .inl (g 1, N, .inl ft))] := hD.sub [0, 1, 2, 3, 4, 5, 6, 7, 8, 9, 10, 11, 12, 13, 14] (by decide) rfl
          refine hret (-1) (k, L, fl, fs, fz, fn, fh, b1, b2, b3, b4, n1, n2, n3, n4, d_kind, d_value, d_at, ct) _ _ _ _ _ ls (show (n1 - n1) + (n2 - n2) + (n3 - n3) + (n4 - n4) ≤ 2 * L + 6 * k + 560 ∧ WdI ct k d_kind d_value ∧ ((((-1)) = -1 ∧ ct = ct ∧ NGr k L n1 n2 n3 n4 k L n1 n2 n3 n4 fs fz fn fh (e9 - i9)) ∨ ∃ jr : Nat, ((-1)) = nI jr ∧ i9 < jr ∧ jr ≤ e9 ∧ ct = ct + 1 ∧ NGr k L n1 n2 n3 n4 k L n1 n2 n3 n4 fs fz fn fh (jr - i9)) from ⟨by omega, hW, Or.inl ⟨rfl, rfl, NGr.refl hI hL1 hk2 hk3 hk4⟩⟩) hP hD hS (Nat.zero_le _) (Nat.zero_le _) (by show (n1 - n1) + (n2 - n2) + (n3 - n3) + (n4 - n4) ≤ _; omega) (by show 2 * ((n1 - n1) + (n2 - n2) + (n3 - n3) + (n4 - n4)) ≤ _; omega) d_Wo_nameEnd_49
      · skip
        have c7 : ¬ (e9 ≤ j) := fun h => c7 ((nI_leI (by omega) (by omega)).mpr h)
        refine lv_aload_n G.1 G.2.1 d_Wo_nameEnd_10 rfl (lv_at hl 0 rfl) ?_
        refine kg (ci := 8) G iWo hP 0 rfl rfl 6 (by decide) q558 rfl rfl d_Wo_nameEnd_11 ?_
        refine lv_iload_n G.1 G.2.1 d_Wo_nameEnd_14 rfl (lv_at hl 2 rfl) ?_
        refine kbald G hP 14 1 rfl rfl (by omega) (by omega) d_Wo_nameEnd_15 ?_
        refine kEi (wr := [(h0, .inr (8, [.ref r_kind, .ref r_value, .ref r_at, .int f_after, .ref nm, .int (nI ct), .ref tx, .int (nI e9)])), (r_kind, .inl (g 0, 6002, .inl d_kind)), (r_value, .inl (g 0, 6002, .inl d_value)), (r_at, .inl (g 0, 6002, .inl d_at)), (nm, .inr (5, [.ref a1, .ref a2, .ref a3, .ref a4, .ref a5, .ref a6, .ref a7, .ref a8, .ref a9, .int mk, .int stt])), (a1, .inr (3, [.ref b1, .int (nI L)])), (b1, .inl (g 0, n1, .inl fl)), (a2, .inr (3, [.ref b2, .int (nI k)])), (b2, .inl (g 0, n2, .inl fs)), (a3, .inr (3, [.ref b3, .int (nI k)])), (b3, .inl (g 0, n3, .inl fz)), (a4, .inr (3, [.ref b4, .int (nI k)])), (b4, .inl (g 0, n4, .inl fn)), (a5, .inl (g 0, 256, .inl fh)), (tx, .inl (g 1, N, .inl ft))]) G (kS (As := [.int (ft j)]) (rest := []) G hP hD hS [] rfl rfl (c_Wo_isLetter l D g (ft j) H.size ) w_Wo_isLetter q1272 rfl rfl ⟨Nat.le_of_ble_eq_true rfl, Nat.le_of_ble_eq_true rfl⟩ (fun _ h => absurd h List.not_mem_nil) hl.1 rfl (Nat.le_of_ble_eq_true rfl) rfl ⟨by show _ ≤ (2 * L + 6 * k + 600); omega, (by show _ ≤ 2 * (2 * L + 6 * k + 600); omega)⟩ d_Wo_nameEnd_16) hP hD hS [] [0, 1, 2, 3, 4, 5, 6, 7, 8, 9, 10, 11, 12, 13, 14] rfl rfl rfl rfl (fun r_6 u_7 H locs hw hP hD hS hzH => ?_)
        have hw : (r_6 = 1 ∧ isL (ft j)) ∨ (r_6 = 0 ∧ ¬ isL (ft j)) := hw
        have hP : va_P D CL [(h0, .inr (8, [.ref r_kind, .ref r_value, .ref r_at, .int f_after, .ref nm, .int (nI ct), .ref tx, .int (nI e9)])), (r_kind, .inl (g 0, 6002, .inl d_kind)), (r_value, .inl (g 0, 6002, .inl d_value)), (r_at, .inl (g 0, 6002, .inl d_at)), (nm, .inr (5, [.ref a1, .ref a2, .ref a3, .ref a4, .ref a5, .ref a6, .ref a7, .ref a8, .ref a9, .int mk, .int stt])), (a1, .inr (3, [.ref b1, .int (nI L)])), (b1, .inl (g 0, n1, .inl fl)), (a2, .inr (3, [.ref b2, .int (nI k)])), (b2, .inl (g 0, n2, .inl fs)), (a3, .inr (3, [.ref b3, .int (nI k)])), (b3, .inl (g 0, n3, .inl fz)), (a4, .inr (3, [.ref b4, .int (nI k)])), (b4, .inl (g 0, n4, .inl fn)), (a5, .inl (g 0, 256, .inl fh)), (tx, .inl (g 1, N, .inl ft))] H := hP
        have hD : va_D A [(h0, .inr (8, [.ref r_kind, .ref r_value, .ref r_at, .int f_after, .ref nm, .int (nI ct), .ref tx, .int (nI e9)])), (r_kind, .inl (g 0, 6002, .inl d_kind)), (r_value, .inl (g 0, 6002, .inl d_value)), (r_at, .inl (g 0, 6002, .inl d_at)), (nm, .inr (5, [.ref a1, .ref a2, .ref a3, .ref a4, .ref a5, .ref a6, .ref a7, .ref a8, .ref a9, .int mk, .int stt])), (a1, .inr (3, [.ref b1, .int (nI L)])), (b1, .inl (g 0, n1, .inl fl)), (a2, .inr (3, [.ref b2, .int (nI k)])), (b2, .inl (g 0, n2, .inl fs)), (a3, .inr (3, [.ref b3, .int (nI k)])), (b3, .inl (g 0, n3, .inl fz)), (a4, .inr (3, [.ref b4, .int (nI k)])), (b4, .inl (g 0, n4, .inl fn)), (a5, .inl (g 0, 256, .inl fh)), (tx, .inl (g 1, N, .inl ft))] := hD
        rcases hw with ⟨hw, hb19⟩ | ⟨hw, hb19⟩
        · skip
          refine tpi (w := nI 1) hw ?_
          refine lv_if_ne (tgt := 34) G.1 G.2.1 d_Wo_nameEnd_19 (by decide) (fun c19 => ?_) (fun c19 => absurd c19 (by decide))
          refine W.eq (g2 := F0 m 34 ls []) rfl ?_
          refine lv_iinc (v := nI (j + 1)) (lv' := [(2, .int (nI (j + 1))), (0, .ref h0), (1, .int (nI i9))]) G.1 G.2.1 d_Wo_nameEnd_34 hl (k := 2) rfl (show (nI j) + Int32.ofInt 1 = nI (j + 1) from nI_1 _) (by decide) rfl (fun ls hl => ?_)
          refine lv_goto (tgt := 2) G.1 G.2.1 d_Wo_nameEnd_37 (by decide) ?_
          exact ih_L_1 (j + 1) (by omega) (by omega) (by omega) (Or.inr (by omega)) _ _ (hP.sub [0, 1, 2, 3, 4, 5, 6, 7, 8, 9, 10, 11, 12, 13, 14] rfl) (hD.sub [0, 1, 2, 3, 4, 5, 6, 7, 8, 9, 10, 11, 12, 13, 14] (by decide) rfl) hS ls (lv_sub hl [1, 2, 0] rfl)
        · skip
          refine tpi (w := nI 0) hw ?_
          refine lv_if_ne (tgt := 34) G.1 G.2.1 d_Wo_nameEnd_19 (by decide) (fun c19 => absurd c19 (by decide)) (fun c19 => ?_)
          refine W.eq (g2 := F0 m 22 ls []) rfl ?_
          refine lv_aload_n G.1 G.2.1 d_Wo_nameEnd_22 rfl (lv_at hl 0 rfl) ?_
          refine kg (ci := 8) G iWo hP 0 rfl rfl 6 (by decide) q558 rfl rfl d_Wo_nameEnd_23 ?_
          refine lv_iload_n G.1 G.2.1 d_Wo_nameEnd_26 rfl (lv_at hl 2 rfl) ?_
          refine kbald G hP 14 1 rfl rfl (by omega) (by omega) d_Wo_nameEnd_27 ?_
          refine kEi (wr := [(h0, .inr (8, [.ref r_kind, .ref r_value, .ref r_at, .int f_after, .ref nm, .int (nI ct), .ref tx, .int (nI e9)])), (r_kind, .inl (g 0, 6002, .inl d_kind)), (r_value, .inl (g 0, 6002, .inl d_value)), (r_at, .inl (g 0, 6002, .inl d_at)), (nm, .inr (5, [.ref a1, .ref a2, .ref a3, .ref a4, .ref a5, .ref a6, .ref a7, .ref a8, .ref a9, .int mk, .int stt])), (a1, .inr (3, [.ref b1, .int (nI L)])), (b1, .inl (g 0, n1, .inl fl)), (a2, .inr (3, [.ref b2, .int (nI k)])), (b2, .inl (g 0, n2, .inl fs)), (a3, .inr (3, [.ref b3, .int (nI k)])), (b3, .inl (g 0, n3, .inl fz)), (a4, .inr (3, [.ref b4, .int (nI k)])), (b4, .inl (g 0, n4, .inl fn)), (a5, .inl (g 0, 256, .inl fh)), (tx, .inl (g 1, N, .inl ft))]) G (kS (As := [.int (ft j)]) (rest := []) G hP hD hS [] rfl rfl (c_Wo_isDigit l D g (ft j) H.size ) w_Wo_isDigit q1279 rfl rfl ⟨Nat.le_of_ble_eq_true rfl, Nat.le_of_ble_eq_true rfl⟩ (fun _ h => absurd h List.not_mem_nil) hl.1 rfl (Nat.le_of_ble_eq_true rfl) rfl ⟨by show _ ≤ (2 * L + 6 * k + 600); omega, (by show _ ≤ 2 * (2 * L + 6 * k + 600); omega)⟩ d_Wo_nameEnd_28) hP hD hS [] [0, 1, 2, 3, 4, 5, 6, 7, 8, 9, 10, 11, 12, 13, 14] rfl rfl rfl rfl (fun r_8 u_9 H locs hw hP hD hS hzH => ?_)
          have hw : (r_8 = 1 ∧ isD (ft j)) ∨ (r_8 = 0 ∧ ¬ isD (ft j)) := hw
          have hP : va_P D CL [(h0, .inr (8, [.ref r_kind, .ref r_value, .ref r_at, .int f_after, .ref nm, .int (nI ct), .ref tx, .int (nI e9)])), (r_kind, .inl (g 0, 6002, .inl d_kind)), (r_value, .inl (g 0, 6002, .inl d_value)), (r_at, .inl (g 0, 6002, .inl d_at)), (nm, .inr (5, [.ref a1, .ref a2, .ref a3, .ref a4, .ref a5, .ref a6, .ref a7, .ref a8, .ref a9, .int mk, .int stt])), (a1, .inr (3, [.ref b1, .int (nI L)])), (b1, .inl (g 0, n1, .inl fl)), (a2, .inr (3, [.ref b2, .int (nI k)])), (b2, .inl (g 0, n2, .inl fs)), (a3, .inr (3, [.ref b3, .int (nI k)])), (b3, .inl (g 0, n3, .inl fz)), (a4, .inr (3, [.ref b4, .int (nI k)])), (b4, .inl (g 0, n4, .inl fn)), (a5, .inl (g 0, 256, .inl fh)), (tx, .inl (g 1, N, .inl ft))] H := hP
          have hD : va_D A [(h0, .inr (8, [.ref r_kind, .ref r_value, .ref r_at, .int f_after, .ref nm, .int (nI ct), .ref tx, .int (nI e9)])), (r_kind, .inl (g 0, 6002, .inl d_kind)), (r_value, .inl (g 0, 6002, .inl d_value)), (r_at, .inl (g 0, 6002, .inl d_at)), (nm, .inr (5, [.ref a1, .ref a2, .ref a3, .ref a4, .ref a5, .ref a6, .ref a7, .ref a8, .ref a9, .int mk, .int stt])), (a1, .inr (3, [.ref b1, .int (nI L)])), (b1, .inl (g 0, n1, .inl fl)), (a2, .inr (3, [.ref b2, .int (nI k)])), (b2, .inl (g 0, n2, .inl fs)), (a3, .inr (3, [.ref b3, .int (nI k)])), (b3, .inl (g 0, n3, .inl fz)), (a4, .inr (3, [.ref b4, .int (nI k)])), (b4, .inl (g 0, n4, .inl fn)), (a5, .inl (g 0, 256, .inl fh)), (tx, .inl (g 1, N, .inl ft))] := hD
          rcases hw with ⟨hw, hb31⟩ | ⟨hw, hb31⟩
          · skip
            refine tpi (w := nI 1) hw ?_
            refine lv_if_eq (tgt := 40) G.1 G.2.1 d_Wo_nameEnd_31 (by decide) (fun c31 => absurd c31 (by decide)) (fun c31 => ?_)
            refine lv_iinc (v := nI (j + 1)) (lv' := [(2, .int (nI (j + 1))), (0, .ref h0), (1, .int (nI i9))]) G.1 G.2.1 d_Wo_nameEnd_34 hl (k := 2) rfl (show (nI j) + Int32.ofInt 1 = nI (j + 1) from nI_1 _) (by decide) rfl (fun ls hl => ?_)
            refine lv_goto (tgt := 2) G.1 G.2.1 d_Wo_nameEnd_37 (by decide) ?_
            exact ih_L_1 (j + 1) (by omega) (by omega) (by omega) (Or.inr (by omega)) _ _ (hP.sub [0, 1, 2, 3, 4, 5, 6, 7, 8, 9, 10, 11, 12, 13, 14] rfl) (hD.sub [0, 1, 2, 3, 4, 5, 6, 7, 8, 9, 10, 11, 12, 13, 14] (by decide) rfl) hS ls (lv_sub hl [1, 2, 0] rfl)
          · skip
            refine tpi (w := nI 0) hw ?_
            refine lv_if_eq (tgt := 40) G.1 G.2.1 d_Wo_nameEnd_31 (by decide) (fun c31 => ?_) (fun c31 => absurd c31 (by decide))
            have hij : i9 < j := by
                rcases hjl with h | h
                · exact absurd (h ▸ hlt) hb19
                · exact h
            refine lv_iload_n G.1 G.2.1 d_Wo_nameEnd_40 rfl (lv_at hl 2 rfl) ?_
            refine lv_iload_n G.1 G.2.1 d_Wo_nameEnd_41 rfl (lv_at hl 1 rfl) ?_
            refine lv_isub G.1 G.2.1 d_Wo_nameEnd_42 ?_
            refine tpi (w := nI (j - i9)) (pk_sub (by omega)) ?_
            refine lv_bipush (v := nI 12) G.1 G.2.1 d_Wo_nameEnd_43 (by decide) ?_
            refine lv_icmp_le (tgt := 50) G.1 G.2.1 d_Wo_nameEnd_45 (by decide) (fun c45 => ?_) (fun c45 => ?_)
            · skip
              have c45 : (j - i9) ≤ 12 := (nI_leI (by omega) (by omega)).mp c45
              refine lv_aload_n G.1 G.2.1 d_Wo_nameEnd_50 rfl (lv_at hl 0 rfl) ?_
              refine W.eq (g2 := F0 m 51 ls [.ref h0]) rfl ?_
              refine lv_iconst (v := nI 1) G.1 G.2.1 d_Wo_nameEnd_51 (by decide) ?_
              refine lv_aload_n G.1 G.2.1 d_Wo_nameEnd_52 rfl (lv_at hl 0 rfl) ?_
              refine kg (ci := 8) G iWo hP 0 rfl rfl 4 (by decide) q556 rfl rfl d_Wo_nameEnd_53 ?_
              refine lv_aload_n G.1 G.2.1 d_Wo_nameEnd_56 rfl (lv_at hl 0 rfl) ?_
              refine kg (ci := 8) G iWo hP 0 rfl rfl 6 (by decide) q558 rfl rfl d_Wo_nameEnd_57 ?_
              refine lv_iload_n G.1 G.2.1 d_Wo_nameEnd_60 rfl (lv_at hl 1 rfl) ?_
              refine lv_iload_n G.1 G.2.1 d_Wo_nameEnd_61 rfl (lv_at hl 2 rfl) ?_
              refine lv_iload_n G.1 G.2.1 d_Wo_nameEnd_62 rfl (lv_at hl 1 rfl) ?_
              refine lv_isub G.1 G.2.1 d_Wo_nameEnd_63 ?_
              refine tpi (w := nI (j - i9)) (pk_sub (by omega)) ?_
              refine kEiu (wr := [(h0, .inr (8, [.ref r_kind, .ref r_value, .ref r_at, .int f_after, .ref nm, .int (nI ct), .ref tx, .int (nI e9)])), (r_kind, .inl (g 0, 6002, .inl d_kind)), (r_value, .inl (g 0, 6002, .inl d_value)), (r_at, .inl (g 0, 6002, .inl d_at))]) G (kVu (As := [.ref tx, .int (nI i9), .int (nI (j - i9))]) (rest := [.int (nI 1), .ref h0]) G hP hD hS [4, 5, 6, 7, 8, 9, 10, 11, 12, 13, 14] rfl rfl (c_Na_number_g l D g nm a1 a2 a3 a4 a5 a6 a7 a8 a9 b1 b2 b3 b4 n1 n2 n3 n4 mk stt k L fl fs fz fn fh tx N ft i9 (j - i9) H.size (us H) hI hL1 hk2 hk3 hk4 hn1 hn2 hn3 hn4 (by omega) (by omega) hN (by omega) (by omega)) w_Na_number q1282 rfl rfl ⟨Nat.le_of_ble_eq_true rfl, Nat.le_of_ble_eq_true rfl⟩ (fun _ h => absurd h List.not_mem_nil) 4 (ci := 5) rfl rfl rfl hl.1 rfl (Nat.le_of_ble_eq_true rfl) rfl ⟨by show _ ≤ (2 * L + 6 * k + 600); omega, by show _ ≤ 2 * (2 * L + 6 * k + 600); omega⟩ d_Wo_nameEnd_64) hP hD hS [4, 5, 6, 7, 8, 9, 10, 11, 12, 13, 14] [0, 1, 2, 3] rfl rfl rfl rfl (fun r_10 u_11 H locs hw hP hD hS hzH => ?_)
              obtain ⟨k1, L1, fl1, fs1, fz1, fn1, fh1, d1, d2, d3, d4, m1, m2, m3, m4⟩ := u_11
              have hw : (∃ id : Nat, r_10 = nI id ∧ id < k1) ∧ k ≤ k1 ∧ k1 ≤ k + 1 ∧ L ≤ L1 ∧ L1 ≤ L + ((j - i9)) ∧ NI k1 L1 fs1 fz1 fn1 fh1 ∧ (L1 ≤ m1 ∧ k1 ≤ m2 ∧ k1 ≤ m3 ∧ k1 ≤ m4) ∧ (n1 ≤ m1 ∧ n2 ≤ m2 ∧ n3 ≤ m3 ∧ n4 ≤ m4) ∧ (m1 = n1 ∨ m1 ≤ 2 * L1 + 8) ∧ (m2 = n2 ∨ m2 ≤ 2 * k1 + 8) ∧ (m3 = n3 ∨ m3 ≤ 2 * k1 + 8) ∧ (m4 = n4 ∨ m4 ≤ 2 * k1 + 8) := hw
              obtain ⟨⟨id, hid, hid2⟩, hw1, hw2, hw3, hw4, hwI, ⟨hw5, hw6, hw7, hw8⟩, ⟨hw9, hw10, hw11, hw12⟩, hw13, hw14, hw15, hw16⟩ := hw
              have hG : NGr k L n1 n2 n3 n4 k1 L1 m1 m2 m3 m4 fs1 fz1 fn1 fh1 (j - i9) := ⟨hw1, by omega, hw3, by omega, hwI, ⟨hw5, hw6, hw7, hw8⟩, ⟨hw9, hw10, hw11, hw12⟩, hw13, hw14, hw15, hw16⟩
              have hB : (m1 - n1) + (m2 - n2) + (m3 - n3) + (m4 - n4) ≤ 2 * L + 6 * k + 560 := dc_bound (d := (j - i9)) (by omega) hL1 hk2 hk3 hk4 hw2 hw4 hw9 hw10 hw11 hw12 hw13 hw14 hw15 hw16
              have hkk : k1 < 2 ^ 20 := Nat.lt_of_le_of_lt hw2 (by omega)
              clear hw1 hw2 hw3 hw4 hwI hw5 hw6 hw7 hw8 hw9 hw10 hw11 hw12 hw13 hw14 hw15 hw16
              have hP : va_P D CL [(h0, .inr (8, [.ref r_kind, .ref r_value, .ref r_at, .int f_after, .ref nm, .int (nI ct), .ref tx, .int (nI e9)])), (r_kind, .inl (g 0, 6002, .inl d_kind)), (r_value, .inl (g 0, 6002, .inl d_value)), (r_at, .inl (g 0, 6002, .inl d_at)), (nm, .inr (5, [.ref a1, .ref a2, .ref a3, .ref a4, .ref a5, .ref a6, .ref a7, .ref a8, .ref a9, .int mk, .int stt])), (a1, .inr (3, [.ref d1, .int (nI L1)])), (d1, .inl (g 0, m1, .inl fl1)), (a2, .inr (3, [.ref d2, .int (nI k1)])), (d2, .inl (g 0, m2, .inl fs1)), (a3, .inr (3, [.ref d3, .int (nI k1)])), (d3, .inl (g 0, m3, .inl fz1)), (a4, .inr (3, [.ref d4, .int (nI k1)])), (d4, .inl (g 0, m4, .inl fn1)), (a5, .inl (g 0, 256, .inl fh1)), (tx, .inl (g 1, N, .inl ft))] H := hP
              have hD : va_D A [(h0, .inr (8, [.ref r_kind, .ref r_value, .ref r_at, .int f_after, .ref nm, .int (nI ct), .ref tx, .int (nI e9)])), (r_kind, .inl (g 0, 6002, .inl d_kind)), (r_value, .inl (g 0, 6002, .inl d_value)), (r_at, .inl (g 0, 6002, .inl d_at)), (nm, .inr (5, [.ref a1, .ref a2, .ref a3, .ref a4, .ref a5, .ref a6, .ref a7, .ref a8, .ref a9, .int mk, .int stt])), (a1, .inr (3, [.ref d1, .int (nI L1)])), (d1, .inl (g 0, m1, .inl fl1)), (a2, .inr (3, [.ref d2, .int (nI k1)])), (d2, .inl (g 0, m2, .inl fs1)), (a3, .inr (3, [.ref d3, .int (nI k1)])), (d3, .inl (g 0, m3, .inl fz1)), (a4, .inr (3, [.ref d4, .int (nI k1)])), (d4, .inl (g 0, m4, .inl fn1)), (a5, .inl (g 0, 256, .inl fh1)), (tx, .inl (g 1, N, .inl ft))] := hD
              refine W.widen (k := ((m1 - n1) + (m2 - n2) + (m3 - n3) + (m4 - n4))) (n := 2 * ((m1 - n1) + (m2 - n2) + (m3 - n3) + (m4 - n4))) (Nat.le_of_eq (Nat.zero_add _)) (Nat.le_of_eq (Nat.zero_add _)) ?_
              refine tpi (w := nI id) hid ?_
              refine lv_iload_n G.1 G.2.1 d_Wo_nameEnd_67 rfl (lv_at hl 1 rfl) ?_
              refine kEv (wr := [(nm, .inr (5, [.ref a1, .ref a2, .ref a3, .ref a4, .ref a5, .ref a6, .ref a7, .ref a8, .ref a9, .int mk, .int stt])), (a1, .inr (3, [.ref d1, .int (nI L1)])), (d1, .inl (g 0, m1, .inl fl1)), (a2, .inr (3, [.ref d2, .int (nI k1)])), (d2, .inl (g 0, m2, .inl fs1)), (a3, .inr (3, [.ref d3, .int (nI k1)])), (d3, .inl (g 0, m3, .inl fz1)), (a4, .inr (3, [.ref d4, .int (nI k1)])), (d4, .inl (g 0, m4, .inl fn1)), (a5, .inl (g 0, 256, .inl fh1)), (tx, .inl (g 1, N, .inl ft))]) G (kV (As := [.int (nI 1), .int (nI id), .int (nI i9)]) (rest := []) G hP hD hS [0, 1, 2, 3] rfl rfl (c_Wo_add l D g h0 (nI 1) (nI id) (nI i9) r_kind r_value r_at f_after nm ct tx (nI e9) d_kind d_value d_at H.size (by omega)) w_Wo_add q1283 rfl rfl ⟨Nat.le_of_ble_eq_true rfl, Nat.le_of_ble_eq_true rfl⟩ (fun _ h => absurd h List.not_mem_nil) 0 (ci := 8) rfl rfl rfl hl.1 rfl (Nat.le_of_ble_eq_true rfl) rfl ⟨by show _ ≤ (2 * L + 6 * k + 600); omega, (by show _ ≤ 2 * (2 * L + 6 * k + 600); omega)⟩ d_Wo_nameEnd_68) hP hD hS [0, 1, 2, 3] [4, 5, 6, 7, 8, 9, 10, 11, 12, 13, 14] rfl rfl rfl rfl (fun u_13 H locs hw hP hD hS hzH => ?_)
              have hw : True := hw
              have hP : va_P D CL [(nm, .inr (5, [.ref a1, .ref a2, .ref a3, .ref a4, .ref a5, .ref a6, .ref a7, .ref a8, .ref a9, .int mk, .int stt])), (a1, .inr (3, [.ref d1, .int (nI L1)])), (d1, .inl (g 0, m1, .inl fl1)), (a2, .inr (3, [.ref d2, .int (nI k1)])), (d2, .inl (g 0, m2, .inl fs1)), (a3, .inr (3, [.ref d3, .int (nI k1)])), (d3, .inl (g 0, m3, .inl fz1)), (a4, .inr (3, [.ref d4, .int (nI k1)])), (d4, .inl (g 0, m4, .inl fn1)), (a5, .inl (g 0, 256, .inl fh1)), (tx, .inl (g 1, N, .inl ft)), (h0, .inr (8, [.ref r_kind, .ref r_value, .ref r_at, .int f_after, .ref nm, .int (nI (ct + 1)), .ref tx, .int (nI e9)])), (r_kind, .inl (g 0, 6002, .inl (upd d_kind ct (nI 1)))), (r_value, .inl (g 0, 6002, .inl (upd d_value ct (nI id)))), (r_at, .inl (g 0, 6002, .inl (upd d_at ct (nI i9))))] H := hP
              have hD : va_D A [(nm, .inr (5, [.ref a1, .ref a2, .ref a3, .ref a4, .ref a5, .ref a6, .ref a7, .ref a8, .ref a9, .int mk, .int stt])), (a1, .inr (3, [.ref d1, .int (nI L1)])), (d1, .inl (g 0, m1, .inl fl1)), (a2, .inr (3, [.ref d2, .int (nI k1)])), (d2, .inl (g 0, m2, .inl fs1)), (a3, .inr (3, [.ref d3, .int (nI k1)])), (d3, .inl (g 0, m3, .inl fz1)), (a4, .inr (3, [.ref d4, .int (nI k1)])), (d4, .inl (g 0, m4, .inl fn1)), (a5, .inl (g 0, 256, .inl fh1)), (tx, .inl (g 1, N, .inl ft)), (h0, .inr (8, [.ref r_kind, .ref r_value, .ref r_at, .int f_after, .ref nm, .int (nI (ct + 1)), .ref tx, .int (nI e9)])), (r_kind, .inl (g 0, 6002, .inl (upd d_kind ct (nI 1)))), (r_value, .inl (g 0, 6002, .inl (upd d_value ct (nI id)))), (r_at, .inl (g 0, 6002, .inl (upd d_at ct (nI i9))))] := hD
              refine W.eq (g2 := F0 m 71 ls []) rfl ?_
              refine lv_iload_n G.1 G.2.1 d_Wo_nameEnd_71 rfl (lv_at hl 2 rfl) ?_
              have hP : va_P D CL [(h0, .inr (8, [.ref r_kind, .ref r_value, .ref r_at, .int f_after, .ref nm, .int (nI (ct + 1)), .ref tx, .int (nI e9)])), (r_kind, .inl (g 0, 6002, .inl ((upd d_kind ct (nI 1))))), (r_value, .inl (g 0, 6002, .inl ((upd d_value ct (nI id))))), (r_at, .inl (g 0, 6002, .inl ((upd d_at ct (nI i9))))), (nm, .inr (5, [.ref a1, .ref a2, .ref a3, .ref a4, .ref a5, .ref a6, .ref a7, .ref a8, .ref a9, .int mk, .int stt])), (a1, .inr (3, [.ref d1, .int (nI L1)])), (d1, .inl (g 0, m1, .inl fl1)), (a2, .inr (3, [.ref d2, .int (nI k1)])), (d2, .inl (g 0, m2, .inl fs1)), (a3, .inr (3, [.ref d3, .int (nI k1)])), (d3, .inl (g 0, m3, .inl fz1)), (a4, .inr (3, [.ref d4, .int (nI k1)])), (d4, .inl (g 0, m4, .inl fn1)), (a5, .inl (g 0, 256, .inl fh1)), (tx, .inl (g 1, N, .inl ft))] H := hP.sub [11, 12, 13, 14, 0, 1, 2, 3, 4, 5, 6, 7, 8, 9, 10] rfl
              have hD : va_D A [(h0, .inr (8, [.ref r_kind, .ref r_value, .ref r_at, .int f_after, .ref nm, .int (nI (ct + 1)), .ref tx, .int (nI e9)])), (r_kind, .inl (g 0, 6002, .inl ((upd d_kind ct (nI 1))))), (r_value, .inl (g 0, 6002, .inl ((upd d_value ct (nI id))))), (r_at, .inl (g 0, 6002, .inl ((upd d_at ct (nI i9))))), (nm, .inr (5, [.ref a1, .ref a2, .ref a3, .ref a4, .ref a5, .ref a6, .ref a7, .ref a8, .ref a9, .int mk, .int stt])), (a1, .inr (3, [.ref d1, .int (nI L1)])), (d1, .inl (g 0, m1, .inl fl1)), (a2, .inr (3, [.ref d2, .int (nI k1)])), (d2, .inl (g 0, m2, .inl fs1)), (a3, .inr (3, [.ref d3, .int (nI k1)])), (d3, .inl (g 0, m3, .inl fz1)), (a4, .inr (3, [.ref d4, .int (nI k1)])), (d4, .inl (g 0, m4, .inl fn1)), (a5, .inl (g 0, 256, .inl fh1)), (tx, .inl (g 1, N, .inl ft))] := hD.sub [11, 12, 13, 14, 0, 1, 2, 3, 4, 5, 6, 7, 8, 9, 10] (by decide) rfl
              refine hret (nI j) (k1, L1, fl1, fs1, fz1, fn1, fh1, d1, d2, d3, d4, m1, m2, m3, m4, (upd d_kind ct (nI 1)), (upd d_value ct (nI id)), (upd d_at ct (nI i9)), ct + 1) _ _ _ _ _ ls (show (m1 - n1) + (m2 - n2) + (m3 - n3) + (m4 - n4) ≤ 2 * L + 6 * k + 560 ∧ WdI (ct + 1) k1 ((upd d_kind ct (nI 1))) ((upd d_value ct (nI id))) ∧ (((nI j) = -1 ∧ (ct + 1) = ct ∧ NGr k L n1 n2 n3 n4 k1 L1 m1 m2 m3 m4 fs1 fz1 fn1 fh1 (e9 - i9)) ∨ ∃ jr : Nat, (nI j) = nI jr ∧ i9 < jr ∧ jr ≤ e9 ∧ (ct + 1) = ct + 1 ∧ NGr k L n1 n2 n3 n4 k1 L1 m1 m2 m3 m4 fs1 fz1 fn1 fh1 (jr - i9)) from ⟨hB, (hW.more hG.1).add (fun _ => ⟨id, rfl, hid2⟩), Or.inr ⟨j, rfl, hij, by omega, rfl, hG⟩⟩) hP hD hS (by show _ ≤ (m1 - n1) + (m2 - n2) + (m3 - n3) + (m4 - n4); omega) (by show _ ≤ 2 * ((m1 - n1) + (m2 - n2) + (m3 - n3) + (m4 - n4)); omega) (by show (m1 - n1) + (m2 - n2) + (m3 - n3) + (m4 - n4) ≤ _; omega) (by show 2 * ((m1 - n1) + (m2 - n2) + (m3 - n3) + (m4 - n4)) ≤ _; omega) d_Wo_nameEnd_72
            · skip
              have c45 : ¬ ((j - i9) ≤ 12) := fun h => c45 ((nI_leI (by omega) (by omega)).mpr h)
              refine lv_iconst (v := (-1)) G.1 G.2.1 d_Wo_nameEnd_48 (by decide) ?_
              refine W.eq (g2 := F0 m 49 ls [.int (-1)]) rfl ?_
              have hP : va_P D CL [(h0, .inr (8, [.ref r_kind, .ref r_value, .ref r_at, .int f_after, .ref nm, .int (nI ct), .ref tx, .int (nI e9)])), (r_kind, .inl (g 0, 6002, .inl d_kind)), (r_value, .inl (g 0, 6002, .inl d_value)), (r_at, .inl (g 0, 6002, .inl d_at)), (nm, .inr (5, [.ref a1, .ref a2, .ref a3, .ref a4, .ref a5, .ref a6, .ref a7, .ref a8, .ref a9, .int mk, .int stt])), (a1, .inr (3, [.ref b1, .int (nI L)])), (b1, .inl (g 0, n1, .inl fl)), (a2, .inr (3, [.ref b2, .int (nI k)])), (b2, .inl (g 0, n2, .inl fs)), (a3, .inr (3, [.ref b3, .int (nI k)])), (b3, .inl (g 0, n3, .inl fz)), (a4, .inr (3, [.ref b4, .int (nI k)])), (b4, .inl (g 0, n4, .inl fn)), (a5, .inl (g 0, 256, .inl fh)), (tx, .inl (g 1, N, .inl ft))] H := hP.sub [0, 1, 2, 3, 4, 5, 6, 7, 8, 9, 10, 11, 12, 13, 14] rfl
              have hD : va_D A [(h0, .inr (8, [.ref r_kind, .ref r_value, .ref r_at, .int f_after, .ref nm, .int (nI ct), .ref tx, .int (nI e9)])), (r_kind, .inl (g 0, 6002, .inl d_kind)), (r_value, .inl (g 0, 6002, .inl d_value)), (r_at, .inl (g 0, 6002, .inl d_at)), (nm, .inr (5, [.ref a1, .ref a2, .ref a3, .ref a4, .ref a5, .ref a6, .ref a7, .ref a8, .ref a9, .int mk, .int stt])), (a1, .inr (3, [.ref b1, .int (nI L)])), (b1, .inl (g 0, n1, .inl fl)), (a2, .inr (3, [.ref b2, .int (nI k)])), (b2, .inl (g 0, n2, .inl fs)), (a3, .inr (3, [.ref b3, .int (nI k)])), (b3, .inl (g 0, n3, .inl fz)), (a4, .inr (3, [.ref b4, .int (nI k)])), (b4, .inl (g 0, n4, .inl fn)), (a5, .inl (g 0, 256, .inl fh)), (tx, .inl (g 1, N, .inl ft))] := hD.sub [0, 1, 2, 3, 4, 5, 6, 7, 8, 9, 10, 11, 12, 13, 14] (by decide) rfl
              refine hret (-1) (k, L, fl, fs, fz, fn, fh, b1, b2, b3, b4, n1, n2, n3, n4, d_kind, d_value, d_at, ct) _ _ _ _ _ ls (show (n1 - n1) + (n2 - n2) + (n3 - n3) + (n4 - n4) ≤ 2 * L + 6 * k + 560 ∧ WdI ct k d_kind d_value ∧ ((((-1)) = -1 ∧ ct = ct ∧ NGr k L n1 n2 n3 n4 k L n1 n2 n3 n4 fs fz fn fh (e9 - i9)) ∨ ∃ jr : Nat, ((-1)) = nI jr ∧ i9 < jr ∧ jr ≤ e9 ∧ ct = ct + 1 ∧ NGr k L n1 n2 n3 n4 k L n1 n2 n3 n4 fs fz fn fh (jr - i9)) from ⟨by omega, hW, Or.inl ⟨rfl, rfl, NGr.refl hI hL1 hk2 hk3 hk4⟩⟩) hP hD hS (Nat.zero_le _) (Nat.zero_le _) (by show (n1 - n1) + (n2 - n2) + (n3 - n3) + (n4 - n4) ≤ _; omega) (by show 2 * ((n1 - n1) + (n2 - n2) + (n3 - n3) + (n4 - n4)) ≤ _; omega) d_Wo_nameEnd_49
  exact L_1 (_ + 1) i9 (Nat.lt_succ_self _) (Nat.le_refl _) (by omega) (Or.inl rfl) _ _ (hP.sub [0, 1, 2, 3, 4, 5, 6, 7, 8, 9, 10, 11, 12, 13, 14] rfl) (hD.sub [0, 1, 2, 3, 4, 5, 6, 7, 8, 9, 10, 11, 12, 13, 14] (by decide) rfl) hS ls (lv_sub hl [1, 2, 0] rfl)
