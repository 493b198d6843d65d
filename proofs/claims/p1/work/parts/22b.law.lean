theorem q1198 : Cond.code y_Cw_feed b_Cw_feed 6 (some .int) ∈ lw_ok := lw_okmem (List.mem_of_getElem? (i := 1198) (by decide +kernel)) rfl
theorem q1196 : Cond.instanceMethod y_Cw_feed ∈ lw_ok := lw_okmem (List.mem_of_getElem? (i := 1196) (by decide +kernel)) rfl
theorem q1197 : Cond.selects y_Cw_feed.cls y_Cw_feed y_Cw_feed ∈ lw_ok := lw_okmem (List.mem_of_getElem? (i := 1197) (by decide +kernel)) rfl
theorem w_Cw_feed : CWv y_Cw_feed b_Cw_feed 6 (some .int) 5 ∧ Cond.instanceMethod y_Cw_feed ∈ lw_ok ∧ Cond.selects y_Cw_feed.cls y_Cw_feed y_Cw_feed ∈ lw_ok := ⟨⟨q1198, q329, by decide +kernel, by decide +kernel, by decide +kernel⟩, q1196, q1197⟩
theorem q1195 : Cond.methodLink "ClassWorksLaw" 13 y_Cw_feed ∈ lw_ok := lw_okmem (List.mem_of_getElem? (i := 1195) (by decide +kernel)) rfl
theorem q3461 : Cond.code y_Mo_feed b_Mo_feed 6 (some .int) ∈ lw_ok := lw_okmem (List.mem_of_getElem? (i := 3461) (by decide +kernel)) rfl
theorem q3459 : Cond.instanceMethod y_Mo_feed ∈ lw_ok := lw_okmem (List.mem_of_getElem? (i := 3459) (by decide +kernel)) rfl
theorem q3460 : Cond.selects y_Mo_feed.cls y_Mo_feed y_Mo_feed ∈ lw_ok := lw_okmem (List.mem_of_getElem? (i := 3460) (by decide +kernel)) rfl
theorem w_Mo_feed : CWv y_Mo_feed b_Mo_feed 6 (some .int) 5 ∧ Cond.instanceMethod y_Mo_feed ∈ lw_ok ∧ Cond.selects y_Mo_feed.cls y_Mo_feed y_Mo_feed ∈ lw_ok := ⟨⟨q3461, q348, by decide +kernel, by decide +kernel, by decide +kernel⟩, q3459, q3460⟩
theorem q3458 : Cond.methodLink "ClassWorksLaw" 17 y_Mo_feed ∈ lw_ok := lw_okmem (List.mem_of_getElem? (i := 3458) (by decide +kernel)) rfl
theorem d_Law_18 : decode code 18 = .ok (.iload_n 3, 1) := by decide +kernel
theorem d_Law_19 : decode code 19 = .ok (.aload_n 0, 1) := by decide +kernel
theorem d_Law_20 : decode code 20 = .ok (.arraylength, 1) := by decide +kernel
theorem d_Law_21 : decode code 21 = .ok (.bipush 6, 2) := by decide +kernel
theorem d_Law_23 : decode code 23 = .ok (.isub, 1) := by decide +kernel
theorem d_Law_24 : decode code 24 = .ok (.if_icmp .gt 1750, 3) := by decide +kernel
theorem d_Law_224 : decode code 224 = .ok (.aload_n 1, 1) := by decide +kernel
theorem d_Law_225 : decode code 225 = .ok (.aload_n 0, 1) := by decide +kernel
theorem d_Law_226 : decode code 226 = .ok (.iload_n 3, 1) := by decide +kernel
theorem d_Law_227 : decode code 227 = .ok (.iconst 1, 1) := by decide +kernel
theorem d_Law_228 : decode code 228 = .ok (.iadd, 1) := by decide +kernel
theorem d_Law_229 : decode code 229 = .ok (.iaload, 1) := by decide +kernel
theorem d_Law_230 : decode code 230 = .ok (.aload_n 0, 1) := by decide +kernel
theorem d_Law_231 : decode code 231 = .ok (.iload_n 3, 1) := by decide +kernel
theorem d_Law_232 : decode code 232 = .ok (.iconst 2, 1) := by decide +kernel
theorem d_Law_233 : decode code 233 = .ok (.iadd, 1) := by decide +kernel
theorem d_Law_234 : decode code 234 = .ok (.iaload, 1) := by decide +kernel
theorem d_Law_235 : decode code 235 = .ok (.aload_n 0, 1) := by decide +kernel
theorem d_Law_236 : decode code 236 = .ok (.iload_n 3, 1) := by decide +kernel
theorem d_Law_237 : decode code 237 = .ok (.iconst 3, 1) := by decide +kernel
theorem d_Law_238 : decode code 238 = .ok (.iadd, 1) := by decide +kernel
theorem d_Law_239 : decode code 239 = .ok (.iaload, 1) := by decide +kernel
theorem d_Law_240 : decode code 240 = .ok (.aload_n 0, 1) := by decide +kernel
theorem d_Law_241 : decode code 241 = .ok (.iload_n 3, 1) := by decide +kernel
theorem d_Law_242 : decode code 242 = .ok (.iconst 4, 1) := by decide +kernel
theorem d_Law_243 : decode code 243 = .ok (.iadd, 1) := by decide +kernel
theorem d_Law_244 : decode code 244 = .ok (.iaload, 1) := by decide +kernel
theorem d_Law_245 : decode code 245 = .ok (.aload_n 0, 1) := by decide +kernel
theorem d_Law_246 : decode code 246 = .ok (.iload_n 3, 1) := by decide +kernel
theorem d_Law_247 : decode code 247 = .ok (.iconst 5, 1) := by decide +kernel
theorem d_Law_248 : decode code 248 = .ok (.iadd, 1) := by decide +kernel
theorem d_Law_249 : decode code 249 = .ok (.iaload, 1) := by decide +kernel
theorem d_Law_250 : decode code 250 = .ok (.invokevirtual 13, 3) := by decide +kernel
theorem d_Law_253 : decode code 253 = .ok (.aload_n 2, 1) := by decide +kernel
theorem d_Law_254 : decode code 254 = .ok (.aload_n 0, 1) := by decide +kernel
theorem d_Law_255 : decode code 255 = .ok (.iload_n 3, 1) := by decide +kernel
theorem d_Law_256 : decode code 256 = .ok (.iconst 1, 1) := by decide +kernel
theorem d_Law_257 : decode code 257 = .ok (.iadd, 1) := by decide +kernel
theorem d_Law_258 : decode code 258 = .ok (.iaload, 1) := by decide +kernel
theorem d_Law_259 : decode code 259 = .ok (.aload_n 0, 1) := by decide +kernel
theorem d_Law_260 : decode code 260 = .ok (.iload_n 3, 1) := by decide +kernel
theorem d_Law_261 : decode code 261 = .ok (.iconst 2, 1) := by decide +kernel
theorem d_Law_262 : decode code 262 = .ok (.iadd, 1) := by decide +kernel
theorem d_Law_263 : decode code 263 = .ok (.iaload, 1) := by decide +kernel
theorem d_Law_264 : decode code 264 = .ok (.aload_n 0, 1) := by decide +kernel
theorem d_Law_265 : decode code 265 = .ok (.iload_n 3, 1) := by decide +kernel
theorem d_Law_266 : decode code 266 = .ok (.iconst 3, 1) := by decide +kernel
theorem d_Law_267 : decode code 267 = .ok (.iadd, 1) := by decide +kernel
theorem d_Law_268 : decode code 268 = .ok (.iaload, 1) := by decide +kernel
theorem d_Law_269 : decode code 269 = .ok (.aload_n 0, 1) := by decide +kernel
theorem d_Law_270 : decode code 270 = .ok (.iload_n 3, 1) := by decide +kernel
theorem d_Law_271 : decode code 271 = .ok (.iconst 4, 1) := by decide +kernel
theorem d_Law_272 : decode code 272 = .ok (.iadd, 1) := by decide +kernel
theorem d_Law_273 : decode code 273 = .ok (.iaload, 1) := by decide +kernel
theorem d_Law_274 : decode code 274 = .ok (.aload_n 0, 1) := by decide +kernel
theorem d_Law_275 : decode code 275 = .ok (.iload_n 3, 1) := by decide +kernel
theorem d_Law_276 : decode code 276 = .ok (.iconst 5, 1) := by decide +kernel
theorem d_Law_277 : decode code 277 = .ok (.iadd, 1) := by decide +kernel
theorem d_Law_278 : decode code 278 = .ok (.iaload, 1) := by decide +kernel
theorem d_Law_279 : decode code 279 = .ok (.invokevirtual 17, 3) := by decide +kernel
theorem d_Law_282 : decode code 282 = .ok (.if_icmp .eq 1486, 3) := by decide +kernel
theorem d_Law_1768 : decode code 1768 = .ok (.iinc 3 6, 3) := by decide +kernel
theorem d_Law_1771 : decode code 1771 = .ok (.goto (-1753), 3) := by decide +kernel
theorem d_Law_1774 : decode code 1774 = .ok (.iconst 1, 1) := by decide +kernel
theorem d_Law_1775 : decode code 1775 = .ok (.ireturn, 1) := by decide +kernel
set_option maxHeartbeats 4000000 in
set_option maxRecDepth 100000 in
theorem law_feed {p : Program} {e : Env} {s : State} {m : MethodId} {below : List Frame} {meth : Method} {c : Code} {l : Launch} {D : va_G} {g : Nat → ClassId} {sl : List SL} {b : Nat} {xs : Nat → Int32} {A : Nat → Prop} (h0 : Nat) (r_cwords : Nat) (r_creader : Nat) (r_cchecker : Nat) (r_cfinder : Nat) (r_cwriter : Nat) (r_cmachines : Nat) (r_ctape : Nat) (r_cstock : Nat) (r_csizes : Nat) (r_cmet : Nat) (r_cfound : Nat) (r_cdraft : Nat) (r_cfewestFor : Nat) (r_cfewestNext : Nat) (ft : Nat → Int32) (h0X : Nat) (fsX : List Value) (r_otapeX : Nat) (ftX : Nat → Int32) (G : GV l p s m #[Value.ref b] meth c (⟨"ClassWorksLaw", meth.name, ""⟩ : MethodName) code 4 ret g D sl A) (hX : va_X b 6 xs s s.heap) (hbl : b < s.heap.size) (hbA : ¬ A b) (hAA : ∀ q, A q → s.heap.size ≤ q) {H : Heap} {locs : List Loc} {ls : Array Slot} (glenX : fsX.length = 131) (gk0X : fsX[85]? = some (.int (nI 0))) (gk1X : fsX[84]? = some (.ref r_otapeX)) (hP : va_P D CL [(h0, .inr (11, [.ref r_cwords, .ref r_creader, .ref r_cchecker, .ref r_cfinder, .ref r_cwriter, .ref r_cmachines, .ref r_ctape, .int (nI 0), .int (-2), .int (nI 60000), .ref r_cstock, .ref r_csizes, .ref r_cmet, .ref r_cfound, .int (nI 0), .ref r_cdraft, .int (nI 0), .int (nI 0), .ref r_cfewestFor, .ref r_cfewestNext])), (r_ctape, .inl (g 1, 6000, .inl ft)), (h0X, .inr (14, fsX)), (r_otapeX, .inl (g 1, 6000, .inl ftX))] H) (hD : va_D A [(h0, .inr (11, [.ref r_cwords, .ref r_creader, .ref r_cchecker, .ref r_cfinder, .ref r_cwriter, .ref r_cmachines, .ref r_ctape, .int (nI 0), .int (-2), .int (nI 60000), .ref r_cstock, .ref r_csizes, .ref r_cmet, .ref r_cfound, .int (nI 0), .ref r_cdraft, .int (nI 0), .int (nI 0), .ref r_cfewestFor, .ref r_cfewestNext])), (r_ctape, .inl (g 1, 6000, .inl ft)), (h0X, .inr (14, fsX)), (r_otapeX, .inl (g 1, 6000, .inl ftX))]) (hS : va_S A s.heap H locs) (hl : lv_has ls 4 [(0, .ref b), (1, .ref h0), (2, .ref h0X), (3, .int (nI 0))]) : W p l e room_1 s m #[Value.ref b] below meth c H locs 702 488194 (lw_Z below #[Value.ref b] s) (F0 m 224 ls []) := by
  refine lv_aload_n G.1 G.2.1 d_Law_224 rfl (lv_at hl 1 rfl) ?_
  refine lv_aload_n G.1 G.2.1 d_Law_225 rfl (lv_at hl 0 rfl) ?_
  refine lv_iload_n G.1 G.2.1 d_Law_226 rfl (lv_at hl 3 rfl) ?_
  refine lv_iconst (v := nI 1) G.1 G.2.1 d_Law_227 (by decide) ?_
  refine lv_iadd G.1 G.2.1 d_Law_228 ?_
  refine tpi (w := nI 1) (by decide) ?_
  refine va_sld G.1 G.2.1 hX hbl hbA hS (nI_inn (n := 6) (a := 1) (by decide) (by decide)) d_Law_229 ?_
  refine tpi (w := (xs 1)) (by rw [nI_clamp (by decide)]) ?_
  refine lv_aload_n G.1 G.2.1 d_Law_230 rfl (lv_at hl 0 rfl) ?_
  refine lv_iload_n G.1 G.2.1 d_Law_231 rfl (lv_at hl 3 rfl) ?_
  refine lv_iconst (v := nI 2) G.1 G.2.1 d_Law_232 (by decide) ?_
  refine lv_iadd G.1 G.2.1 d_Law_233 ?_
  refine tpi (w := nI 2) (by decide) ?_
  refine va_sld G.1 G.2.1 hX hbl hbA hS (nI_inn (n := 6) (a := 2) (by decide) (by decide)) d_Law_234 ?_
  refine tpi (w := (xs 2)) (by rw [nI_clamp (by decide)]) ?_
  refine W.eq (g2 := F0 m 235 ls [.int (xs 2), .int (xs 1), .ref h0]) rfl ?_
  refine lv_aload_n G.1 G.2.1 d_Law_235 rfl (lv_at hl 0 rfl) ?_
  refine lv_iload_n G.1 G.2.1 d_Law_236 rfl (lv_at hl 3 rfl) ?_
  refine lv_iconst (v := nI 3) G.1 G.2.1 d_Law_237 (by decide) ?_
  refine lv_iadd G.1 G.2.1 d_Law_238 ?_
  refine tpi (w := nI 3) (by decide) ?_
  refine va_sld G.1 G.2.1 hX hbl hbA hS (nI_inn (n := 6) (a := 3) (by decide) (by decide)) d_Law_239 ?_
  refine tpi (w := (xs 3)) (by rw [nI_clamp (by decide)]) ?_
  refine lv_aload_n G.1 G.2.1 d_Law_240 rfl (lv_at hl 0 rfl) ?_
  refine lv_iload_n G.1 G.2.1 d_Law_241 rfl (lv_at hl 3 rfl) ?_
  refine lv_iconst (v := nI 4) G.1 G.2.1 d_Law_242 (by decide) ?_
  refine lv_iadd G.1 G.2.1 d_Law_243 ?_
  refine tpi (w := nI 4) (by decide) ?_
  refine va_sld G.1 G.2.1 hX hbl hbA hS (nI_inn (n := 6) (a := 4) (by decide) (by decide)) d_Law_244 ?_
  refine tpi (w := (xs 4)) (by rw [nI_clamp (by decide)]) ?_
  refine lv_aload_n G.1 G.2.1 d_Law_245 rfl (lv_at hl 0 rfl) ?_
  refine lv_iload_n G.1 G.2.1 d_Law_246 rfl (lv_at hl 3 rfl) ?_
  refine W.eq (g2 := F0 m 247 ls [.int (nI 0), .ref b, .int (xs 4), .int (xs 3), .int (xs 2), .int (xs 1), .ref h0]) rfl ?_
  refine lv_iconst (v := nI 5) G.1 G.2.1 d_Law_247 (by decide) ?_
  refine lv_iadd G.1 G.2.1 d_Law_248 ?_
  refine tpi (w := nI 5) (by decide) ?_
  refine va_sld G.1 G.2.1 hX hbl hbA hS (nI_inn (n := 6) (a := 5) (by decide) (by decide)) d_Law_249 ?_
  refine tpi (w := (xs 5)) (by rw [nI_clamp (by decide)]) ?_
  refine kEi (wr := [(h0X, .inr (14, fsX)), (r_otapeX, .inl (g 1, 6000, .inl ftX))]) G (kV (As := [.int (xs 1), .int (xs 2), .int (xs 3), .int (xs 4), .int (xs 5)]) (rest := []) G hP hD hS [0, 1] rfl rfl (c_Cw_feed l D g h0 (xs 1) (xs 2) (xs 3) (xs 4) (xs 5) r_cwords r_creader r_cchecker r_cfinder r_cwriter r_cmachines r_ctape r_cstock r_csizes r_cmet r_cfound r_cdraft r_cfewestFor r_cfewestNext ft H.size ) w_Cw_feed q1195 rfl rfl ⟨Nat.le_of_ble_eq_true rfl, Nat.le_of_ble_eq_true rfl⟩ (fun _ h => absurd h List.not_mem_nil) 0 (ci := 11) rfl rfl rfl hl.1 rfl (Nat.le_of_ble_eq_true rfl) rfl ⟨Nat.le_of_ble_eq_true rfl, (Nat.le_of_ble_eq_true rfl)⟩ d_Law_250) hP hD hS [0, 1] [2, 3] rfl rfl rfl rfl (fun r_1 u_2 H locs hw hP hD hS hzH => ?_)
  have hw : r_1 = nI 20 := hw
  have hP : va_P D CL [(h0X, .inr (14, fsX)), (r_otapeX, .inl (g 1, 6000, .inl ftX))] H := hP
  have hD : va_D A [(h0X, .inr (14, fsX)), (r_otapeX, .inl (g 1, 6000, .inl ftX))] := hD
  subst hw
  refine tpst (w := [.int (nI 20)]) rfl ?_
  refine lv_aload_n G.1 G.2.1 d_Law_253 rfl (lv_at hl 2 rfl) ?_
  refine lv_aload_n G.1 G.2.1 d_Law_254 rfl (lv_at hl 0 rfl) ?_
  refine lv_iload_n G.1 G.2.1 d_Law_255 rfl (lv_at hl 3 rfl) ?_
  refine lv_iconst (v := nI 1) G.1 G.2.1 d_Law_256 (by decide) ?_
  refine lv_iadd G.1 G.2.1 d_Law_257 ?_
  refine tpi (w := nI 1) (by decide) ?_
  refine va_sld G.1 G.2.1 hX hbl hbA hS (nI_inn (n := 6) (a := 1) (by decide) (by decide)) d_Law_258 ?_
  refine tpi (w := (xs 1)) (by rw [nI_clamp (by decide)]) ?_
  refine lv_aload_n G.1 G.2.1 d_Law_259 rfl (lv_at hl 0 rfl) ?_
  refine lv_iload_n G.1 G.2.1 d_Law_260 rfl (lv_at hl 3 rfl) ?_
  refine W.eq (g2 := F0 m 261 ls [.int (nI 0), .ref b, .int (xs 1), .ref h0X, .int (nI 20)]) rfl ?_
  refine lv_iconst (v := nI 2) G.1 G.2.1 d_Law_261 (by decide) ?_
  refine lv_iadd G.1 G.2.1 d_Law_262 ?_
  refine tpi (w := nI 2) (by decide) ?_
  refine va_sld G.1 G.2.1 hX hbl hbA hS (nI_inn (n := 6) (a := 2) (by decide) (by decide)) d_Law_263 ?_
  refine tpi (w := (xs 2)) (by rw [nI_clamp (by decide)]) ?_
  refine lv_aload_n G.1 G.2.1 d_Law_264 rfl (lv_at hl 0 rfl) ?_
  refine lv_iload_n G.1 G.2.1 d_Law_265 rfl (lv_at hl 3 rfl) ?_
  refine lv_iconst (v := nI 3) G.1 G.2.1 d_Law_266 (by decide) ?_
  refine lv_iadd G.1 G.2.1 d_Law_267 ?_
  refine tpi (w := nI 3) (by decide) ?_
  refine va_sld G.1 G.2.1 hX hbl hbA hS (nI_inn (n := 6) (a := 3) (by decide) (by decide)) d_Law_268 ?_
  refine tpi (w := (xs 3)) (by rw [nI_clamp (by decide)]) ?_
  refine lv_aload_n G.1 G.2.1 d_Law_269 rfl (lv_at hl 0 rfl) ?_
  refine lv_iload_n G.1 G.2.1 d_Law_270 rfl (lv_at hl 3 rfl) ?_
  refine lv_iconst (v := nI 4) G.1 G.2.1 d_Law_271 (by decide) ?_
  refine lv_iadd G.1 G.2.1 d_Law_272 ?_
  refine tpi (w := nI 4) (by decide) ?_
  refine W.eq (g2 := F0 m 273 ls [.int (nI 4), .ref b, .int (xs 3), .int (xs 2), .int (xs 1), .ref h0X, .int (nI 20)]) rfl ?_
  refine va_sld G.1 G.2.1 hX hbl hbA hS (nI_inn (n := 6) (a := 4) (by decide) (by decide)) d_Law_273 ?_
  refine tpi (w := (xs 4)) (by rw [nI_clamp (by decide)]) ?_
  refine lv_aload_n G.1 G.2.1 d_Law_274 rfl (lv_at hl 0 rfl) ?_
  refine lv_iload_n G.1 G.2.1 d_Law_275 rfl (lv_at hl 3 rfl) ?_
  refine lv_iconst (v := nI 5) G.1 G.2.1 d_Law_276 (by decide) ?_
  refine lv_iadd G.1 G.2.1 d_Law_277 ?_
  refine tpi (w := nI 5) (by decide) ?_
  refine va_sld G.1 G.2.1 hX hbl hbA hS (nI_inn (n := 6) (a := 5) (by decide) (by decide)) d_Law_278 ?_
  refine tpi (w := (xs 5)) (by rw [nI_clamp (by decide)]) ?_
  refine kEi (wr := []) G (kV (As := [.int (xs 1), .int (xs 2), .int (xs 3), .int (xs 4), .int (xs 5)]) (rest := [.int (nI 20)]) G hP hD hS [0, 1] rfl rfl (c_Mo_feed l D g h0X (xs 1) (xs 2) (xs 3) (xs 4) (xs 5) fsX r_otapeX ftX H.size glenX gk0X gk1X) w_Mo_feed q3458 rfl rfl ⟨Nat.le_of_ble_eq_true rfl, Nat.le_of_ble_eq_true rfl⟩ (fun _ h => absurd h List.not_mem_nil) 0 (ci := 14) rfl rfl rfl hl.1 rfl (Nat.le_of_ble_eq_true rfl) rfl ⟨Nat.le_of_ble_eq_true rfl, (Nat.le_of_ble_eq_true rfl)⟩ d_Law_279) hP hD hS [0, 1] [] rfl rfl rfl rfl (fun r_3 u_4 H locs hw hP hD hS hzH => ?_)
  have hw : r_3 = nI 20 := hw
  have hP : va_P D CL [] H := hP
  have hD : va_D A [] := hD
  subst hw
  refine tpst (w := [.int (nI 20), .int (nI 20)]) rfl ?_
  refine lv_icmp_eq (tgt := 1768) G.1 G.2.1 d_Law_282 (by decide) (fun c282 => ?_) (fun c282 => absurd c282 (by decide))
  refine lv_iinc (v := nI 6) (lv' := [(3, .int (nI 6)), (0, .ref b), (1, .ref h0), (2, .ref h0X)]) G.1 G.2.1 d_Law_1768 hl (k := 3) rfl (show (nI 0) + Int32.ofInt 6 = nI 6 from by decide) (by decide) rfl (fun ls hl => ?_)
  refine lv_goto (tgt := 18) G.1 G.2.1 d_Law_1771 (by decide) ?_
  refine lv_iload_n G.1 G.2.1 d_Law_18 rfl (lv_at hl 0 rfl) ?_
  refine lv_aload_n G.1 G.2.1 d_Law_19 rfl (lv_at hl 1 rfl) ?_
  refine W.eq (g2 := F0 m 20 ls [.ref b, .int (nI 6)]) rfl ?_
  refine va_slen G.1 G.2.1 hX hbl hbA hS d_Law_20 ?_
  refine tpi (w := nI 6) rfl ?_
  refine lv_bipush (v := nI 6) G.1 G.2.1 d_Law_21 (by decide) ?_
  refine lv_isub G.1 G.2.1 d_Law_23 ?_
  refine tpi (w := nI 0) (by decide) ?_
  refine lv_icmp_gt (tgt := 1774) G.1 G.2.1 d_Law_24 (by decide) (fun c24 => ?_) (fun c24 => absurd c24 (by decide))
  refine lv_iconst (v := nI 1) G.1 G.2.1 d_Law_1774 (by decide) ?_
  refine va_forget (fun q hq => hAA _ (hS.2.2 q hq)) ?_
  refine W.widen (k := 600002) (n := 7302232) (Nat.le_of_ble_eq_true rfl) (Nat.le_of_ble_eq_true rfl) ?_
  exact lw_ret G.1 G.2.1 G.2.2.2.1 G.2.2.2.2.1 d_Law_1775
theorem q1206 : Cond.code y_Cw_cut b_Cw_cut 2 (some .int) ∈ lw_ok := lw_okmem (List.mem_of_getElem? (i := 1206) (by decide +kernel)) rfl
theorem q1204 : Cond.instanceMethod y_Cw_cut ∈ lw_ok := lw_okmem (List.mem_of_getElem? (i := 1204) (by decide +kernel)) rfl
theorem q1205 : Cond.selects y_Cw_cut.cls y_Cw_cut y_Cw_cut ∈ lw_ok := lw_okmem (List.mem_of_getElem? (i := 1205) (by decide +kernel)) rfl
theorem w_Cw_cut : CWv y_Cw_cut b_Cw_cut 2 (some .int) 1 ∧ Cond.instanceMethod y_Cw_cut ∈ lw_ok ∧ Cond.selects y_Cw_cut.cls y_Cw_cut y_Cw_cut ∈ lw_ok := ⟨⟨q1206, q329, by decide +kernel, by decide +kernel, by decide +kernel⟩, q1204, q1205⟩
theorem q1203 : Cond.methodLink "ClassWorksLaw" 18 y_Cw_cut ∈ lw_ok := lw_okmem (List.mem_of_getElem? (i := 1203) (by decide +kernel)) rfl
theorem q3469 : Cond.code y_Mo_cut b_Mo_cut 2 (some .int) ∈ lw_ok := lw_okmem (List.mem_of_getElem? (i := 3469) (by decide +kernel)) rfl
theorem q3467 : Cond.instanceMethod y_Mo_cut ∈ lw_ok := lw_okmem (List.mem_of_getElem? (i := 3467) (by decide +kernel)) rfl
theorem q3468 : Cond.selects y_Mo_cut.cls y_Mo_cut y_Mo_cut ∈ lw_ok := lw_okmem (List.mem_of_getElem? (i := 3468) (by decide +kernel)) rfl
theorem w_Mo_cut : CWv y_Mo_cut b_Mo_cut 2 (some .int) 1 ∧ Cond.instanceMethod y_Mo_cut ∈ lw_ok ∧ Cond.selects y_Mo_cut.cls y_Mo_cut y_Mo_cut ∈ lw_ok := ⟨⟨q3469, q348, by decide +kernel, by decide +kernel, by decide +kernel⟩, q3467, q3468⟩
theorem q3466 : Cond.methodLink "ClassWorksLaw" 22 y_Mo_cut ∈ lw_ok := lw_okmem (List.mem_of_getElem? (i := 3466) (by decide +kernel)) rfl
theorem d_Law_287 : decode code 287 = .ok (.aload_n 1, 1) := by decide +kernel
theorem d_Law_288 : decode code 288 = .ok (.aload_n 0, 1) := by decide +kernel
theorem d_Law_289 : decode code 289 = .ok (.iload_n 3, 1) := by decide +kernel
theorem d_Law_290 : decode code 290 = .ok (.iconst 1, 1) := by decide +kernel
theorem d_Law_291 : decode code 291 = .ok (.iadd, 1) := by decide +kernel
theorem d_Law_292 : decode code 292 = .ok (.iaload, 1) := by decide +kernel
theorem d_Law_293 : decode code 293 = .ok (.invokevirtual 18, 3) := by decide +kernel
theorem d_Law_296 : decode code 296 = .ok (.aload_n 2, 1) := by decide +kernel
theorem d_Law_297 : decode code 297 = .ok (.aload_n 0, 1) := by decide +kernel
theorem d_Law_298 : decode code 298 = .ok (.iload_n 3, 1) := by decide +kernel
theorem d_Law_299 : decode code 299 = .ok (.iconst 1, 1) := by decide +kernel
theorem d_Law_300 : decode code 300 = .ok (.iadd, 1) := by decide +kernel
theorem d_Law_301 : decode code 301 = .ok (.iaload, 1) := by decide +kernel
theorem d_Law_302 : decode code 302 = .ok (.invokevirtual 22, 3) := by decide +kernel
theorem d_Law_305 : decode code 305 = .ok (.if_icmp .eq 1463, 3) := by decide +kernel
set_option maxHeartbeats 4000000 in
set_option maxRecDepth 100000 in
theorem law_cut {p : Program} {e : Env} {s : State} {m : MethodId} {below : List Frame} {meth : Method} {c : Code} {l : Launch} {D : va_G} {g : Nat → ClassId} {sl : List SL} {b : Nat} {xs : Nat → Int32} {A : Nat → Prop} (h0 : Nat) (r_cwords : Nat) (r_creader : Nat) (r_cchecker : Nat) (r_cfinder : Nat) (r_cwriter : Nat) (r_cmachines : Nat) (r_ctape : Nat) (r_cstock : Nat) (r_csizes : Nat) (r_cmet : Nat) (r_cfound : Nat) (r_cdraft : Nat) (r_cfewestFor : Nat) (r_cfewestNext : Nat) (h0X : Nat) (fsX : List Value) (G : GV l p s m #[Value.ref b] meth c (⟨"ClassWorksLaw", meth.name, ""⟩ : MethodName) code 4 ret g D sl A) (hX : va_X b 6 xs s s.heap) (hbl : b < s.heap.size) (hbA : ¬ A b) (hAA : ∀ q, A q → s.heap.size ≤ q) {H : Heap} {locs : List Loc} {ls : Array Slot} (glenX : fsX.length = 131) (gk0X : fsX[85]? = some (.int (nI 0))) (hP : va_P D CL [(h0, .inr (11, [.ref r_cwords, .ref r_creader, .ref r_cchecker, .ref r_cfinder, .ref r_cwriter, .ref r_cmachines, .ref r_ctape, .int (nI 0), .int (-2), .int (nI 60000), .ref r_cstock, .ref r_csizes, .ref r_cmet, .ref r_cfound, .int (nI 0), .ref r_cdraft, .int (nI 0), .int (nI 0), .ref r_cfewestFor, .ref r_cfewestNext])), (h0X, .inr (14, fsX))] H) (hD : va_D A [(h0, .inr (11, [.ref r_cwords, .ref r_creader, .ref r_cchecker, .ref r_cfinder, .ref r_cwriter, .ref r_cmachines, .ref r_ctape, .int (nI 0), .int (-2), .int (nI 60000), .ref r_cstock, .ref r_csizes, .ref r_cmet, .ref r_cfound, .int (nI 0), .ref r_cdraft, .int (nI 0), .int (nI 0), .ref r_cfewestFor, .ref r_cfewestNext])), (h0X, .inr (14, fsX))]) (hS : va_S A s.heap H locs) (hl : lv_has ls 4 [(0, .ref b), (1, .ref h0), (2, .ref h0X), (3, .int (nI 0))]) : W p l e room_1 s m #[Value.ref b] below meth c H locs 702 488194 (lw_Z below #[Value.ref b] s) (F0 m 287 ls []) := by
  refine lv_aload_n G.1 G.2.1 d_Law_287 rfl (lv_at hl 1 rfl) ?_
  refine lv_aload_n G.1 G.2.1 d_Law_288 rfl (lv_at hl 0 rfl) ?_
  refine lv_iload_n G.1 G.2.1 d_Law_289 rfl (lv_at hl 3 rfl) ?_
  refine lv_iconst (v := nI 1) G.1 G.2.1 d_Law_290 (by decide) ?_
  refine lv_iadd G.1 G.2.1 d_Law_291 ?_
  refine tpi (w := nI 1) (by decide) ?_
  refine va_sld G.1 G.2.1 hX hbl hbA hS (nI_inn (n := 6) (a := 1) (by decide) (by decide)) d_Law_292 ?_
  refine tpi (w := (xs 1)) (by rw [nI_clamp (by decide)]) ?_
  refine kEi (wr := [(h0X, .inr (14, fsX))]) G (kV (As := [.int (xs 1)]) (rest := []) G hP hD hS [0] rfl rfl (c_Cw_cut l D g h0 (xs 1) r_cwords r_creader r_cchecker r_cfinder r_cwriter r_cmachines r_ctape r_cstock r_csizes r_cmet r_cfound r_cdraft r_cfewestFor r_cfewestNext H.size ) w_Cw_cut q1203 rfl rfl ⟨Nat.le_of_ble_eq_true rfl, Nat.le_of_ble_eq_true rfl⟩ (fun _ h => absurd h List.not_mem_nil) 0 (ci := 11) rfl rfl rfl hl.1 rfl (Nat.le_of_ble_eq_true rfl) rfl ⟨Nat.le_of_ble_eq_true rfl, (Nat.le_of_ble_eq_true rfl)⟩ d_Law_293) hP hD hS [0] [1] rfl rfl rfl rfl (fun r_1 u_2 H locs hw hP hD hS hzH => ?_)
  have hw : r_1 = cuF ((xs 1)) := hw
  have hP : va_P D CL [(h0X, .inr (14, fsX))] H := hP
  have hD : va_D A [(h0X, .inr (14, fsX))] := hD
  subst hw
  refine tpst (w := [.int (cuF ((xs 1)))]) rfl ?_
  refine lv_aload_n G.1 G.2.1 d_Law_296 rfl (lv_at hl 2 rfl) ?_
  refine lv_aload_n G.1 G.2.1 d_Law_297 rfl (lv_at hl 0 rfl) ?_
  refine lv_iload_n G.1 G.2.1 d_Law_298 rfl (lv_at hl 3 rfl) ?_
  refine lv_iconst (v := nI 1) G.1 G.2.1 d_Law_299 (by decide) ?_
  refine W.eq (g2 := F0 m 300 ls [.int (nI 1), .int (nI 0), .ref b, .ref h0X, .int (cuF ((xs 1)))]) rfl ?_
  refine lv_iadd G.1 G.2.1 d_Law_300 ?_
  refine tpi (w := nI 1) (by decide) ?_
  refine va_sld G.1 G.2.1 hX hbl hbA hS (nI_inn (n := 6) (a := 1) (by decide) (by decide)) d_Law_301 ?_
  refine tpi (w := (xs 1)) (by rw [nI_clamp (by decide)]) ?_
  refine kEi (wr := []) G (kV (As := [.int (xs 1)]) (rest := [.int (cuF ((xs 1)))]) G hP hD hS [0] rfl rfl (c_Mo_cut l D g h0X (xs 1) fsX H.size glenX gk0X) w_Mo_cut q3466 rfl rfl ⟨Nat.le_of_ble_eq_true rfl, Nat.le_of_ble_eq_true rfl⟩ (fun _ h => absurd h List.not_mem_nil) 0 (ci := 14) rfl rfl rfl hl.1 rfl (Nat.le_of_ble_eq_true rfl) rfl ⟨Nat.le_of_ble_eq_true rfl, (Nat.le_of_ble_eq_true rfl)⟩ d_Law_302) hP hD hS [0] [] rfl rfl rfl rfl (fun r_3 u_4 H locs hw hP hD hS hzH => ?_)
  have hw : r_3 = cuF ((xs 1)) := hw
  have hP : va_P D CL [] H := hP
  have hD : va_D A [] := hD
  subst hw
  refine tpst (w := [.int (cuF ((xs 1))), .int (cuF ((xs 1)))]) rfl ?_
  refine lv_icmp_eq (tgt := 1768) G.1 G.2.1 d_Law_305 (by decide) (fun c305 => ?_) (fun c305 => absurd c305 (fun h => h rfl))
  refine lv_iinc (v := nI 6) (lv' := [(3, .int (nI 6)), (0, .ref b), (1, .ref h0), (2, .ref h0X)]) G.1 G.2.1 d_Law_1768 hl (k := 3) rfl (show (nI 0) + Int32.ofInt 6 = nI 6 from by decide) (by decide) rfl (fun ls hl => ?_)
  refine lv_goto (tgt := 18) G.1 G.2.1 d_Law_1771 (by decide) ?_
  refine lv_iload_n G.1 G.2.1 d_Law_18 rfl (lv_at hl 0 rfl) ?_
  refine lv_aload_n G.1 G.2.1 d_Law_19 rfl (lv_at hl 1 rfl) ?_
  refine va_slen G.1 G.2.1 hX hbl hbA hS d_Law_20 ?_
  refine tpi (w := nI 6) rfl ?_
  refine lv_bipush (v := nI 6) G.1 G.2.1 d_Law_21 (by decide) ?_
  refine lv_isub G.1 G.2.1 d_Law_23 ?_
  refine tpi (w := nI 0) (by decide) ?_
  refine lv_icmp_gt (tgt := 1774) G.1 G.2.1 d_Law_24 (by decide) (fun c24 => ?_) (fun c24 => absurd c24 (by decide))
  refine W.eq (g2 := F0 m 1774 ls []) rfl ?_
  refine lv_iconst (v := nI 1) G.1 G.2.1 d_Law_1774 (by decide) ?_
  refine va_forget (fun q hq => hAA _ (hS.2.2 q hq)) ?_
  refine W.widen (k := 600002) (n := 7302232) (Nat.le_of_ble_eq_true rfl) (Nat.le_of_ble_eq_true rfl) ?_
  exact lw_ret G.1 G.2.1 G.2.2.2.1 G.2.2.2.2.1 d_Law_1775
theorem q1210 : Cond.code y_Cw_world b_Cw_world 3 (some .int) ∈ lw_ok := lw_okmem (List.mem_of_getElem? (i := 1210) (by decide +kernel)) rfl
theorem q1208 : Cond.instanceMethod y_Cw_world ∈ lw_ok := lw_okmem (List.mem_of_getElem? (i := 1208) (by decide +kernel)) rfl
theorem q1209 : Cond.selects y_Cw_world.cls y_Cw_world y_Cw_world ∈ lw_ok := lw_okmem (List.mem_of_getElem? (i := 1209) (by decide +kernel)) rfl
theorem w_Cw_world : CWv y_Cw_world b_Cw_world 3 (some .int) 1 ∧ Cond.instanceMethod y_Cw_world ∈ lw_ok ∧ Cond.selects y_Cw_world.cls y_Cw_world y_Cw_world ∈ lw_ok := ⟨⟨q1210, q329, by decide +kernel, by decide +kernel, by decide +kernel⟩, q1208, q1209⟩
theorem q1207 : Cond.methodLink "ClassWorksLaw" 23 y_Cw_world ∈ lw_ok := lw_okmem (List.mem_of_getElem? (i := 1207) (by decide +kernel)) rfl
theorem q3473 : Cond.code y_Mo_world b_Mo_world 3 (some .int) ∈ lw_ok := lw_okmem (List.mem_of_getElem? (i := 3473) (by decide +kernel)) rfl
theorem q3471 : Cond.instanceMethod y_Mo_world ∈ lw_ok := lw_okmem (List.mem_of_getElem? (i := 3471) (by decide +kernel)) rfl
theorem q3472 : Cond.selects y_Mo_world.cls y_Mo_world y_Mo_world ∈ lw_ok := lw_okmem (List.mem_of_getElem? (i := 3472) (by decide +kernel)) rfl
theorem w_Mo_world : CWv y_Mo_world b_Mo_world 3 (some .int) 1 ∧ Cond.instanceMethod y_Mo_world ∈ lw_ok ∧ Cond.selects y_Mo_world.cls y_Mo_world y_Mo_world ∈ lw_ok := ⟨⟨q3473, q348, by decide +kernel, by decide +kernel, by decide +kernel⟩, q3471, q3472⟩
theorem q3470 : Cond.methodLink "ClassWorksLaw" 26 y_Mo_world ∈ lw_ok := lw_okmem (List.mem_of_getElem? (i := 3470) (by decide +kernel)) rfl
theorem d_Law_310 : decode code 310 = .ok (.aload_n 1, 1) := by decide +kernel
theorem d_Law_311 : decode code 311 = .ok (.aload_n 0, 1) := by decide +kernel
theorem d_Law_312 : decode code 312 = .ok (.iload_n 3, 1) := by decide +kernel
theorem d_Law_313 : decode code 313 = .ok (.iconst 1, 1) := by decide +kernel
theorem d_Law_314 : decode code 314 = .ok (.iadd, 1) := by decide +kernel
theorem d_Law_315 : decode code 315 = .ok (.iaload, 1) := by decide +kernel
theorem d_Law_316 : decode code 316 = .ok (.invokevirtual 23, 3) := by decide +kernel
theorem d_Law_319 : decode code 319 = .ok (.aload_n 2, 1) := by decide +kernel
theorem d_Law_320 : decode code 320 = .ok (.aload_n 0, 1) := by decide +kernel
theorem d_Law_321 : decode code 321 = .ok (.iload_n 3, 1) := by decide +kernel
theorem d_Law_322 : decode code 322 = .ok (.iconst 1, 1) := by decide +kernel
theorem d_Law_323 : decode code 323 = .ok (.iadd, 1) := by decide +kernel
theorem d_Law_324 : decode code 324 = .ok (.iaload, 1) := by decide +kernel
theorem d_Law_325 : decode code 325 = .ok (.invokevirtual 26, 3) := by decide +kernel
theorem d_Law_328 : decode code 328 = .ok (.if_icmp .eq 1440, 3) := by decide +kernel
set_option maxHeartbeats 4000000 in
set_option maxRecDepth 100000 in
theorem law_world {p : Program} {e : Env} {s : State} {m : MethodId} {below : List Frame} {meth : Method} {c : Code} {l : Launch} {D : va_G} {g : Nat → ClassId} {sl : List SL} {b : Nat} {xs : Nat → Int32} {A : Nat → Prop} (h0 : Nat) (r_cwords : Nat) (r_creader : Nat) (r_cchecker : Nat) (r_cfinder : Nat) (r_cwriter : Nat) (r_cmachines : Nat) (r_ctape : Nat) (r_cstock : Nat) (r_csizes : Nat) (r_cmet : Nat) (r_cfound : Nat) (r_cdraft : Nat) (r_cfewestFor : Nat) (r_cfewestNext : Nat) (mm0 : Nat) (mm1 : Nat) (mm2 : Nat) (mm3 : Nat) (ww0 : Nat) (r_m0heap : Nat) (r_m0runs : Nat) (r_m0counts : Nat) (r_m0traceRow : Nat) (f_m0traceCount : Int32) (r_m0startedList : Nat) (f_m0startedCount : Int32) (f_m0present : Int32) (f_m0quantum : Int32) (f_m0stepsDone : Int32) (f_m0turnSteps : Int32) (f_m0turnMost : Int32) (f_m0turnOver : Int32) (r_m0finder : Nat) (r_m0names : Nat) (f_m0fault : Int32) (f_m0wanted : Int32) (f_m0thrown : Int32) (r_m0hkind : Nat) (r_m0hbase : Nat) (r_m0hlength : Nat) (r_m0hdata : Nat) (r_m0hlock : Nat) (r_m0hspare : Nat) (f_m0hleastFree : Int32) (r_m0hfaults : Nat) (r_m0hfaultLocks : Nat) (r_m0htouched : Nat) (r_m0hopen : Nat) (f_m0hopened : Int32) (d_m0hkind : Nat → Int32) (i_m0hfaults : Nat) (s_m0hfaults : Int32) (i_m0hfaultLocks : Nat) (s_m0hfaultLocks : Int32) (m0u0 : Nat) (m0u1 : Nat) (m0u2 : Nat) (f_m0u0callClass : Int32) (f_m0u0callSign : Int32) (r_m0u0callNumbers : Nat) (f_m0u0mode : Int32) (f_m0u0steps : Int32) (f_m0u0waits : Int32) (f_m0u0endKind : Int32) (f_m0u0endNumber : Int32) (f_m0u0endClass : Int32) (f_m0u0endRule : Int32) (f_m0u0frames : Int32) (r_m0u0classOf : Nat) (r_m0u0methodOf : Nat) (r_m0u0at : Nat) (r_m0u0depth : Nat) (r_m0u0places : Nat) (f_m0u0starts : Int32) (r_m0u0startClass : Nat) (r_m0u0startFrames : Nat) (f_m0u1callClass : Int32) (f_m0u1callSign : Int32) (r_m0u1callNumbers : Nat) (f_m0u1mode : Int32) (f_m0u1steps : Int32) (f_m0u1waits : Int32) (f_m0u1endKind : Int32) (f_m0u1endNumber : Int32) (f_m0u1endClass : Int32) (f_m0u1endRule : Int32) (f_m0u1frames : Int32) (r_m0u1classOf : Nat) (r_m0u1methodOf : Nat) (r_m0u1at : Nat) (r_m0u1depth : Nat) (r_m0u1places : Nat) (f_m0u1starts : Int32) (r_m0u1startClass : Nat) (r_m0u1startFrames : Nat) (f_m0u2callClass : Int32) (f_m0u2callSign : Int32) (r_m0u2callNumbers : Nat) (f_m0u2mode : Int32) (f_m0u2steps : Int32) (f_m0u2waits : Int32) (f_m0u2endKind : Int32) (f_m0u2endNumber : Int32) (f_m0u2endClass : Int32) (f_m0u2endRule : Int32) (f_m0u2frames : Int32) (r_m0u2classOf : Nat) (r_m0u2methodOf : Nat) (r_m0u2at : Nat) (r_m0u2depth : Nat) (r_m0u2places : Nat) (f_m0u2starts : Int32) (r_m0u2startClass : Nat) (r_m0u2startFrames : Nat) (d_m0counts : Nat → Int32) (r_w0names : Nat) (f_w0wrongClass : Int32) (f_w0wrongMethod : Int32) (f_w0wrongAt : Int32) (r_w0rows : Nat) (r_w0above : Nat) (r_w0fields : Nat) (r_w0methods : Nat) (r_w0codes : Nat) (r_w0handlers : Nat) (r_w0extra : Nat) (r_w0orders : Nat) (r_w0classNamed : Nat) (f_w0breaks : Int32) (r_w0marks : Nat) (i_w0fields : Nat) (s_w0fields : Int32) (i_w0methods : Nat) (s_w0methods : Int32) (i_w0codes : Nat) (s_w0codes : Int32) (i_w0handlers : Nat) (s_w0handlers : Int32) (i_w0extra : Nat) (s_w0extra : Int32) (i_w0orders : Nat) (s_w0orders : Int32) (h0X : Nat) (fsX : List Value) (owX : Nat) (f_kThingX : Int32) (f_kMakeX : Int32) (f_plainSigX : Int32) (v0X : Nat) (v1X : Nat) (v2X : Nat) (v3X : Nat) (fw0X : List Value) (r_v0classNamesX : Nat) (r_v0parentsX : Nat) (r_v0flagsX : Nat) (r_v0faceCountsX : Nat) (r_v0fieldCountsX : Nat) (r_v0methodCountsX : Nat) (r_v0statesX : Nat) (r_v0linksX : Nat) (r_v0methodNamesX : Nat) (r_v0methodSigsX : Nat) (r_v0methodFlagsX : Nat) (r_v0stacksX : Nat) (r_v0localCountsX : Nat) (r_v0codeFromsX : Nat) (r_v0codeSizesX : Nat) (r_v0handlerCountsX : Nat) (r_v0checkedX : Nat) (r_v0doneCountsX : Nat) (r_v0thingThereX : Nat) (r_v0runsX : Nat) (d_v0classNamesX : Nat → Int32) (d_v0parentsX : Nat → Int32) (d_v0flagsX : Nat → Int32) (d_v0faceCountsX : Nat → Int32) (d_v0fieldCountsX : Nat → Int32) (d_v0methodCountsX : Nat → Int32) (d_v0statesX : Nat → Int32) (d_v0linksX : Nat → Int32) (d_v0methodNamesX : Nat → Int32) (d_v0methodSigsX : Nat → Int32) (d_v0methodFlagsX : Nat → Int32) (d_v0stacksX : Nat → Int32) (d_v0localCountsX : Nat → Int32) (d_v0codeFromsX : Nat → Int32) (d_v0codeSizesX : Nat → Int32) (d_v0handlerCountsX : Nat → Int32) (d_v0checkedX : Nat → Int32) (d_v0doneCountsX : Nat → Int32) (d_v0thingThereX : Nat → Int32) (j0X : Nat) (j1X : Nat) (j2X : Nat) (f_j0stateX : Int32) (f_j0waitsX : Int32) (f_j0waitsForX : Int32) (f_j0stepsX : Int32) (f_j0phaseX : Int32) (f_j0callClassX : Int32) (f_j0callNameX : Int32) (f_j0callSigX : Int32) (r_j0callNumbersX : Nat) (f_j0callMethodX : Int32) (f_j0endKindX : Int32) (f_j0endNumberX : Int32) (f_j0endClassX : Int32) (f_j0endRuleX : Int32) (r_j0unitsX : Nat) (r_j0unitPhasesX : Nat) (f_j0unitCountX : Int32) (r_j0frameMethodsX : Nat) (r_j0placesX : Nat) (r_j0topsX : Nat) (r_j0slotsX : Nat) (r_j0refersX : Nat) (f_j0framesX : Int32) (f_j1stateX : Int32) (f_j1waitsX : Int32) (f_j1waitsForX : Int32) (f_j1stepsX : Int32) (f_j1phaseX : Int32) (f_j1callClassX : Int32) (f_j1callNameX : Int32) (f_j1callSigX : Int32) (r_j1callNumbersX : Nat) (f_j1callMethodX : Int32) (f_j1endKindX : Int32) (f_j1endNumberX : Int32) (f_j1endClassX : Int32) (f_j1endRuleX : Int32) (r_j1unitsX : Nat) (r_j1unitPhasesX : Nat) (f_j1unitCountX : Int32) (r_j1frameMethodsX : Nat) (r_j1placesX : Nat) (r_j1topsX : Nat) (r_j1slotsX : Nat) (r_j1refersX : Nat) (f_j1framesX : Int32) (f_j2stateX : Int32) (f_j2waitsX : Int32) (f_j2waitsForX : Int32) (f_j2stepsX : Int32) (f_j2phaseX : Int32) (f_j2callClassX : Int32) (f_j2callNameX : Int32) (f_j2callSigX : Int32) (r_j2callNumbersX : Nat) (f_j2callMethodX : Int32) (f_j2endKindX : Int32) (f_j2endNumberX : Int32) (f_j2endClassX : Int32) (f_j2endRuleX : Int32) (r_j2unitsX : Nat) (r_j2unitPhasesX : Nat) (f_j2unitCountX : Int32) (r_j2frameMethodsX : Nat) (r_j2placesX : Nat) (r_j2topsX : Nat) (r_j2slotsX : Nat) (r_j2refersX : Nat) (f_j2framesX : Int32) (G : GV l p s m #[Value.ref b] meth c (⟨"ClassWorksLaw", meth.name, ""⟩ : MethodName) code 4 ret g D sl A) (hX : va_X b 6 xs s s.heap) (hbl : b < s.heap.size) (hbA : ¬ A b) (hAA : ∀ q, A q → s.heap.size ≤ q) {H : Heap} {locs : List Loc} {ls : Array Slot} (glenX : fsX.length = 131) (gk0X : fsX[44]? = some (.ref owX)) (gk1X : fsX[8]? = some (.int f_kThingX)) (gk2X : fsX[6]? = some (.int f_kMakeX)) (gk3X : fsX[38]? = some (.int f_plainSigX)) (gw_lenX : fw0X.length = 72) (gw_0X : fw0X[0]? = some (.int (nI 0))) (gw_3X : fw0X[3]? = some (.ref r_v0classNamesX)) (gw_4X : fw0X[4]? = some (.ref r_v0parentsX)) (gw_5X : fw0X[5]? = some (.ref r_v0flagsX)) (gw_7X : fw0X[7]? = some (.ref r_v0faceCountsX)) (gw_8X : fw0X[8]? = some (.ref r_v0fieldCountsX)) (gw_9X : fw0X[9]? = some (.ref r_v0methodCountsX)) (gw_10X : fw0X[10]? = some (.ref r_v0statesX)) (gw_11X : fw0X[11]? = some (.ref r_v0linksX)) (gw_18X : fw0X[18]? = some (.ref r_v0methodNamesX)) (gw_19X : fw0X[19]? = some (.ref r_v0methodSigsX)) (gw_20X : fw0X[20]? = some (.ref r_v0methodFlagsX)) (gw_21X : fw0X[21]? = some (.ref r_v0stacksX)) (gw_22X : fw0X[22]? = some (.ref r_v0localCountsX)) (gw_23X : fw0X[23]? = some (.ref r_v0codeFromsX)) (gw_24X : fw0X[24]? = some (.ref r_v0codeSizesX)) (gw_25X : fw0X[25]? = some (.ref r_v0handlerCountsX)) (gw_44X : fw0X[44]? = some (.ref r_v0checkedX)) (gw_71X : fw0X[71]? = some (.ref r_v0doneCountsX)) (gw_49X : fw0X[49]? = some (.ref r_v0thingThereX)) (gw_62X : fw0X[62]? = some (.ref r_v0runsX)) (hP : va_P D CL [(h0, .inr (11, [.ref r_cwords, .ref r_creader, .ref r_cchecker, .ref r_cfinder, .ref r_cwriter, .ref r_cmachines, .ref r_ctape, .int (nI 0), .int (-2), .int (nI 60000), .ref r_cstock, .ref r_csizes, .ref r_cmet, .ref r_cfound, .int (nI 0), .ref r_cdraft, .int (nI 0), .int (nI 0), .ref r_cfewestFor, .ref r_cfewestNext])), (r_cmachines, .inl (g 4, 4, .inr (.inr (.inr (.inr (va_up (va_up (va_up (va_up (fun _ => none) 0 (some mm0)) 1 (some mm1)) 2 (some mm2)) 3 (some mm3))))))), (mm0, .inr (4, [.ref ww0, .ref r_m0heap, .ref r_m0runs, .ref r_m0counts, .ref r_m0traceRow, .int f_m0traceCount, .ref r_m0startedList, .int f_m0startedCount, .int f_m0present, .int f_m0quantum, .int f_m0stepsDone, .int f_m0turnSteps, .int f_m0turnMost, .int f_m0turnOver, .ref r_m0finder, .ref r_m0names, .int f_m0fault, .int f_m0wanted, .int f_m0thrown])), (r_m0heap, .inr (2, [.ref r_m0hkind, .ref r_m0hbase, .ref r_m0hlength, .ref r_m0hdata, .int (nI 0), .int (nI 0), .ref r_m0hlock, .ref r_m0hspare, .int f_m0hleastFree, .int (nI 0), .ref r_m0hfaults, .ref r_m0hfaultLocks, .ref r_m0htouched, .ref r_m0hopen, .int f_m0hopened])), (r_m0hkind, .inl (g 0, 801, .inl d_m0hkind)), (r_m0hfaults, .inr (3, [.ref i_m0hfaults, .int s_m0hfaults])), (r_m0hfaultLocks, .inr (3, [.ref i_m0hfaultLocks, .int s_m0hfaultLocks])), (r_m0runs, .inl (g 5, 3, .inr (.inr (.inr (.inr (va_up (va_up (va_up (fun _ => none) 0 (some m0u0)) 1 (some m0u1)) 2 (some m0u2))))))), (m0u0, .inr (7, [.int f_m0u0callClass, .int f_m0u0callSign, .ref r_m0u0callNumbers, .int f_m0u0mode, .int f_m0u0steps, .int f_m0u0waits, .int f_m0u0endKind, .int f_m0u0endNumber, .int f_m0u0endClass, .int f_m0u0endRule, .int f_m0u0frames, .ref r_m0u0classOf, .ref r_m0u0methodOf, .ref r_m0u0at, .ref r_m0u0depth, .ref r_m0u0places, .int f_m0u0starts, .ref r_m0u0startClass, .ref r_m0u0startFrames])), (m0u1, .inr (7, [.int f_m0u1callClass, .int f_m0u1callSign, .ref r_m0u1callNumbers, .int f_m0u1mode, .int f_m0u1steps, .int f_m0u1waits, .int f_m0u1endKind, .int f_m0u1endNumber, .int f_m0u1endClass, .int f_m0u1endRule, .int f_m0u1frames, .ref r_m0u1classOf, .ref r_m0u1methodOf, .ref r_m0u1at, .ref r_m0u1depth, .ref r_m0u1places, .int f_m0u1starts, .ref r_m0u1startClass, .ref r_m0u1startFrames])), (m0u2, .inr (7, [.int f_m0u2callClass, .int f_m0u2callSign, .ref r_m0u2callNumbers, .int f_m0u2mode, .int f_m0u2steps, .int f_m0u2waits, .int f_m0u2endKind, .int f_m0u2endNumber, .int f_m0u2endClass, .int f_m0u2endRule, .int f_m0u2frames, .ref r_m0u2classOf, .ref r_m0u2methodOf, .ref r_m0u2at, .ref r_m0u2depth, .ref r_m0u2places, .int f_m0u2starts, .ref r_m0u2startClass, .ref r_m0u2startFrames])), (r_m0counts, .inl (g 0, 62, .inl d_m0counts)), (ww0, .inr (9, [.ref r_w0names, .int (nI 0), .int (nI 21), .int f_w0wrongClass, .int f_w0wrongMethod, .int f_w0wrongAt, .ref r_w0rows, .ref r_w0above, .ref r_w0fields, .ref r_w0methods, .ref r_w0codes, .ref r_w0handlers, .ref r_w0extra, .ref r_w0orders, .ref r_w0classNamed, .int f_w0breaks, .ref r_w0marks])), (r_w0fields, .inr (3, [.ref i_w0fields, .int s_w0fields])), (r_w0methods, .inr (3, [.ref i_w0methods, .int s_w0methods])), (r_w0codes, .inr (3, [.ref i_w0codes, .int s_w0codes])), (r_w0handlers, .inr (3, [.ref i_w0handlers, .int s_w0handlers])), (r_w0extra, .inr (3, [.ref i_w0extra, .int s_w0extra])), (r_w0orders, .inr (3, [.ref i_w0orders, .int s_w0orders])), (h0X, .inr (14, fsX)), (owX, .inl (g 6, 4, .inr (.inr (.inr (.inr (va_up (va_up (va_up (va_up (fun _ => none) 0 (some v0X)) 1 (some v1X)) 2 (some v2X)) 3 (some v3X))))))), (v0X, .inr (13, fw0X)), (r_v0classNamesX, .inl (g 0, 51, .inl d_v0classNamesX)), (r_v0parentsX, .inl (g 0, 51, .inl d_v0parentsX)), (r_v0flagsX, .inl (g 0, 51, .inl d_v0flagsX)), (r_v0faceCountsX, .inl (g 0, 51, .inl d_v0faceCountsX)), (r_v0fieldCountsX, .inl (g 0, 51, .inl d_v0fieldCountsX)), (r_v0methodCountsX, .inl (g 0, 51, .inl d_v0methodCountsX)), (r_v0statesX, .inl (g 0, 51, .inl d_v0statesX)), (r_v0linksX, .inl (g 0, 51, .inl d_v0linksX)), (r_v0methodNamesX, .inl (g 0, 612, .inl d_v0methodNamesX)), (r_v0methodSigsX, .inl (g 0, 612, .inl d_v0methodSigsX)), (r_v0methodFlagsX, .inl (g 0, 612, .inl d_v0methodFlagsX)), (r_v0stacksX, .inl (g 0, 612, .inl d_v0stacksX)), (r_v0localCountsX, .inl (g 0, 612, .inl d_v0localCountsX)), (r_v0codeFromsX, .inl (g 0, 612, .inl d_v0codeFromsX)), (r_v0codeSizesX, .inl (g 0, 612, .inl d_v0codeSizesX)), (r_v0handlerCountsX, .inl (g 0, 612, .inl d_v0handlerCountsX)), (r_v0checkedX, .inl (g 0, 3, .inl d_v0checkedX)), (r_v0doneCountsX, .inl (g 0, 62, .inl d_v0doneCountsX)), (r_v0thingThereX, .inl (g 3, 801, .inl d_v0thingThereX)), (r_v0runsX, .inl (g 7, 3, .inr (.inr (.inr (.inr (va_up (va_up (va_up (fun _ => none) 0 (some j0X)) 1 (some j1X)) 2 (some j2X))))))), (j0X, .inr (12, [.int f_j0stateX, .int f_j0waitsX, .int f_j0waitsForX, .int f_j0stepsX, .int f_j0phaseX, .int f_j0callClassX, .int f_j0callNameX, .int f_j0callSigX, .ref r_j0callNumbersX, .int f_j0callMethodX, .int f_j0endKindX, .int f_j0endNumberX, .int f_j0endClassX, .int f_j0endRuleX, .ref r_j0unitsX, .ref r_j0unitPhasesX, .int f_j0unitCountX, .ref r_j0frameMethodsX, .ref r_j0placesX, .ref r_j0topsX, .ref r_j0slotsX, .ref r_j0refersX, .int f_j0framesX])), (j1X, .inr (12, [.int f_j1stateX, .int f_j1waitsX, .int f_j1waitsForX, .int f_j1stepsX, .int f_j1phaseX, .int f_j1callClassX, .int f_j1callNameX, .int f_j1callSigX, .ref r_j1callNumbersX, .int f_j1callMethodX, .int f_j1endKindX, .int f_j1endNumberX, .int f_j1endClassX, .int f_j1endRuleX, .ref r_j1unitsX, .ref r_j1unitPhasesX, .int f_j1unitCountX, .ref r_j1frameMethodsX, .ref r_j1placesX, .ref r_j1topsX, .ref r_j1slotsX, .ref r_j1refersX, .int f_j1framesX])), (j2X, .inr (12, [.int f_j2stateX, .int f_j2waitsX, .int f_j2waitsForX, .int f_j2stepsX, .int f_j2phaseX, .int f_j2callClassX, .int f_j2callNameX, .int f_j2callSigX, .ref r_j2callNumbersX, .int f_j2callMethodX, .int f_j2endKindX, .int f_j2endNumberX, .int f_j2endClassX, .int f_j2endRuleX, .ref r_j2unitsX, .ref r_j2unitPhasesX, .int f_j2unitCountX, .ref r_j2frameMethodsX, .ref r_j2placesX, .ref r_j2topsX, .ref r_j2slotsX, .ref r_j2refersX, .int f_j2framesX]))] H) (hD : va_D A [(h0, .inr (11, [.ref r_cwords, .ref r_creader, .ref r_cchecker, .ref r_cfinder, .ref r_cwriter, .ref r_cmachines, .ref r_ctape, .int (nI 0), .int (-2), .int (nI 60000), .ref r_cstock, .ref r_csizes, .ref r_cmet, .ref r_cfound, .int (nI 0), .ref r_cdraft, .int (nI 0), .int (nI 0), .ref r_cfewestFor, .ref r_cfewestNext])), (r_cmachines, .inl (g 4, 4, .inr (.inr (.inr (.inr (va_up (va_up (va_up (va_up (fun _ => none) 0 (some mm0)) 1 (some mm1)) 2 (some mm2)) 3 (some mm3))))))), (mm0, .inr (4, [.ref ww0, .ref r_m0heap, .ref r_m0runs, .ref r_m0counts, .ref r_m0traceRow, .int f_m0traceCount, .ref r_m0startedList, .int f_m0startedCount, .int f_m0present, .int f_m0quantum, .int f_m0stepsDone, .int f_m0turnSteps, .int f_m0turnMost, .int f_m0turnOver, .ref r_m0finder, .ref r_m0names, .int f_m0fault, .int f_m0wanted, .int f_m0thrown])), (r_m0heap, .inr (2, [.ref r_m0hkind, .ref r_m0hbase, .ref r_m0hlength, .ref r_m0hdata, .int (nI 0), .int (nI 0), .ref r_m0hlock, .ref r_m0hspare, .int f_m0hleastFree, .int (nI 0), .ref r_m0hfaults, .ref r_m0hfaultLocks, .ref r_m0htouched, .ref r_m0hopen, .int f_m0hopened])), (r_m0hkind, .inl (g 0, 801, .inl d_m0hkind)), (r_m0hfaults, .inr (3, [.ref i_m0hfaults, .int s_m0hfaults])), (r_m0hfaultLocks, .inr (3, [.ref i_m0hfaultLocks, .int s_m0hfaultLocks])), (r_m0runs, .inl (g 5, 3, .inr (.inr (.inr (.inr (va_up (va_up (va_up (fun _ => none) 0 (some m0u0)) 1 (some m0u1)) 2 (some m0u2))))))), (m0u0, .inr (7, [.int f_m0u0callClass, .int f_m0u0callSign, .ref r_m0u0callNumbers, .int f_m0u0mode, .int f_m0u0steps, .int f_m0u0waits, .int f_m0u0endKind, .int f_m0u0endNumber, .int f_m0u0endClass, .int f_m0u0endRule, .int f_m0u0frames, .ref r_m0u0classOf, .ref r_m0u0methodOf, .ref r_m0u0at, .ref r_m0u0depth, .ref r_m0u0places, .int f_m0u0starts, .ref r_m0u0startClass, .ref r_m0u0startFrames])), (m0u1, .inr (7, [.int f_m0u1callClass, .int f_m0u1callSign, .ref r_m0u1callNumbers, .int f_m0u1mode, .int f_m0u1steps, .int f_m0u1waits, .int f_m0u1endKind, .int f_m0u1endNumber, .int f_m0u1endClass, .int f_m0u1endRule, .int f_m0u1frames, .ref r_m0u1classOf, .ref r_m0u1methodOf, .ref r_m0u1at, .ref r_m0u1depth, .ref r_m0u1places, .int f_m0u1starts, .ref r_m0u1startClass, .ref r_m0u1startFrames])), (m0u2, .inr (7, [.int f_m0u2callClass, .int f_m0u2callSign, .ref r_m0u2callNumbers, .int f_m0u2mode, .int f_m0u2steps, .int f_m0u2waits, .int f_m0u2endKind, .int f_m0u2endNumber, .int f_m0u2endClass, .int f_m0u2endRule, .int f_m0u2frames, .ref r_m0u2classOf, .ref r_m0u2methodOf, .ref r_m0u2at, .ref r_m0u2depth, .ref r_m0u2places, .int f_m0u2starts, .ref r_m0u2startClass, .ref r_m0u2startFrames])), (r_m0counts, .inl (g 0, 62, .inl d_m0counts)), (ww0, .inr (9, [.ref r_w0names, .int (nI 0), .int (nI 21), .int f_w0wrongClass, .int f_w0wrongMethod, .int f_w0wrongAt, .ref r_w0rows, .ref r_w0above, .ref r_w0fields, .ref r_w0methods, .ref r_w0codes, .ref r_w0handlers, .ref r_w0extra, .ref r_w0orders, .ref r_w0classNamed, .int f_w0breaks, .ref r_w0marks])), (r_w0fields, .inr (3, [.ref i_w0fields, .int s_w0fields])), (r_w0methods, .inr (3, [.ref i_w0methods, .int s_w0methods])), (r_w0codes, .inr (3, [.ref i_w0codes, .int s_w0codes])), (r_w0handlers, .inr (3, [.ref i_w0handlers, .int s_w0handlers])), (r_w0extra, .inr (3, [.ref i_w0extra, .int s_w0extra])), (r_w0orders, .inr (3, [.ref i_w0orders, .int s_w0orders])), (h0X, .inr (14, fsX)), (owX, .inl (g 6, 4, .inr (.inr (.inr (.inr (va_up (va_up (va_up (va_up (fun _ => none) 0 (some v0X)) 1 (some v1X)) 2 (some v2X)) 3 (some v3X))))))), (v0X, .inr (13, fw0X)), (r_v0classNamesX, .inl (g 0, 51, .inl d_v0classNamesX)), (r_v0parentsX, .inl (g 0, 51, .inl d_v0parentsX)), (r_v0flagsX, .inl (g 0, 51, .inl d_v0flagsX)), (r_v0faceCountsX, .inl (g 0, 51, .inl d_v0faceCountsX)), (r_v0fieldCountsX, .inl (g 0, 51, .inl d_v0fieldCountsX)), (r_v0methodCountsX, .inl (g 0, 51, .inl d_v0methodCountsX)), (r_v0statesX, .inl (g 0, 51, .inl d_v0statesX)), (r_v0linksX, .inl (g 0, 51, .inl d_v0linksX)), (r_v0methodNamesX, .inl (g 0, 612, .inl d_v0methodNamesX)), (r_v0methodSigsX, .inl (g 0, 612, .inl d_v0methodSigsX)), (r_v0methodFlagsX, .inl (g 0, 612, .inl d_v0methodFlagsX)), (r_v0stacksX, .inl (g 0, 612, .inl d_v0stacksX)), (r_v0localCountsX, .inl (g 0, 612, .inl d_v0localCountsX)), (r_v0codeFromsX, .inl (g 0, 612, .inl d_v0codeFromsX)), (r_v0codeSizesX, .inl (g 0, 612, .inl d_v0codeSizesX)), (r_v0handlerCountsX, .inl (g 0, 612, .inl d_v0handlerCountsX)), (r_v0checkedX, .inl (g 0, 3, .inl d_v0checkedX)), (r_v0doneCountsX, .inl (g 0, 62, .inl d_v0doneCountsX)), (r_v0thingThereX, .inl (g 3, 801, .inl d_v0thingThereX)), (r_v0runsX, .inl (g 7, 3, .inr (.inr (.inr (.inr (va_up (va_up (va_up (fun _ => none) 0 (some j0X)) 1 (some j1X)) 2 (some j2X))))))), (j0X, .inr (12, [.int f_j0stateX, .int f_j0waitsX, .int f_j0waitsForX, .int f_j0stepsX, .int f_j0phaseX, .int f_j0callClassX, .int f_j0callNameX, .int f_j0callSigX, .ref r_j0callNumbersX, .int f_j0callMethodX, .int f_j0endKindX, .int f_j0endNumberX, .int f_j0endClassX, .int f_j0endRuleX, .ref r_j0unitsX, .ref r_j0unitPhasesX, .int f_j0unitCountX, .ref r_j0frameMethodsX, .ref r_j0placesX, .ref r_j0topsX, .ref r_j0slotsX, .ref r_j0refersX, .int f_j0framesX])), (j1X, .inr (12, [.int f_j1stateX, .int f_j1waitsX, .int f_j1waitsForX, .int f_j1stepsX, .int f_j1phaseX, .int f_j1callClassX, .int f_j1callNameX, .int f_j1callSigX, .ref r_j1callNumbersX, .int f_j1callMethodX, .int f_j1endKindX, .int f_j1endNumberX, .int f_j1endClassX, .int f_j1endRuleX, .ref r_j1unitsX, .ref r_j1unitPhasesX, .int f_j1unitCountX, .ref r_j1frameMethodsX, .ref r_j1placesX, .ref r_j1topsX, .ref r_j1slotsX, .ref r_j1refersX, .int f_j1framesX])), (j2X, .inr (12, [.int f_j2stateX, .int f_j2waitsX, .int f_j2waitsForX, .int f_j2stepsX, .int f_j2phaseX, .int f_j2callClassX, .int f_j2callNameX, .int f_j2callSigX, .ref r_j2callNumbersX, .int f_j2callMethodX, .int f_j2endKindX, .int f_j2endNumberX, .int f_j2endClassX, .int f_j2endRuleX, .ref r_j2unitsX, .ref r_j2unitPhasesX, .int f_j2unitCountX, .ref r_j2frameMethodsX, .ref r_j2placesX, .ref r_j2topsX, .ref r_j2slotsX, .ref r_j2refersX, .int f_j2framesX]))]) (hS : va_S A s.heap H locs) (hl : lv_has ls 4 [(0, .ref b), (1, .ref h0), (2, .ref h0X), (3, .int (nI 0))]) : W p l e room_1 s m #[Value.ref b] below meth c H locs 702 488194 (lw_Z below #[Value.ref b] s) (F0 m 310 ls []) := by
  refine lv_aload_n G.1 G.2.1 d_Law_310 rfl (lv_at hl 1 rfl) ?_
  refine lv_aload_n G.1 G.2.1 d_Law_311 rfl (lv_at hl 0 rfl) ?_
  refine lv_iload_n G.1 G.2.1 d_Law_312 rfl (lv_at hl 3 rfl) ?_
  refine lv_iconst (v := nI 1) G.1 G.2.1 d_Law_313 (by decide) ?_
  refine lv_iadd G.1 G.2.1 d_Law_314 ?_
  refine tpi (w := nI 1) (by decide) ?_
  refine va_sld G.1 G.2.1 hX hbl hbA hS (nI_inn (n := 6) (a := 1) (by decide) (by decide)) d_Law_315 ?_
  refine tpi (w := (xs 1)) (by rw [nI_clamp (by decide)]) ?_
  refine kEi (wr := [(h0X, .inr (14, fsX)), (owX, .inl (g 6, 4, .inr (.inr (.inr (.inr (va_up (va_up (va_up (va_up (fun _ => none) 0 (some v0X)) 1 (some v1X)) 2 (some v2X)) 3 (some v3X))))))), (v0X, .inr (13, fw0X)), (r_v0classNamesX, .inl (g 0, 51, .inl d_v0classNamesX)), (r_v0parentsX, .inl (g 0, 51, .inl d_v0parentsX)), (r_v0flagsX, .inl (g 0, 51, .inl d_v0flagsX)), (r_v0faceCountsX, .inl (g 0, 51, .inl d_v0faceCountsX)), (r_v0fieldCountsX, .inl (g 0, 51, .inl d_v0fieldCountsX)), (r_v0methodCountsX, .inl (g 0, 51, .inl d_v0methodCountsX)), (r_v0statesX, .inl (g 0, 51, .inl d_v0statesX)), (r_v0linksX, .inl (g 0, 51, .inl d_v0linksX)), (r_v0methodNamesX, .inl (g 0, 612, .inl d_v0methodNamesX)), (r_v0methodSigsX, .inl (g 0, 612, .inl d_v0methodSigsX)), (r_v0methodFlagsX, .inl (g 0, 612, .inl d_v0methodFlagsX)), (r_v0stacksX, .inl (g 0, 612, .inl d_v0stacksX)), (r_v0localCountsX, .inl (g 0, 612, .inl d_v0localCountsX)), (r_v0codeFromsX, .inl (g 0, 612, .inl d_v0codeFromsX)), (r_v0codeSizesX, .inl (g 0, 612, .inl d_v0codeSizesX)), (r_v0handlerCountsX, .inl (g 0, 612, .inl d_v0handlerCountsX)), (r_v0checkedX, .inl (g 0, 3, .inl d_v0checkedX)), (r_v0doneCountsX, .inl (g 0, 62, .inl d_v0doneCountsX)), (r_v0thingThereX, .inl (g 3, 801, .inl d_v0thingThereX)), (r_v0runsX, .inl (g 7, 3, .inr (.inr (.inr (.inr (va_up (va_up (va_up (fun _ => none) 0 (some j0X)) 1 (some j1X)) 2 (some j2X))))))), (j0X, .inr (12, [.int f_j0stateX, .int f_j0waitsX, .int f_j0waitsForX, .int f_j0stepsX, .int f_j0phaseX, .int f_j0callClassX, .int f_j0callNameX, .int f_j0callSigX, .ref r_j0callNumbersX, .int f_j0callMethodX, .int f_j0endKindX, .int f_j0endNumberX, .int f_j0endClassX, .int f_j0endRuleX, .ref r_j0unitsX, .ref r_j0unitPhasesX, .int f_j0unitCountX, .ref r_j0frameMethodsX, .ref r_j0placesX, .ref r_j0topsX, .ref r_j0slotsX, .ref r_j0refersX, .int f_j0framesX])), (j1X, .inr (12, [.int f_j1stateX, .int f_j1waitsX, .int f_j1waitsForX, .int f_j1stepsX, .int f_j1phaseX, .int f_j1callClassX, .int f_j1callNameX, .int f_j1callSigX, .ref r_j1callNumbersX, .int f_j1callMethodX, .int f_j1endKindX, .int f_j1endNumberX, .int f_j1endClassX, .int f_j1endRuleX, .ref r_j1unitsX, .ref r_j1unitPhasesX, .int f_j1unitCountX, .ref r_j1frameMethodsX, .ref r_j1placesX, .ref r_j1topsX, .ref r_j1slotsX, .ref r_j1refersX, .int f_j1framesX])), (j2X, .inr (12, [.int f_j2stateX, .int f_j2waitsX, .int f_j2waitsForX, .int f_j2stepsX, .int f_j2phaseX, .int f_j2callClassX, .int f_j2callNameX, .int f_j2callSigX, .ref r_j2callNumbersX, .int f_j2callMethodX, .int f_j2endKindX, .int f_j2endNumberX, .int f_j2endClassX, .int f_j2endRuleX, .ref r_j2unitsX, .ref r_j2unitPhasesX, .int f_j2unitCountX, .ref r_j2frameMethodsX, .ref r_j2placesX, .ref r_j2topsX, .ref r_j2slotsX, .ref r_j2refersX, .int f_j2framesX]))]) G (kV (As := [.int (xs 1)]) (rest := []) G hP hD hS [0, 1, 2, 3, 4, 5, 6, 7, 8, 9, 10, 11, 12, 13, 14, 15, 16, 17, 18] rfl rfl (c_Cw_world l D g h0 (xs 1) r_cwords r_creader r_cchecker r_cfinder r_cwriter r_cmachines r_ctape r_cstock r_csizes r_cmet r_cfound r_cdraft r_cfewestFor r_cfewestNext mm0 mm1 mm2 mm3 ww0 r_m0heap r_m0runs r_m0counts r_m0traceRow f_m0traceCount r_m0startedList f_m0startedCount f_m0present f_m0quantum f_m0stepsDone f_m0turnSteps f_m0turnMost f_m0turnOver r_m0finder r_m0names f_m0fault f_m0wanted f_m0thrown r_m0hkind r_m0hbase r_m0hlength r_m0hdata r_m0hlock r_m0hspare f_m0hleastFree r_m0hfaults r_m0hfaultLocks r_m0htouched r_m0hopen f_m0hopened d_m0hkind i_m0hfaults s_m0hfaults i_m0hfaultLocks s_m0hfaultLocks m0u0 m0u1 m0u2 f_m0u0callClass f_m0u0callSign r_m0u0callNumbers f_m0u0mode f_m0u0steps f_m0u0waits f_m0u0endKind f_m0u0endNumber f_m0u0endClass f_m0u0endRule f_m0u0frames r_m0u0classOf r_m0u0methodOf r_m0u0at r_m0u0depth r_m0u0places f_m0u0starts r_m0u0startClass r_m0u0startFrames f_m0u1callClass f_m0u1callSign r_m0u1callNumbers f_m0u1mode f_m0u1steps f_m0u1waits f_m0u1endKind f_m0u1endNumber f_m0u1endClass f_m0u1endRule f_m0u1frames r_m0u1classOf r_m0u1methodOf r_m0u1at r_m0u1depth r_m0u1places f_m0u1starts r_m0u1startClass r_m0u1startFrames f_m0u2callClass f_m0u2callSign r_m0u2callNumbers f_m0u2mode f_m0u2steps f_m0u2waits f_m0u2endKind f_m0u2endNumber f_m0u2endClass f_m0u2endRule f_m0u2frames r_m0u2classOf r_m0u2methodOf r_m0u2at r_m0u2depth r_m0u2places f_m0u2starts r_m0u2startClass r_m0u2startFrames d_m0counts r_w0names f_w0wrongClass f_w0wrongMethod f_w0wrongAt r_w0rows r_w0above r_w0fields r_w0methods r_w0codes r_w0handlers r_w0extra r_w0orders r_w0classNamed f_w0breaks r_w0marks i_w0fields s_w0fields i_w0methods s_w0methods i_w0codes s_w0codes i_w0handlers s_w0handlers i_w0extra s_w0extra i_w0orders s_w0orders H.size ) w_Cw_world q1207 rfl rfl ⟨Nat.le_of_ble_eq_true rfl, Nat.le_of_ble_eq_true rfl⟩ (fun _ h => absurd h List.not_mem_nil) 0 (ci := 11) rfl rfl rfl hl.1 rfl (Nat.le_of_ble_eq_true rfl) rfl ⟨Nat.le_of_ble_eq_true rfl, (Nat.le_of_ble_eq_true rfl)⟩ d_Law_316) hP hD hS [0, 1, 2, 3, 4, 5, 6, 7, 8, 9, 10, 11, 12, 13, 14, 15, 16, 17, 18] [19, 20, 21, 22, 23, 24, 25, 26, 27, 28, 29, 30, 31, 32, 33, 34, 35, 36, 37, 38, 39, 40, 41, 42, 43, 44] rfl rfl rfl rfl (fun r_1 u_2 H locs hw hP hD hS hzH => ?_)
  have hw : r_1 = woF ((xs 1)) := hw
  have hP : va_P D CL [(h0X, .inr (14, fsX)), (owX, .inl (g 6, 4, .inr (.inr (.inr (.inr (va_up (va_up (va_up (va_up (fun _ => none) 0 (some v0X)) 1 (some v1X)) 2 (some v2X)) 3 (some v3X))))))), (v0X, .inr (13, fw0X)), (r_v0classNamesX, .inl (g 0, 51, .inl d_v0classNamesX)), (r_v0parentsX, .inl (g 0, 51, .inl d_v0parentsX)), (r_v0flagsX, .inl (g 0, 51, .inl d_v0flagsX)), (r_v0faceCountsX, .inl (g 0, 51, .inl d_v0faceCountsX)), (r_v0fieldCountsX, .inl (g 0, 51, .inl d_v0fieldCountsX)), (r_v0methodCountsX, .inl (g 0, 51, .inl d_v0methodCountsX)), (r_v0statesX, .inl (g 0, 51, .inl d_v0statesX)), (r_v0linksX, .inl (g 0, 51, .inl d_v0linksX)), (r_v0methodNamesX, .inl (g 0, 612, .inl d_v0methodNamesX)), (r_v0methodSigsX, .inl (g 0, 612, .inl d_v0methodSigsX)), (r_v0methodFlagsX, .inl (g 0, 612, .inl d_v0methodFlagsX)), (r_v0stacksX, .inl (g 0, 612, .inl d_v0stacksX)), (r_v0localCountsX, .inl (g 0, 612, .inl d_v0localCountsX)), (r_v0codeFromsX, .inl (g 0, 612, .inl d_v0codeFromsX)), (r_v0codeSizesX, .inl (g 0, 612, .inl d_v0codeSizesX)), (r_v0handlerCountsX, .inl (g 0, 612, .inl d_v0handlerCountsX)), (r_v0checkedX, .inl (g 0, 3, .inl d_v0checkedX)), (r_v0doneCountsX, .inl (g 0, 62, .inl d_v0doneCountsX)), (r_v0thingThereX, .inl (g 3, 801, .inl d_v0thingThereX)), (r_v0runsX, .inl (g 7, 3, .inr (.inr (.inr (.inr (va_up (va_up (va_up (fun _ => none) 0 (some j0X)) 1 (some j1X)) 2 (some j2X))))))), (j0X, .inr (12, [.int f_j0stateX, .int f_j0waitsX, .int f_j0waitsForX, .int f_j0stepsX, .int f_j0phaseX, .int f_j0callClassX, .int f_j0callNameX, .int f_j0callSigX, .ref r_j0callNumbersX, .int f_j0callMethodX, .int f_j0endKindX, .int f_j0endNumberX, .int f_j0endClassX, .int f_j0endRuleX, .ref r_j0unitsX, .ref r_j0unitPhasesX, .int f_j0unitCountX, .ref r_j0frameMethodsX, .ref r_j0placesX, .ref r_j0topsX, .ref r_j0slotsX, .ref r_j0refersX, .int f_j0framesX])), (j1X, .inr (12, [.int f_j1stateX, .int f_j1waitsX, .int f_j1waitsForX, .int f_j1stepsX, .int f_j1phaseX, .int f_j1callClassX, .int f_j1callNameX, .int f_j1callSigX, .ref r_j1callNumbersX, .int f_j1callMethodX, .int f_j1endKindX, .int f_j1endNumberX, .int f_j1endClassX, .int f_j1endRuleX, .ref r_j1unitsX, .ref r_j1unitPhasesX, .int f_j1unitCountX, .ref r_j1frameMethodsX, .ref r_j1placesX, .ref r_j1topsX, .ref r_j1slotsX, .ref r_j1refersX, .int f_j1framesX])), (j2X, .inr (12, [.int f_j2stateX, .int f_j2waitsX, .int f_j2waitsForX, .int f_j2stepsX, .int f_j2phaseX, .int f_j2callClassX, .int f_j2callNameX, .int f_j2callSigX, .ref r_j2callNumbersX, .int f_j2callMethodX, .int f_j2endKindX, .int f_j2endNumberX, .int f_j2endClassX, .int f_j2endRuleX, .ref r_j2unitsX, .ref r_j2unitPhasesX, .int f_j2unitCountX, .ref r_j2frameMethodsX, .ref r_j2placesX, .ref r_j2topsX, .ref r_j2slotsX, .ref r_j2refersX, .int f_j2framesX]))] H := hP
  have hD : va_D A [(h0X, .inr (14, fsX)), (owX, .inl (g 6, 4, .inr (.inr (.inr (.inr (va_up (va_up (va_up (va_up (fun _ => none) 0 (some v0X)) 1 (some v1X)) 2 (some v2X)) 3 (some v3X))))))), (v0X, .inr (13, fw0X)), (r_v0classNamesX, .inl (g 0, 51, .inl d_v0classNamesX)), (r_v0parentsX, .inl (g 0, 51, .inl d_v0parentsX)), (r_v0flagsX, .inl (g 0, 51, .inl d_v0flagsX)), (r_v0faceCountsX, .inl (g 0, 51, .inl d_v0faceCountsX)), (r_v0fieldCountsX, .inl (g 0, 51, .inl d_v0fieldCountsX)), (r_v0methodCountsX, .inl (g 0, 51, .inl d_v0methodCountsX)), (r_v0statesX, .inl (g 0, 51, .inl d_v0statesX)), (r_v0linksX, .inl (g 0, 51, .inl d_v0linksX)), (r_v0methodNamesX, .inl (g 0, 612, .inl d_v0methodNamesX)), (r_v0methodSigsX, .inl (g 0, 612, .inl d_v0methodSigsX)), (r_v0methodFlagsX, .inl (g 0, 612, .inl d_v0methodFlagsX)), (r_v0stacksX, .inl (g 0, 612, .inl d_v0stacksX)), (r_v0localCountsX, .inl (g 0, 612, .inl d_v0localCountsX)), (r_v0codeFromsX, .inl (g 0, 612, .inl d_v0codeFromsX)), (r_v0codeSizesX, .inl (g 0, 612, .inl d_v0codeSizesX)), (r_v0handlerCountsX, .inl (g 0, 612, .inl d_v0handlerCountsX)), (r_v0checkedX, .inl (g 0, 3, .inl d_v0checkedX)), (r_v0doneCountsX, .inl (g 0, 62, .inl d_v0doneCountsX)), (r_v0thingThereX, .inl (g 3, 801, .inl d_v0thingThereX)), (r_v0runsX, .inl (g 7, 3, .inr (.inr (.inr (.inr (va_up (va_up (va_up (fun _ => none) 0 (some j0X)) 1 (some j1X)) 2 (some j2X))))))), (j0X, .inr (12, [.int f_j0stateX, .int f_j0waitsX, .int f_j0waitsForX, .int f_j0stepsX, .int f_j0phaseX, .int f_j0callClassX, .int f_j0callNameX, .int f_j0callSigX, .ref r_j0callNumbersX, .int f_j0callMethodX, .int f_j0endKindX, .int f_j0endNumberX, .int f_j0endClassX, .int f_j0endRuleX, .ref r_j0unitsX, .ref r_j0unitPhasesX, .int f_j0unitCountX, .ref r_j0frameMethodsX, .ref r_j0placesX, .ref r_j0topsX, .ref r_j0slotsX, .ref r_j0refersX, .int f_j0framesX])), (j1X, .inr (12, [.int f_j1stateX, .int f_j1waitsX, .int f_j1waitsForX, .int f_j1stepsX, .int f_j1phaseX, .int f_j1callClassX, .int f_j1callNameX, .int f_j1callSigX, .ref r_j1callNumbersX, .int f_j1callMethodX, .int f_j1endKindX, .int f_j1endNumberX, .int f_j1endClassX, .int f_j1endRuleX, .ref r_j1unitsX, .ref r_j1unitPhasesX, .int f_j1unitCountX, .ref r_j1frameMethodsX, .ref r_j1placesX, .ref r_j1topsX, .ref r_j1slotsX, .ref r_j1refersX, .int f_j1framesX])), (j2X, .inr (12, [.int f_j2stateX, .int f_j2waitsX, .int f_j2waitsForX, .int f_j2stepsX, .int f_j2phaseX, .int f_j2callClassX, .int f_j2callNameX, .int f_j2callSigX, .ref r_j2callNumbersX, .int f_j2callMethodX, .int f_j2endKindX, .int f_j2endNumberX, .int f_j2endClassX, .int f_j2endRuleX, .ref r_j2unitsX, .ref r_j2unitPhasesX, .int f_j2unitCountX, .ref r_j2frameMethodsX, .ref r_j2placesX, .ref r_j2topsX, .ref r_j2slotsX, .ref r_j2refersX, .int f_j2framesX]))] := hD
  subst hw
  refine tpst (w := [.int (woF ((xs 1)))]) rfl ?_
  refine lv_aload_n G.1 G.2.1 d_Law_319 rfl (lv_at hl 2 rfl) ?_
  refine lv_aload_n G.1 G.2.1 d_Law_320 rfl (lv_at hl 0 rfl) ?_
  refine lv_iload_n G.1 G.2.1 d_Law_321 rfl (lv_at hl 3 rfl) ?_
  refine lv_iconst (v := nI 1) G.1 G.2.1 d_Law_322 (by decide) ?_
  refine W.eq (g2 := F0 m 323 ls [.int (nI 1), .int (nI 0), .ref b, .ref h0X, .int (woF ((xs 1)))]) rfl ?_
  refine lv_iadd G.1 G.2.1 d_Law_323 ?_
  refine tpi (w := nI 1) (by decide) ?_
  refine va_sld G.1 G.2.1 hX hbl hbA hS (nI_inn (n := 6) (a := 1) (by decide) (by decide)) d_Law_324 ?_
  refine tpi (w := (xs 1)) (by rw [nI_clamp (by decide)]) ?_
  refine kEi (wr := []) G (kV (As := [.int (xs 1)]) (rest := [.int (woF ((xs 1)))]) G hP hD hS [0, 1, 2, 3, 4, 5, 6, 7, 8, 9, 10, 11, 12, 13, 14, 15, 16, 17, 18, 19, 20, 21, 22, 23, 24, 25] rfl rfl (c_Mo_world l D g h0X (xs 1) fsX owX f_kThingX f_kMakeX f_plainSigX v0X v1X v2X v3X fw0X r_v0classNamesX r_v0parentsX r_v0flagsX r_v0faceCountsX r_v0fieldCountsX r_v0methodCountsX r_v0statesX r_v0linksX r_v0methodNamesX r_v0methodSigsX r_v0methodFlagsX r_v0stacksX r_v0localCountsX r_v0codeFromsX r_v0codeSizesX r_v0handlerCountsX r_v0checkedX r_v0doneCountsX r_v0thingThereX r_v0runsX d_v0classNamesX d_v0parentsX d_v0flagsX d_v0faceCountsX d_v0fieldCountsX d_v0methodCountsX d_v0statesX d_v0linksX d_v0methodNamesX d_v0methodSigsX d_v0methodFlagsX d_v0stacksX d_v0localCountsX d_v0codeFromsX d_v0codeSizesX d_v0handlerCountsX d_v0checkedX d_v0doneCountsX d_v0thingThereX j0X j1X j2X f_j0stateX f_j0waitsX f_j0waitsForX f_j0stepsX f_j0phaseX f_j0callClassX f_j0callNameX f_j0callSigX r_j0callNumbersX f_j0callMethodX f_j0endKindX f_j0endNumberX f_j0endClassX f_j0endRuleX r_j0unitsX r_j0unitPhasesX f_j0unitCountX r_j0frameMethodsX r_j0placesX r_j0topsX r_j0slotsX r_j0refersX f_j0framesX f_j1stateX f_j1waitsX f_j1waitsForX f_j1stepsX f_j1phaseX f_j1callClassX f_j1callNameX f_j1callSigX r_j1callNumbersX f_j1callMethodX f_j1endKindX f_j1endNumberX f_j1endClassX f_j1endRuleX r_j1unitsX r_j1unitPhasesX f_j1unitCountX r_j1frameMethodsX r_j1placesX r_j1topsX r_j1slotsX r_j1refersX f_j1framesX f_j2stateX f_j2waitsX f_j2waitsForX f_j2stepsX f_j2phaseX f_j2callClassX f_j2callNameX f_j2callSigX r_j2callNumbersX f_j2callMethodX f_j2endKindX f_j2endNumberX f_j2endClassX f_j2endRuleX r_j2unitsX r_j2unitPhasesX f_j2unitCountX r_j2frameMethodsX r_j2placesX r_j2topsX r_j2slotsX r_j2refersX f_j2framesX H.size glenX gk0X gk1X gk2X gk3X gw_lenX gw_0X gw_3X gw_4X gw_5X gw_7X gw_8X gw_9X gw_10X gw_11X gw_18X gw_19X gw_20X gw_21X gw_22X gw_23X gw_24X gw_25X gw_44X gw_71X gw_49X gw_62X) w_Mo_world q3470 rfl rfl ⟨Nat.le_of_ble_eq_true rfl, Nat.le_of_ble_eq_true rfl⟩ (fun _ h => absurd h List.not_mem_nil) 0 (ci := 14) rfl rfl rfl hl.1 rfl (Nat.le_of_ble_eq_true rfl) rfl ⟨Nat.le_of_ble_eq_true rfl, (Nat.le_of_ble_eq_true rfl)⟩ d_Law_325) hP hD hS [0, 1, 2, 3, 4, 5, 6, 7, 8, 9, 10, 11, 12, 13, 14, 15, 16, 17, 18, 19, 20, 21, 22, 23, 24, 25] [] rfl rfl rfl rfl (fun r_3 u_4 H locs hw hP hD hS hzH => ?_)
  have hw : r_3 = woF ((xs 1)) := hw
  have hP : va_P D CL [] H := hP
  have hD : va_D A [] := hD
  subst hw
  refine tpst (w := [.int (woF ((xs 1))), .int (woF ((xs 1)))]) rfl ?_
  refine lv_icmp_eq (tgt := 1768) G.1 G.2.1 d_Law_328 (by decide) (fun c328 => ?_) (fun c328 => absurd c328 (fun h => h rfl))
  refine lv_iinc (v := nI 6) (lv' := [(3, .int (nI 6)), (0, .ref b), (1, .ref h0), (2, .ref h0X)]) G.1 G.2.1 d_Law_1768 hl (k := 3) rfl (show (nI 0) + Int32.ofInt 6 = nI 6 from by decide) (by decide) rfl (fun ls hl => ?_)
  refine lv_goto (tgt := 18) G.1 G.2.1 d_Law_1771 (by decide) ?_
  refine lv_iload_n G.1 G.2.1 d_Law_18 rfl (lv_at hl 0 rfl) ?_
  refine lv_aload_n G.1 G.2.1 d_Law_19 rfl (lv_at hl 1 rfl) ?_
  refine va_slen G.1 G.2.1 hX hbl hbA hS d_Law_20 ?_
  refine tpi (w := nI 6) rfl ?_
  refine lv_bipush (v := nI 6) G.1 G.2.1 d_Law_21 (by decide) ?_
  refine lv_isub G.1 G.2.1 d_Law_23 ?_
  refine tpi (w := nI 0) (by decide) ?_
  refine lv_icmp_gt (tgt := 1774) G.1 G.2.1 d_Law_24 (by decide) (fun c24 => ?_) (fun c24 => absurd c24 (by decide))
  refine W.eq (g2 := F0 m 1774 ls []) rfl ?_
  refine lv_iconst (v := nI 1) G.1 G.2.1 d_Law_1774 (by decide) ?_
  refine va_forget (fun q hq => hAA _ (hS.2.2 q hq)) ?_
  refine W.widen (k := 600002) (n := 7302232) (Nat.le_of_ble_eq_true rfl) (Nat.le_of_ble_eq_true rfl) ?_
  exact lw_ret G.1 G.2.1 G.2.2.2.1 G.2.2.2.2.1 d_Law_1775
theorem q1243 : Cond.code y_Cw_drop b_Cw_drop 3 (some .int) ∈ lw_ok := lw_okmem (List.mem_of_getElem? (i := 1243) (by decide +kernel)) rfl
theorem q1241 : Cond.instanceMethod y_Cw_drop ∈ lw_ok := lw_okmem (List.mem_of_getElem? (i := 1241) (by decide +kernel)) rfl
theorem q1242 : Cond.selects y_Cw_drop.cls y_Cw_drop y_Cw_drop ∈ lw_ok := lw_okmem (List.mem_of_getElem? (i := 1242) (by decide +kernel)) rfl
theorem w_Cw_drop : CWv y_Cw_drop b_Cw_drop 3 (some .int) 1 ∧ Cond.instanceMethod y_Cw_drop ∈ lw_ok ∧ Cond.selects y_Cw_drop.cls y_Cw_drop y_Cw_drop ∈ lw_ok := ⟨⟨q1243, q329, by decide +kernel, by decide +kernel, by decide +kernel⟩, q1241, q1242⟩
theorem q1240 : Cond.methodLink "ClassWorksLaw" 27 y_Cw_drop ∈ lw_ok := lw_okmem (List.mem_of_getElem? (i := 1240) (by decide +kernel)) rfl
theorem q3481 : Cond.code y_Mo_drop b_Mo_drop 2 (some .int) ∈ lw_ok := lw_okmem (List.mem_of_getElem? (i := 3481) (by decide +kernel)) rfl
theorem q3479 : Cond.instanceMethod y_Mo_drop ∈ lw_ok := lw_okmem (List.mem_of_getElem? (i := 3479) (by decide +kernel)) rfl
theorem q3480 : Cond.selects y_Mo_drop.cls y_Mo_drop y_Mo_drop ∈ lw_ok := lw_okmem (List.mem_of_getElem? (i := 3480) (by decide +kernel)) rfl
theorem w_Mo_drop : CWv y_Mo_drop b_Mo_drop 2 (some .int) 1 ∧ Cond.instanceMethod y_Mo_drop ∈ lw_ok ∧ Cond.selects y_Mo_drop.cls y_Mo_drop y_Mo_drop ∈ lw_ok := ⟨⟨q3481, q348, by decide +kernel, by decide +kernel, by decide +kernel⟩, q3479, q3480⟩
theorem q3478 : Cond.methodLink "ClassWorksLaw" 30 y_Mo_drop ∈ lw_ok := lw_okmem (List.mem_of_getElem? (i := 3478) (by decide +kernel)) rfl
theorem d_Law_333 : decode code 333 = .ok (.aload_n 1, 1) := by decide +kernel
theorem d_Law_334 : decode code 334 = .ok (.aload_n 0, 1) := by decide +kernel
theorem d_Law_335 : decode code 335 = .ok (.iload_n 3, 1) := by decide +kernel
theorem d_Law_336 : decode code 336 = .ok (.iconst 1, 1) := by decide +kernel
theorem d_Law_337 : decode code 337 = .ok (.iadd, 1) := by decide +kernel
theorem d_Law_338 : decode code 338 = .ok (.iaload, 1) := by decide +kernel
theorem d_Law_339 : decode code 339 = .ok (.invokevirtual 27, 3) := by decide +kernel
theorem d_Law_342 : decode code 342 = .ok (.aload_n 2, 1) := by decide +kernel
theorem d_Law_343 : decode code 343 = .ok (.aload_n 0, 1) := by decide +kernel
theorem d_Law_344 : decode code 344 = .ok (.iload_n 3, 1) := by decide +kernel
theorem d_Law_345 : decode code 345 = .ok (.iconst 1, 1) := by decide +kernel
theorem d_Law_346 : decode code 346 = .ok (.iadd, 1) := by decide +kernel
theorem d_Law_347 : decode code 347 = .ok (.iaload, 1) := by decide +kernel
theorem d_Law_348 : decode code 348 = .ok (.invokevirtual 30, 3) := by decide +kernel
theorem d_Law_351 : decode code 351 = .ok (.if_icmp .eq 1417, 3) := by decide +kernel
set_option maxHeartbeats 4000000 in
set_option maxRecDepth 100000 in
theorem law_drop {p : Program} {e : Env} {s : State} {m : MethodId} {below : List Frame} {meth : Method} {c : Code} {l : Launch} {D : va_G} {g : Nat → ClassId} {sl : List SL} {b : Nat} {xs : Nat → Int32} {A : Nat → Prop} (h0 : Nat) (r_cwords : Nat) (r_creader : Nat) (r_cchecker : Nat) (r_cfinder : Nat) (r_cwriter : Nat) (r_cmachines : Nat) (r_ctape : Nat) (r_cstock : Nat) (r_csizes : Nat) (r_cmet : Nat) (r_cfound : Nat) (r_cdraft : Nat) (r_cfewestFor : Nat) (r_cfewestNext : Nat) (mm0 : Nat) (mm1 : Nat) (mm2 : Nat) (mm3 : Nat) (ww0 : Nat) (r_m0heap : Nat) (r_m0runs : Nat) (r_m0counts : Nat) (r_m0traceRow : Nat) (f_m0traceCount : Int32) (r_m0startedList : Nat) (f_m0startedCount : Int32) (f_m0present : Int32) (f_m0quantum : Int32) (f_m0stepsDone : Int32) (f_m0turnSteps : Int32) (f_m0turnMost : Int32) (f_m0turnOver : Int32) (r_m0finder : Nat) (r_m0names : Nat) (f_m0fault : Int32) (f_m0wanted : Int32) (f_m0thrown : Int32) (ww1 : Nat) (r_m1heap : Nat) (r_m1runs : Nat) (r_m1counts : Nat) (r_m1traceRow : Nat) (f_m1traceCount : Int32) (r_m1startedList : Nat) (f_m1startedCount : Int32) (f_m1present : Int32) (f_m1quantum : Int32) (f_m1stepsDone : Int32) (f_m1turnSteps : Int32) (f_m1turnMost : Int32) (f_m1turnOver : Int32) (r_m1finder : Nat) (r_m1names : Nat) (f_m1fault : Int32) (f_m1wanted : Int32) (f_m1thrown : Int32) (ww2 : Nat) (r_m2heap : Nat) (r_m2runs : Nat) (r_m2counts : Nat) (r_m2traceRow : Nat) (f_m2traceCount : Int32) (r_m2startedList : Nat) (f_m2startedCount : Int32) (f_m2present : Int32) (f_m2quantum : Int32) (f_m2stepsDone : Int32) (f_m2turnSteps : Int32) (f_m2turnMost : Int32) (f_m2turnOver : Int32) (r_m2finder : Nat) (r_m2names : Nat) (f_m2fault : Int32) (f_m2wanted : Int32) (f_m2thrown : Int32) (r_w0names : Nat) (f_w0wrongClass : Int32) (f_w0wrongMethod : Int32) (f_w0wrongAt : Int32) (r_w0rows : Nat) (r_w0above : Nat) (r_w0fields : Nat) (r_w0methods : Nat) (r_w0codes : Nat) (r_w0handlers : Nat) (r_w0extra : Nat) (r_w0orders : Nat) (r_w0classNamed : Nat) (f_w0breaks : Int32) (r_w0marks : Nat) (r_w1names : Nat) (f_w1wrongClass : Int32) (f_w1wrongMethod : Int32) (f_w1wrongAt : Int32) (r_w1rows : Nat) (r_w1above : Nat) (r_w1fields : Nat) (r_w1methods : Nat) (r_w1codes : Nat) (r_w1handlers : Nat) (r_w1extra : Nat) (r_w1orders : Nat) (r_w1classNamed : Nat) (f_w1breaks : Int32) (r_w1marks : Nat) (r_w2names : Nat) (f_w2wrongClass : Int32) (f_w2wrongMethod : Int32) (f_w2wrongAt : Int32) (r_w2rows : Nat) (r_w2above : Nat) (r_w2fields : Nat) (r_w2methods : Nat) (r_w2codes : Nat) (r_w2handlers : Nat) (r_w2extra : Nat) (r_w2orders : Nat) (r_w2classNamed : Nat) (f_w2breaks : Int32) (r_w2marks : Nat) (h0X : Nat) (fsX : List Value) (owX : Nat) (v0X : Nat) (v1X : Nat) (v2X : Nat) (v3X : Nat) (fw0X : List Value) (fw1X : List Value) (fw2X : List Value) (G : GV l p s m #[Value.ref b] meth c (⟨"ClassWorksLaw", meth.name, ""⟩ : MethodName) code 4 ret g D sl A) (hX : va_X b 6 xs s s.heap) (hbl : b < s.heap.size) (hbA : ¬ A b) (hAA : ∀ q, A q → s.heap.size ≤ q) {H : Heap} {locs : List Loc} {ls : Array Slot} (glenX : fsX.length = 131) (gk0X : fsX[44]? = some (.ref owX)) (gw0X : fw0X.length = 72) (gt0X : fw0X[0]? = some (.int (nI 0))) (gw1X : fw1X.length = 72) (gt1X : fw1X[0]? = some (.int (nI 0))) (gw2X : fw2X.length = 72) (gt2X : fw2X[0]? = some (.int (nI 0))) (hP : va_P D CL [(h0, .inr (11, [.ref r_cwords, .ref r_creader, .ref r_cchecker, .ref r_cfinder, .ref r_cwriter, .ref r_cmachines, .ref r_ctape, .int (nI 0), .int (-2), .int (nI 60000), .ref r_cstock, .ref r_csizes, .ref r_cmet, .ref r_cfound, .int (nI 0), .ref r_cdraft, .int (nI 0), .int (nI 0), .ref r_cfewestFor, .ref r_cfewestNext])), (r_cmachines, .inl (g 4, 4, .inr (.inr (.inr (.inr (va_up (va_up (va_up (va_up (fun _ => none) 0 (some mm0)) 1 (some mm1)) 2 (some mm2)) 3 (some mm3))))))), (mm0, .inr (4, [.ref ww0, .ref r_m0heap, .ref r_m0runs, .ref r_m0counts, .ref r_m0traceRow, .int f_m0traceCount, .ref r_m0startedList, .int f_m0startedCount, .int f_m0present, .int f_m0quantum, .int f_m0stepsDone, .int f_m0turnSteps, .int f_m0turnMost, .int f_m0turnOver, .ref r_m0finder, .ref r_m0names, .int f_m0fault, .int f_m0wanted, .int f_m0thrown])), (mm1, .inr (4, [.ref ww1, .ref r_m1heap, .ref r_m1runs, .ref r_m1counts, .ref r_m1traceRow, .int f_m1traceCount, .ref r_m1startedList, .int f_m1startedCount, .int f_m1present, .int f_m1quantum, .int f_m1stepsDone, .int f_m1turnSteps, .int f_m1turnMost, .int f_m1turnOver, .ref r_m1finder, .ref r_m1names, .int f_m1fault, .int f_m1wanted, .int f_m1thrown])), (mm2, .inr (4, [.ref ww2, .ref r_m2heap, .ref r_m2runs, .ref r_m2counts, .ref r_m2traceRow, .int f_m2traceCount, .ref r_m2startedList, .int f_m2startedCount, .int f_m2present, .int f_m2quantum, .int f_m2stepsDone, .int f_m2turnSteps, .int f_m2turnMost, .int f_m2turnOver, .ref r_m2finder, .ref r_m2names, .int f_m2fault, .int f_m2wanted, .int f_m2thrown])), (ww0, .inr (9, [.ref r_w0names, .int (nI 0), .int (nI 21), .int f_w0wrongClass, .int f_w0wrongMethod, .int f_w0wrongAt, .ref r_w0rows, .ref r_w0above, .ref r_w0fields, .ref r_w0methods, .ref r_w0codes, .ref r_w0handlers, .ref r_w0extra, .ref r_w0orders, .ref r_w0classNamed, .int f_w0breaks, .ref r_w0marks])), (ww1, .inr (9, [.ref r_w1names, .int (nI 0), .int (nI 21), .int f_w1wrongClass, .int f_w1wrongMethod, .int f_w1wrongAt, .ref r_w1rows, .ref r_w1above, .ref r_w1fields, .ref r_w1methods, .ref r_w1codes, .ref r_w1handlers, .ref r_w1extra, .ref r_w1orders, .ref r_w1classNamed, .int f_w1breaks, .ref r_w1marks])), (ww2, .inr (9, [.ref r_w2names, .int (nI 0), .int (nI 21), .int f_w2wrongClass, .int f_w2wrongMethod, .int f_w2wrongAt, .ref r_w2rows, .ref r_w2above, .ref r_w2fields, .ref r_w2methods, .ref r_w2codes, .ref r_w2handlers, .ref r_w2extra, .ref r_w2orders, .ref r_w2classNamed, .int f_w2breaks, .ref r_w2marks])), (h0X, .inr (14, fsX)), (owX, .inl (g 6, 4, .inr (.inr (.inr (.inr (va_up (va_up (va_up (va_up (fun _ => none) 0 (some v0X)) 1 (some v1X)) 2 (some v2X)) 3 (some v3X))))))), (v0X, .inr (13, fw0X)), (v1X, .inr (13, fw1X)), (v2X, .inr (13, fw2X))] H) (hD : va_D A [(h0, .inr (11, [.ref r_cwords, .ref r_creader, .ref r_cchecker, .ref r_cfinder, .ref r_cwriter, .ref r_cmachines, .ref r_ctape, .int (nI 0), .int (-2), .int (nI 60000), .ref r_cstock, .ref r_csizes, .ref r_cmet, .ref r_cfound, .int (nI 0), .ref r_cdraft, .int (nI 0), .int (nI 0), .ref r_cfewestFor, .ref r_cfewestNext])), (r_cmachines, .inl (g 4, 4, .inr (.inr (.inr (.inr (va_up (va_up (va_up (va_up (fun _ => none) 0 (some mm0)) 1 (some mm1)) 2 (some mm2)) 3 (some mm3))))))), (mm0, .inr (4, [.ref ww0, .ref r_m0heap, .ref r_m0runs, .ref r_m0counts, .ref r_m0traceRow, .int f_m0traceCount, .ref r_m0startedList, .int f_m0startedCount, .int f_m0present, .int f_m0quantum, .int f_m0stepsDone, .int f_m0turnSteps, .int f_m0turnMost, .int f_m0turnOver, .ref r_m0finder, .ref r_m0names, .int f_m0fault, .int f_m0wanted, .int f_m0thrown])), (mm1, .inr (4, [.ref ww1, .ref r_m1heap, .ref r_m1runs, .ref r_m1counts, .ref r_m1traceRow, .int f_m1traceCount, .ref r_m1startedList, .int f_m1startedCount, .int f_m1present, .int f_m1quantum, .int f_m1stepsDone, .int f_m1turnSteps, .int f_m1turnMost, .int f_m1turnOver, .ref r_m1finder, .ref r_m1names, .int f_m1fault, .int f_m1wanted, .int f_m1thrown])), (mm2, .inr (4, [.ref ww2, .ref r_m2heap, .ref r_m2runs, .ref r_m2counts, .ref r_m2traceRow, .int f_m2traceCount, .ref r_m2startedList, .int f_m2startedCount, .int f_m2present, .int f_m2quantum, .int f_m2stepsDone, .int f_m2turnSteps, .int f_m2turnMost, .int f_m2turnOver, .ref r_m2finder, .ref r_m2names, .int f_m2fault, .int f_m2wanted, .int f_m2thrown])), (ww0, .inr (9, [.ref r_w0names, .int (nI 0), .int (nI 21), .int f_w0wrongClass, .int f_w0wrongMethod, .int f_w0wrongAt, .ref r_w0rows, .ref r_w0above, .ref r_w0fields, .ref r_w0methods, .ref r_w0codes, .ref r_w0handlers, .ref r_w0extra, .ref r_w0orders, .ref r_w0classNamed, .int f_w0breaks, .ref r_w0marks])), (ww1, .inr (9, [.ref r_w1names, .int (nI 0), .int (nI 21), .int f_w1wrongClass, .int f_w1wrongMethod, .int f_w1wrongAt, .ref r_w1rows, .ref r_w1above, .ref r_w1fields, .ref r_w1methods, .ref r_w1codes, .ref r_w1handlers, .ref r_w1extra, .ref r_w1orders, .ref r_w1classNamed, .int f_w1breaks, .ref r_w1marks])), (ww2, .inr (9, [.ref r_w2names, .int (nI 0), .int (nI 21), .int f_w2wrongClass, .int f_w2wrongMethod, .int f_w2wrongAt, .ref r_w2rows, .ref r_w2above, .ref r_w2fields, .ref r_w2methods, .ref r_w2codes, .ref r_w2handlers, .ref r_w2extra, .ref r_w2orders, .ref r_w2classNamed, .int f_w2breaks, .ref r_w2marks])), (h0X, .inr (14, fsX)), (owX, .inl (g 6, 4, .inr (.inr (.inr (.inr (va_up (va_up (va_up (va_up (fun _ => none) 0 (some v0X)) 1 (some v1X)) 2 (some v2X)) 3 (some v3X))))))), (v0X, .inr (13, fw0X)), (v1X, .inr (13, fw1X)), (v2X, .inr (13, fw2X))]) (hS : va_S A s.heap H locs) (hl : lv_has ls 4 [(0, .ref b), (1, .ref h0), (2, .ref h0X), (3, .int (nI 0))]) : W p l e room_1 s m #[Value.ref b] below meth c H locs 702 488194 (lw_Z below #[Value.ref b] s) (F0 m 333 ls []) := by
  refine lv_aload_n G.1 G.2.1 d_Law_333 rfl (lv_at hl 1 rfl) ?_
  refine lv_aload_n G.1 G.2.1 d_Law_334 rfl (lv_at hl 0 rfl) ?_
  refine lv_iload_n G.1 G.2.1 d_Law_335 rfl (lv_at hl 3 rfl) ?_
  refine lv_iconst (v := nI 1) G.1 G.2.1 d_Law_336 (by decide) ?_
  refine lv_iadd G.1 G.2.1 d_Law_337 ?_
  refine tpi (w := nI 1) (by decide) ?_
  refine va_sld G.1 G.2.1 hX hbl hbA hS (nI_inn (n := 6) (a := 1) (by decide) (by decide)) d_Law_338 ?_
  refine tpi (w := (xs 1)) (by rw [nI_clamp (by decide)]) ?_
  refine kEi (wr := [(h0X, .inr (14, fsX)), (owX, .inl (g 6, 4, .inr (.inr (.inr (.inr (va_up (va_up (va_up (va_up (fun _ => none) 0 (some v0X)) 1 (some v1X)) 2 (some v2X)) 3 (some v3X))))))), (v0X, .inr (13, fw0X)), (v1X, .inr (13, fw1X)), (v2X, .inr (13, fw2X))]) G (kV (As := [.int (xs 1)]) (rest := []) G hP hD hS [0, 1, 2, 3, 4, 5, 6, 7] rfl rfl (c_Cw_drop l D g h0 (xs 1) r_cwords r_creader r_cchecker r_cfinder r_cwriter r_cmachines r_ctape r_cstock r_csizes r_cmet r_cfound r_cdraft r_cfewestFor r_cfewestNext mm0 mm1 mm2 mm3 ww0 r_m0heap r_m0runs r_m0counts r_m0traceRow f_m0traceCount r_m0startedList f_m0startedCount f_m0present f_m0quantum f_m0stepsDone f_m0turnSteps f_m0turnMost f_m0turnOver r_m0finder r_m0names f_m0fault f_m0wanted f_m0thrown ww1 r_m1heap r_m1runs r_m1counts r_m1traceRow f_m1traceCount r_m1startedList f_m1startedCount f_m1present f_m1quantum f_m1stepsDone f_m1turnSteps f_m1turnMost f_m1turnOver r_m1finder r_m1names f_m1fault f_m1wanted f_m1thrown ww2 r_m2heap r_m2runs r_m2counts r_m2traceRow f_m2traceCount r_m2startedList f_m2startedCount f_m2present f_m2quantum f_m2stepsDone f_m2turnSteps f_m2turnMost f_m2turnOver r_m2finder r_m2names f_m2fault f_m2wanted f_m2thrown r_w0names f_w0wrongClass f_w0wrongMethod f_w0wrongAt r_w0rows r_w0above r_w0fields r_w0methods r_w0codes r_w0handlers r_w0extra r_w0orders r_w0classNamed f_w0breaks r_w0marks r_w1names f_w1wrongClass f_w1wrongMethod f_w1wrongAt r_w1rows r_w1above r_w1fields r_w1methods r_w1codes r_w1handlers r_w1extra r_w1orders r_w1classNamed f_w1breaks r_w1marks r_w2names f_w2wrongClass f_w2wrongMethod f_w2wrongAt r_w2rows r_w2above r_w2fields r_w2methods r_w2codes r_w2handlers r_w2extra r_w2orders r_w2classNamed f_w2breaks r_w2marks H.size ) w_Cw_drop q1240 rfl rfl ⟨Nat.le_of_ble_eq_true rfl, Nat.le_of_ble_eq_true rfl⟩ (fun _ h => absurd h List.not_mem_nil) 0 (ci := 11) rfl rfl rfl hl.1 rfl (Nat.le_of_ble_eq_true rfl) rfl ⟨Nat.le_of_ble_eq_true rfl, (Nat.le_of_ble_eq_true rfl)⟩ d_Law_339) hP hD hS [0, 1, 2, 3, 4, 5, 6, 7] [8, 9, 10, 11, 12] rfl rfl rfl rfl (fun r_1 u_2 H locs hw hP hD hS hzH => ?_)
  have hw : r_1 = (-1) := hw
  have hP : va_P D CL [(h0X, .inr (14, fsX)), (owX, .inl (g 6, 4, .inr (.inr (.inr (.inr (va_up (va_up (va_up (va_up (fun _ => none) 0 (some v0X)) 1 (some v1X)) 2 (some v2X)) 3 (some v3X))))))), (v0X, .inr (13, fw0X)), (v1X, .inr (13, fw1X)), (v2X, .inr (13, fw2X))] H := hP
  have hD : va_D A [(h0X, .inr (14, fsX)), (owX, .inl (g 6, 4, .inr (.inr (.inr (.inr (va_up (va_up (va_up (va_up (fun _ => none) 0 (some v0X)) 1 (some v1X)) 2 (some v2X)) 3 (some v3X))))))), (v0X, .inr (13, fw0X)), (v1X, .inr (13, fw1X)), (v2X, .inr (13, fw2X))] := hD
  subst hw
  refine tpst (w := [.int (-1)]) rfl ?_
  refine lv_aload_n G.1 G.2.1 d_Law_342 rfl (lv_at hl 2 rfl) ?_
  refine lv_aload_n G.1 G.2.1 d_Law_343 rfl (lv_at hl 0 rfl) ?_
  refine lv_iload_n G.1 G.2.1 d_Law_344 rfl (lv_at hl 3 rfl) ?_
  refine lv_iconst (v := nI 1) G.1 G.2.1 d_Law_345 (by decide) ?_
  refine W.eq (g2 := F0 m 346 ls [.int (nI 1), .int (nI 0), .ref b, .ref h0X, .int (-1)]) rfl ?_
  refine lv_iadd G.1 G.2.1 d_Law_346 ?_
  refine tpi (w := nI 1) (by decide) ?_
  refine va_sld G.1 G.2.1 hX hbl hbA hS (nI_inn (n := 6) (a := 1) (by decide) (by decide)) d_Law_347 ?_
  refine tpi (w := (xs 1)) (by rw [nI_clamp (by decide)]) ?_
  refine kEi (wr := []) G (kV (As := [.int (xs 1)]) (rest := [.int (-1)]) G hP hD hS [0, 1, 2, 3, 4] rfl rfl (c_Mo_drop l D g h0X (xs 1) fsX owX v0X v1X v2X v3X fw0X fw1X fw2X H.size glenX gk0X gw0X gt0X gw1X gt1X gw2X gt2X) w_Mo_drop q3478 rfl rfl ⟨Nat.le_of_ble_eq_true rfl, Nat.le_of_ble_eq_true rfl⟩ (fun _ h => absurd h List.not_mem_nil) 0 (ci := 14) rfl rfl rfl hl.1 rfl (Nat.le_of_ble_eq_true rfl) rfl ⟨Nat.le_of_ble_eq_true rfl, (Nat.le_of_ble_eq_true rfl)⟩ d_Law_348) hP hD hS [0, 1, 2, 3, 4] [] rfl rfl rfl rfl (fun r_3 u_4 H locs hw hP hD hS hzH => ?_)
  have hw : r_3 = (-1) := hw
  have hP : va_P D CL [] H := hP
  have hD : va_D A [] := hD
  subst hw
  refine tpst (w := [.int (-1), .int (-1)]) rfl ?_
  refine lv_icmp_eq (tgt := 1768) G.1 G.2.1 d_Law_351 (by decide) (fun c351 => ?_) (fun c351 => absurd c351 (fun h => h rfl))
  refine lv_iinc (v := nI 6) (lv' := [(3, .int (nI 6)), (0, .ref b), (1, .ref h0), (2, .ref h0X)]) G.1 G.2.1 d_Law_1768 hl (k := 3) rfl (show (nI 0) + Int32.ofInt 6 = nI 6 from by decide) (by decide) rfl (fun ls hl => ?_)
  refine lv_goto (tgt := 18) G.1 G.2.1 d_Law_1771 (by decide) ?_
  refine lv_iload_n G.1 G.2.1 d_Law_18 rfl (lv_at hl 0 rfl) ?_
  refine lv_aload_n G.1 G.2.1 d_Law_19 rfl (lv_at hl 1 rfl) ?_
  refine va_slen G.1 G.2.1 hX hbl hbA hS d_Law_20 ?_
  refine tpi (w := nI 6) rfl ?_
  refine lv_bipush (v := nI 6) G.1 G.2.1 d_Law_21 (by decide) ?_
  refine lv_isub G.1 G.2.1 d_Law_23 ?_
  refine tpi (w := nI 0) (by decide) ?_
  refine lv_icmp_gt (tgt := 1774) G.1 G.2.1 d_Law_24 (by decide) (fun c24 => ?_) (fun c24 => absurd c24 (by decide))
  refine W.eq (g2 := F0 m 1774 ls []) rfl ?_
  refine lv_iconst (v := nI 1) G.1 G.2.1 d_Law_1774 (by decide) ?_
  refine va_forget (fun q hq => hAA _ (hS.2.2 q hq)) ?_
  refine W.widen (k := 600002) (n := 7302232) (Nat.le_of_ble_eq_true rfl) (Nat.le_of_ble_eq_true rfl) ?_
  exact lw_ret G.1 G.2.1 G.2.2.2.1 G.2.2.2.2.1 d_Law_1775
theorem q1255 : Cond.code y_Cw_define b_Cw_define 4 (some .int) ∈ lw_ok := lw_okmem (List.mem_of_getElem? (i := 1255) (by decide +kernel)) rfl
theorem q1253 : Cond.instanceMethod y_Cw_define ∈ lw_ok := lw_okmem (List.mem_of_getElem? (i := 1253) (by decide +kernel)) rfl
theorem q1254 : Cond.selects y_Cw_define.cls y_Cw_define y_Cw_define ∈ lw_ok := lw_okmem (List.mem_of_getElem? (i := 1254) (by decide +kernel)) rfl
theorem w_Cw_define : CWv y_Cw_define b_Cw_define 4 (some .int) 1 ∧ Cond.instanceMethod y_Cw_define ∈ lw_ok ∧ Cond.selects y_Cw_define.cls y_Cw_define y_Cw_define ∈ lw_ok := ⟨⟨q1255, q329, by decide +kernel, by decide +kernel, by decide +kernel⟩, q1253, q1254⟩
theorem q1252 : Cond.methodLink "ClassWorksLaw" 31 y_Cw_define ∈ lw_ok := lw_okmem (List.mem_of_getElem? (i := 1252) (by decide +kernel)) rfl
theorem q3489 : Cond.code y_Mo_define b_Mo_define 3 (some .int) ∈ lw_ok := lw_okmem (List.mem_of_getElem? (i := 3489) (by decide +kernel)) rfl
theorem q3487 : Cond.instanceMethod y_Mo_define ∈ lw_ok := lw_okmem (List.mem_of_getElem? (i := 3487) (by decide +kernel)) rfl
theorem q3488 : Cond.selects y_Mo_define.cls y_Mo_define y_Mo_define ∈ lw_ok := lw_okmem (List.mem_of_getElem? (i := 3488) (by decide +kernel)) rfl
theorem w_Mo_define : CWv y_Mo_define b_Mo_define 3 (some .int) 1 ∧ Cond.instanceMethod y_Mo_define ∈ lw_ok ∧ Cond.selects y_Mo_define.cls y_Mo_define y_Mo_define ∈ lw_ok := ⟨⟨q3489, q348, by decide +kernel, by decide +kernel, by decide +kernel⟩, q3487, q3488⟩
theorem q3486 : Cond.methodLink "ClassWorksLaw" 34 y_Mo_define ∈ lw_ok := lw_okmem (List.mem_of_getElem? (i := 3486) (by decide +kernel)) rfl
theorem d_Law_356 : decode code 356 = .ok (.aload_n 1, 1) := by decide +kernel
theorem d_Law_357 : decode code 357 = .ok (.aload_n 0, 1) := by decide +kernel
theorem d_Law_358 : decode code 358 = .ok (.iload_n 3, 1) := by decide +kernel
theorem d_Law_359 : decode code 359 = .ok (.iconst 1, 1) := by decide +kernel
theorem d_Law_360 : decode code 360 = .ok (.iadd, 1) := by decide +kernel
theorem d_Law_361 : decode code 361 = .ok (.iaload, 1) := by decide +kernel
theorem d_Law_362 : decode code 362 = .ok (.invokevirtual 31, 3) := by decide +kernel
theorem d_Law_365 : decode code 365 = .ok (.aload_n 2, 1) := by decide +kernel
theorem d_Law_366 : decode code 366 = .ok (.aload_n 0, 1) := by decide +kernel
theorem d_Law_367 : decode code 367 = .ok (.iload_n 3, 1) := by decide +kernel
theorem d_Law_368 : decode code 368 = .ok (.iconst 1, 1) := by decide +kernel
theorem d_Law_369 : decode code 369 = .ok (.iadd, 1) := by decide +kernel
theorem d_Law_370 : decode code 370 = .ok (.iaload, 1) := by decide +kernel
theorem d_Law_371 : decode code 371 = .ok (.invokevirtual 34, 3) := by decide +kernel
theorem d_Law_374 : decode code 374 = .ok (.if_icmp .eq 1394, 3) := by decide +kernel
set_option maxHeartbeats 4000000 in
set_option maxRecDepth 100000 in
theorem law_define {p : Program} {e : Env} {s : State} {m : MethodId} {below : List Frame} {meth : Method} {c : Code} {l : Launch} {D : va_G} {g : Nat → ClassId} {sl : List SL} {b : Nat} {xs : Nat → Int32} {A : Nat → Prop} (h0 : Nat) (r_cwords : Nat) (r_creader : Nat) (r_cchecker : Nat) (r_cfinder : Nat) (r_cwriter : Nat) (r_cmachines : Nat) (r_ctape : Nat) (r_cstock : Nat) (r_csizes : Nat) (r_cmet : Nat) (r_cfound : Nat) (r_cdraft : Nat) (r_cfewestFor : Nat) (r_cfewestNext : Nat) (mm0 : Nat) (mm1 : Nat) (mm2 : Nat) (mm3 : Nat) (ww0 : Nat) (r_m0heap : Nat) (r_m0runs : Nat) (r_m0counts : Nat) (r_m0traceRow : Nat) (f_m0traceCount : Int32) (r_m0startedList : Nat) (f_m0startedCount : Int32) (f_m0present : Int32) (f_m0quantum : Int32) (f_m0stepsDone : Int32) (f_m0turnSteps : Int32) (f_m0turnMost : Int32) (f_m0turnOver : Int32) (r_m0finder : Nat) (r_m0names : Nat) (f_m0fault : Int32) (f_m0wanted : Int32) (f_m0thrown : Int32) (ww1 : Nat) (r_m1heap : Nat) (r_m1runs : Nat) (r_m1counts : Nat) (r_m1traceRow : Nat) (f_m1traceCount : Int32) (r_m1startedList : Nat) (f_m1startedCount : Int32) (f_m1present : Int32) (f_m1quantum : Int32) (f_m1stepsDone : Int32) (f_m1turnSteps : Int32) (f_m1turnMost : Int32) (f_m1turnOver : Int32) (r_m1finder : Nat) (r_m1names : Nat) (f_m1fault : Int32) (f_m1wanted : Int32) (f_m1thrown : Int32) (ww2 : Nat) (r_m2heap : Nat) (r_m2runs : Nat) (r_m2counts : Nat) (r_m2traceRow : Nat) (f_m2traceCount : Int32) (r_m2startedList : Nat) (f_m2startedCount : Int32) (f_m2present : Int32) (f_m2quantum : Int32) (f_m2stepsDone : Int32) (f_m2turnSteps : Int32) (f_m2turnMost : Int32) (f_m2turnOver : Int32) (r_m2finder : Nat) (r_m2names : Nat) (f_m2fault : Int32) (f_m2wanted : Int32) (f_m2thrown : Int32) (r_w0names : Nat) (f_w0wrongClass : Int32) (f_w0wrongMethod : Int32) (f_w0wrongAt : Int32) (r_w0rows : Nat) (r_w0above : Nat) (r_w0fields : Nat) (r_w0methods : Nat) (r_w0codes : Nat) (r_w0handlers : Nat) (r_w0extra : Nat) (r_w0orders : Nat) (r_w0classNamed : Nat) (f_w0breaks : Int32) (r_w0marks : Nat) (r_w1names : Nat) (f_w1wrongClass : Int32) (f_w1wrongMethod : Int32) (f_w1wrongAt : Int32) (r_w1rows : Nat) (r_w1above : Nat) (r_w1fields : Nat) (r_w1methods : Nat) (r_w1codes : Nat) (r_w1handlers : Nat) (r_w1extra : Nat) (r_w1orders : Nat) (r_w1classNamed : Nat) (f_w1breaks : Int32) (r_w1marks : Nat) (r_w2names : Nat) (f_w2wrongClass : Int32) (f_w2wrongMethod : Int32) (f_w2wrongAt : Int32) (r_w2rows : Nat) (r_w2above : Nat) (r_w2fields : Nat) (r_w2methods : Nat) (r_w2codes : Nat) (r_w2handlers : Nat) (r_w2extra : Nat) (r_w2orders : Nat) (r_w2classNamed : Nat) (f_w2breaks : Int32) (r_w2marks : Nat) (h0X : Nat) (fsX : List Value) (owX : Nat) (v0X : Nat) (v1X : Nat) (v2X : Nat) (v3X : Nat) (fw0X : List Value) (fw1X : List Value) (fw2X : List Value) (G : GV l p s m #[Value.ref b] meth c (⟨"ClassWorksLaw", meth.name, ""⟩ : MethodName) code 4 ret g D sl A) (hX : va_X b 6 xs s s.heap) (hbl : b < s.heap.size) (hbA : ¬ A b) (hAA : ∀ q, A q → s.heap.size ≤ q) {H : Heap} {locs : List Loc} {ls : Array Slot} (glenX : fsX.length = 131) (gk0X : fsX[44]? = some (.ref owX)) (gw0X : fw0X.length = 72) (gt0X : fw0X[0]? = some (.int (nI 0))) (gw1X : fw1X.length = 72) (gt1X : fw1X[0]? = some (.int (nI 0))) (gw2X : fw2X.length = 72) (gt2X : fw2X[0]? = some (.int (nI 0))) (hP : va_P D CL [(h0, .inr (11, [.ref r_cwords, .ref r_creader, .ref r_cchecker, .ref r_cfinder, .ref r_cwriter, .ref r_cmachines, .ref r_ctape, .int (nI 0), .int (-2), .int (nI 60000), .ref r_cstock, .ref r_csizes, .ref r_cmet, .ref r_cfound, .int (nI 0), .ref r_cdraft, .int (nI 0), .int (nI 0), .ref r_cfewestFor, .ref r_cfewestNext])), (r_cmachines, .inl (g 4, 4, .inr (.inr (.inr (.inr (va_up (va_up (va_up (va_up (fun _ => none) 0 (some mm0)) 1 (some mm1)) 2 (some mm2)) 3 (some mm3))))))), (mm0, .inr (4, [.ref ww0, .ref r_m0heap, .ref r_m0runs, .ref r_m0counts, .ref r_m0traceRow, .int f_m0traceCount, .ref r_m0startedList, .int f_m0startedCount, .int f_m0present, .int f_m0quantum, .int f_m0stepsDone, .int f_m0turnSteps, .int f_m0turnMost, .int f_m0turnOver, .ref r_m0finder, .ref r_m0names, .int f_m0fault, .int f_m0wanted, .int f_m0thrown])), (mm1, .inr (4, [.ref ww1, .ref r_m1heap, .ref r_m1runs, .ref r_m1counts, .ref r_m1traceRow, .int f_m1traceCount, .ref r_m1startedList, .int f_m1startedCount, .int f_m1present, .int f_m1quantum, .int f_m1stepsDone, .int f_m1turnSteps, .int f_m1turnMost, .int f_m1turnOver, .ref r_m1finder, .ref r_m1names, .int f_m1fault, .int f_m1wanted, .int f_m1thrown])), (mm2, .inr (4, [.ref ww2, .ref r_m2heap, .ref r_m2runs, .ref r_m2counts, .ref r_m2traceRow, .int f_m2traceCount, .ref r_m2startedList, .int f_m2startedCount, .int f_m2present, .int f_m2quantum, .int f_m2stepsDone, .int f_m2turnSteps, .int f_m2turnMost, .int f_m2turnOver, .ref r_m2finder, .ref r_m2names, .int f_m2fault, .int f_m2wanted, .int f_m2thrown])), (ww0, .inr (9, [.ref r_w0names, .int (nI 0), .int (nI 21), .int f_w0wrongClass, .int f_w0wrongMethod, .int f_w0wrongAt, .ref r_w0rows, .ref r_w0above, .ref r_w0fields, .ref r_w0methods, .ref r_w0codes, .ref r_w0handlers, .ref r_w0extra, .ref r_w0orders, .ref r_w0classNamed, .int f_w0breaks, .ref r_w0marks])), (ww1, .inr (9, [.ref r_w1names, .int (nI 0), .int (nI 21), .int f_w1wrongClass, .int f_w1wrongMethod, .int f_w1wrongAt, .ref r_w1rows, .ref r_w1above, .ref r_w1fields, .ref r_w1methods, .ref r_w1codes, .ref r_w1handlers, .ref r_w1extra, .ref r_w1orders, .ref r_w1classNamed, .int f_w1breaks, .ref r_w1marks])), (ww2, .inr (9, [.ref r_w2names, .int (nI 0), .int (nI 21), .int f_w2wrongClass, .int f_w2wrongMethod, .int f_w2wrongAt, .ref r_w2rows, .ref r_w2above, .ref r_w2fields, .ref r_w2methods, .ref r_w2codes, .ref r_w2handlers, .ref r_w2extra, .ref r_w2orders, .ref r_w2classNamed, .int f_w2breaks, .ref r_w2marks])), (h0X, .inr (14, fsX)), (owX, .inl (g 6, 4, .inr (.inr (.inr (.inr (va_up (va_up (va_up (va_up (fun _ => none) 0 (some v0X)) 1 (some v1X)) 2 (some v2X)) 3 (some v3X))))))), (v0X, .inr (13, fw0X)), (v1X, .inr (13, fw1X)), (v2X, .inr (13, fw2X))] H) (hD : va_D A [(h0, .inr (11, [.ref r_cwords, .ref r_creader, .ref r_cchecker, .ref r_cfinder, .ref r_cwriter, .ref r_cmachines, .ref r_ctape, .int (nI 0), .int (-2), .int (nI 60000), .ref r_cstock, .ref r_csizes, .ref r_cmet, .ref r_cfound, .int (nI 0), .ref r_cdraft, .int (nI 0), .int (nI 0), .ref r_cfewestFor, .ref r_cfewestNext])), (r_cmachines, .inl (g 4, 4, .inr (.inr (.inr (.inr (va_up (va_up (va_up (va_up (fun _ => none) 0 (some mm0)) 1 (some mm1)) 2 (some mm2)) 3 (some mm3))))))), (mm0, .inr (4, [.ref ww0, .ref r_m0heap, .ref r_m0runs, .ref r_m0counts, .ref r_m0traceRow, .int f_m0traceCount, .ref r_m0startedList, .int f_m0startedCount, .int f_m0present, .int f_m0quantum, .int f_m0stepsDone, .int f_m0turnSteps, .int f_m0turnMost, .int f_m0turnOver, .ref r_m0finder, .ref r_m0names, .int f_m0fault, .int f_m0wanted, .int f_m0thrown])), (mm1, .inr (4, [.ref ww1, .ref r_m1heap, .ref r_m1runs, .ref r_m1counts, .ref r_m1traceRow, .int f_m1traceCount, .ref r_m1startedList, .int f_m1startedCount, .int f_m1present, .int f_m1quantum, .int f_m1stepsDone, .int f_m1turnSteps, .int f_m1turnMost, .int f_m1turnOver, .ref r_m1finder, .ref r_m1names, .int f_m1fault, .int f_m1wanted, .int f_m1thrown])), (mm2, .inr (4, [.ref ww2, .ref r_m2heap, .ref r_m2runs, .ref r_m2counts, .ref r_m2traceRow, .int f_m2traceCount, .ref r_m2startedList, .int f_m2startedCount, .int f_m2present, .int f_m2quantum, .int f_m2stepsDone, .int f_m2turnSteps, .int f_m2turnMost, .int f_m2turnOver, .ref r_m2finder, .ref r_m2names, .int f_m2fault, .int f_m2wanted, .int f_m2thrown])), (ww0, .inr (9, [.ref r_w0names, .int (nI 0), .int (nI 21), .int f_w0wrongClass, .int f_w0wrongMethod, .int f_w0wrongAt, .ref r_w0rows, .ref r_w0above, .ref r_w0fields, .ref r_w0methods, .ref r_w0codes, .ref r_w0handlers, .ref r_w0extra, .ref r_w0orders, .ref r_w0classNamed, .int f_w0breaks, .ref r_w0marks])), (ww1, .inr (9, [.ref r_w1names, .int (nI 0), .int (nI 21), .int f_w1wrongClass, .int f_w1wrongMethod, .int f_w1wrongAt, .ref r_w1rows, .ref r_w1above, .ref r_w1fields, .ref r_w1methods, .ref r_w1codes, .ref r_w1handlers, .ref r_w1extra, .ref r_w1orders, .ref r_w1classNamed, .int f_w1breaks, .ref r_w1marks])), (ww2, .inr (9, [.ref r_w2names, .int (nI 0), .int (nI 21), .int f_w2wrongClass, .int f_w2wrongMethod, .int f_w2wrongAt, .ref r_w2rows, .ref r_w2above, .ref r_w2fields, .ref r_w2methods, .ref r_w2codes, .ref r_w2handlers, .ref r_w2extra, .ref r_w2orders, .ref r_w2classNamed, .int f_w2breaks, .ref r_w2marks])), (h0X, .inr (14, fsX)), (owX, .inl (g 6, 4, .inr (.inr (.inr (.inr (va_up (va_up (va_up (va_up (fun _ => none) 0 (some v0X)) 1 (some v1X)) 2 (some v2X)) 3 (some v3X))))))), (v0X, .inr (13, fw0X)), (v1X, .inr (13, fw1X)), (v2X, .inr (13, fw2X))]) (hS : va_S A s.heap H locs) (hl : lv_has ls 4 [(0, .ref b), (1, .ref h0), (2, .ref h0X), (3, .int (nI 0))]) : W p l e room_1 s m #[Value.ref b] below meth c H locs 702 488194 (lw_Z below #[Value.ref b] s) (F0 m 356 ls []) := by
  refine lv_aload_n G.1 G.2.1 d_Law_356 rfl (lv_at hl 1 rfl) ?_
  refine lv_aload_n G.1 G.2.1 d_Law_357 rfl (lv_at hl 0 rfl) ?_
  refine lv_iload_n G.1 G.2.1 d_Law_358 rfl (lv_at hl 3 rfl) ?_
  refine lv_iconst (v := nI 1) G.1 G.2.1 d_Law_359 (by decide) ?_
  refine lv_iadd G.1 G.2.1 d_Law_360 ?_
  refine tpi (w := nI 1) (by decide) ?_
  refine va_sld G.1 G.2.1 hX hbl hbA hS (nI_inn (n := 6) (a := 1) (by decide) (by decide)) d_Law_361 ?_
  refine tpi (w := (xs 1)) (by rw [nI_clamp (by decide)]) ?_
  refine kEi (wr := [(h0X, .inr (14, fsX)), (owX, .inl (g 6, 4, .inr (.inr (.inr (.inr (va_up (va_up (va_up (va_up (fun _ => none) 0 (some v0X)) 1 (some v1X)) 2 (some v2X)) 3 (some v3X))))))), (v0X, .inr (13, fw0X)), (v1X, .inr (13, fw1X)), (v2X, .inr (13, fw2X))]) G (kV (As := [.int (xs 1)]) (rest := []) G hP hD hS [0, 1, 2, 3, 4, 5, 6, 7] rfl rfl (c_Cw_define l D g h0 (xs 1) r_cwords r_creader r_cchecker r_cfinder r_cwriter r_cmachines r_ctape r_cstock r_csizes r_cmet r_cfound r_cdraft r_cfewestFor r_cfewestNext mm0 mm1 mm2 mm3 ww0 r_m0heap r_m0runs r_m0counts r_m0traceRow f_m0traceCount r_m0startedList f_m0startedCount f_m0present f_m0quantum f_m0stepsDone f_m0turnSteps f_m0turnMost f_m0turnOver r_m0finder r_m0names f_m0fault f_m0wanted f_m0thrown ww1 r_m1heap r_m1runs r_m1counts r_m1traceRow f_m1traceCount r_m1startedList f_m1startedCount f_m1present f_m1quantum f_m1stepsDone f_m1turnSteps f_m1turnMost f_m1turnOver r_m1finder r_m1names f_m1fault f_m1wanted f_m1thrown ww2 r_m2heap r_m2runs r_m2counts r_m2traceRow f_m2traceCount r_m2startedList f_m2startedCount f_m2present f_m2quantum f_m2stepsDone f_m2turnSteps f_m2turnMost f_m2turnOver r_m2finder r_m2names f_m2fault f_m2wanted f_m2thrown r_w0names f_w0wrongClass f_w0wrongMethod f_w0wrongAt r_w0rows r_w0above r_w0fields r_w0methods r_w0codes r_w0handlers r_w0extra r_w0orders r_w0classNamed f_w0breaks r_w0marks r_w1names f_w1wrongClass f_w1wrongMethod f_w1wrongAt r_w1rows r_w1above r_w1fields r_w1methods r_w1codes r_w1handlers r_w1extra r_w1orders r_w1classNamed f_w1breaks r_w1marks r_w2names f_w2wrongClass f_w2wrongMethod f_w2wrongAt r_w2rows r_w2above r_w2fields r_w2methods r_w2codes r_w2handlers r_w2extra r_w2orders r_w2classNamed f_w2breaks r_w2marks H.size ) w_Cw_define q1252 rfl rfl ⟨Nat.le_of_ble_eq_true rfl, Nat.le_of_ble_eq_true rfl⟩ (fun _ h => absurd h List.not_mem_nil) 0 (ci := 11) rfl rfl rfl hl.1 rfl (Nat.le_of_ble_eq_true rfl) rfl ⟨Nat.le_of_ble_eq_true rfl, (Nat.le_of_ble_eq_true rfl)⟩ d_Law_362) hP hD hS [0, 1, 2, 3, 4, 5, 6, 7] [8, 9, 10, 11, 12] rfl rfl rfl rfl (fun r_1 u_2 H locs hw hP hD hS hzH => ?_)
  have hw : r_1 = (-1) := hw
  have hP : va_P D CL [(h0X, .inr (14, fsX)), (owX, .inl (g 6, 4, .inr (.inr (.inr (.inr (va_up (va_up (va_up (va_up (fun _ => none) 0 (some v0X)) 1 (some v1X)) 2 (some v2X)) 3 (some v3X))))))), (v0X, .inr (13, fw0X)), (v1X, .inr (13, fw1X)), (v2X, .inr (13, fw2X))] H := hP
  have hD : va_D A [(h0X, .inr (14, fsX)), (owX, .inl (g 6, 4, .inr (.inr (.inr (.inr (va_up (va_up (va_up (va_up (fun _ => none) 0 (some v0X)) 1 (some v1X)) 2 (some v2X)) 3 (some v3X))))))), (v0X, .inr (13, fw0X)), (v1X, .inr (13, fw1X)), (v2X, .inr (13, fw2X))] := hD
  subst hw
  refine tpst (w := [.int (-1)]) rfl ?_
  refine lv_aload_n G.1 G.2.1 d_Law_365 rfl (lv_at hl 2 rfl) ?_
  refine lv_aload_n G.1 G.2.1 d_Law_366 rfl (lv_at hl 0 rfl) ?_
  refine lv_iload_n G.1 G.2.1 d_Law_367 rfl (lv_at hl 3 rfl) ?_
  refine lv_iconst (v := nI 1) G.1 G.2.1 d_Law_368 (by decide) ?_
  refine W.eq (g2 := F0 m 369 ls [.int (nI 1), .int (nI 0), .ref b, .ref h0X, .int (-1)]) rfl ?_
  refine lv_iadd G.1 G.2.1 d_Law_369 ?_
  refine tpi (w := nI 1) (by decide) ?_
  refine va_sld G.1 G.2.1 hX hbl hbA hS (nI_inn (n := 6) (a := 1) (by decide) (by decide)) d_Law_370 ?_
  refine tpi (w := (xs 1)) (by rw [nI_clamp (by decide)]) ?_
  refine kEi (wr := []) G (kV (As := [.int (xs 1)]) (rest := [.int (-1)]) G hP hD hS [0, 1, 2, 3, 4] rfl rfl (c_Mo_define l D g h0X (xs 1) fsX owX v0X v1X v2X v3X fw0X fw1X fw2X H.size glenX gk0X gw0X gt0X gw1X gt1X gw2X gt2X) w_Mo_define q3486 rfl rfl ⟨Nat.le_of_ble_eq_true rfl, Nat.le_of_ble_eq_true rfl⟩ (fun _ h => absurd h List.not_mem_nil) 0 (ci := 14) rfl rfl rfl hl.1 rfl (Nat.le_of_ble_eq_true rfl) rfl ⟨Nat.le_of_ble_eq_true rfl, (Nat.le_of_ble_eq_true rfl)⟩ d_Law_371) hP hD hS [0, 1, 2, 3, 4] [] rfl rfl rfl rfl (fun r_3 u_4 H locs hw hP hD hS hzH => ?_)
  have hw : r_3 = (-1) := hw
  have hP : va_P D CL [] H := hP
  have hD : va_D A [] := hD
  subst hw
  refine tpst (w := [.int (-1), .int (-1)]) rfl ?_
  refine lv_icmp_eq (tgt := 1768) G.1 G.2.1 d_Law_374 (by decide) (fun c374 => ?_) (fun c374 => absurd c374 (fun h => h rfl))
  refine lv_iinc (v := nI 6) (lv' := [(3, .int (nI 6)), (0, .ref b), (1, .ref h0), (2, .ref h0X)]) G.1 G.2.1 d_Law_1768 hl (k := 3) rfl (show (nI 0) + Int32.ofInt 6 = nI 6 from by decide) (by decide) rfl (fun ls hl => ?_)
  refine lv_goto (tgt := 18) G.1 G.2.1 d_Law_1771 (by decide) ?_
  refine lv_iload_n G.1 G.2.1 d_Law_18 rfl (lv_at hl 0 rfl) ?_
  refine lv_aload_n G.1 G.2.1 d_Law_19 rfl (lv_at hl 1 rfl) ?_
  refine va_slen G.1 G.2.1 hX hbl hbA hS d_Law_20 ?_
  refine tpi (w := nI 6) rfl ?_
  refine lv_bipush (v := nI 6) G.1 G.2.1 d_Law_21 (by decide) ?_
  refine lv_isub G.1 G.2.1 d_Law_23 ?_
  refine tpi (w := nI 0) (by decide) ?_
  refine lv_icmp_gt (tgt := 1774) G.1 G.2.1 d_Law_24 (by decide) (fun c24 => ?_) (fun c24 => absurd c24 (by decide))
  refine W.eq (g2 := F0 m 1774 ls []) rfl ?_
  refine lv_iconst (v := nI 1) G.1 G.2.1 d_Law_1774 (by decide) ?_
  refine va_forget (fun q hq => hAA _ (hS.2.2 q hq)) ?_
  refine W.widen (k := 600002) (n := 7302232) (Nat.le_of_ble_eq_true rfl) (Nat.le_of_ble_eq_true rfl) ?_
  exact lw_ret G.1 G.2.1 G.2.2.2.1 G.2.2.2.2.1 d_Law_1775
theorem q1472 : Cond.code y_Cw_place b_Cw_place 1 (some .int) ∈ lw_ok := lw_okmem (List.mem_of_getElem? (i := 1472) (by decide +kernel)) rfl
theorem q1470 : Cond.instanceMethod y_Cw_place ∈ lw_ok := lw_okmem (List.mem_of_getElem? (i := 1470) (by decide +kernel)) rfl
theorem q1471 : Cond.selects y_Cw_place.cls y_Cw_place y_Cw_place ∈ lw_ok := lw_okmem (List.mem_of_getElem? (i := 1471) (by decide +kernel)) rfl
theorem w_Cw_place : CWv y_Cw_place b_Cw_place 1 (some .int) 0 ∧ Cond.instanceMethod y_Cw_place ∈ lw_ok ∧ Cond.selects y_Cw_place.cls y_Cw_place y_Cw_place ∈ lw_ok := ⟨⟨q1472, q329, by decide +kernel, by decide +kernel, by decide +kernel⟩, q1470, q1471⟩
theorem q1469 : Cond.methodLink "ClassWorksLaw" 35 y_Cw_place ∈ lw_ok := lw_okmem (List.mem_of_getElem? (i := 1469) (by decide +kernel)) rfl
theorem q3652 : Cond.code y_Mo_place b_Mo_place 1 (some .int) ∈ lw_ok := lw_okmem (List.mem_of_getElem? (i := 3652) (by decide +kernel)) rfl
theorem q3650 : Cond.instanceMethod y_Mo_place ∈ lw_ok := lw_okmem (List.mem_of_getElem? (i := 3650) (by decide +kernel)) rfl
theorem q3651 : Cond.selects y_Mo_place.cls y_Mo_place y_Mo_place ∈ lw_ok := lw_okmem (List.mem_of_getElem? (i := 3651) (by decide +kernel)) rfl
theorem w_Mo_place : CWv y_Mo_place b_Mo_place 1 (some .int) 0 ∧ Cond.instanceMethod y_Mo_place ∈ lw_ok ∧ Cond.selects y_Mo_place.cls y_Mo_place y_Mo_place ∈ lw_ok := ⟨⟨q3652, q348, by decide +kernel, by decide +kernel, by decide +kernel⟩, q3650, q3651⟩
theorem q3649 : Cond.methodLink "ClassWorksLaw" 39 y_Mo_place ∈ lw_ok := lw_okmem (List.mem_of_getElem? (i := 3649) (by decide +kernel)) rfl
theorem d_Law_379 : decode code 379 = .ok (.aload_n 1, 1) := by decide +kernel
theorem d_Law_380 : decode code 380 = .ok (.invokevirtual 35, 3) := by decide +kernel
theorem d_Law_383 : decode code 383 = .ok (.aload_n 2, 1) := by decide +kernel
theorem d_Law_384 : decode code 384 = .ok (.invokevirtual 39, 3) := by decide +kernel
theorem d_Law_387 : decode code 387 = .ok (.if_icmp .eq 1381, 3) := by decide +kernel
set_option maxHeartbeats 4000000 in
set_option maxRecDepth 100000 in
theorem law_place {p : Program} {e : Env} {s : State} {m : MethodId} {below : List Frame} {meth : Method} {c : Code} {l : Launch} {D : va_G} {g : Nat → ClassId} {sl : List SL} {b : Nat} {xs : Nat → Int32} {A : Nat → Prop} (h0 : Nat) (r_cwords : Nat) (r_creader : Nat) (r_cchecker : Nat) (r_cfinder : Nat) (r_cwriter : Nat) (r_cmachines : Nat) (r_ctape : Nat) (r_cstock : Nat) (r_csizes : Nat) (r_cmet : Nat) (r_cfound : Nat) (r_cdraft : Nat) (r_cfewestFor : Nat) (r_cfewestNext : Nat) (h0X : Nat) (fsX : List Value) (G : GV l p s m #[Value.ref b] meth c (⟨"ClassWorksLaw", meth.name, ""⟩ : MethodName) code 4 ret g D sl A) (hX : va_X b 6 xs s s.heap) (hbl : b < s.heap.size) (hbA : ¬ A b) (hAA : ∀ q, A q → s.heap.size ≤ q) {H : Heap} {locs : List Loc} {ls : Array Slot} (glenX : fsX.length = 131) (gk0X : fsX[86]? = some (.int (-2))) (hP : va_P D CL [(h0, .inr (11, [.ref r_cwords, .ref r_creader, .ref r_cchecker, .ref r_cfinder, .ref r_cwriter, .ref r_cmachines, .ref r_ctape, .int (nI 0), .int (-2), .int (nI 60000), .ref r_cstock, .ref r_csizes, .ref r_cmet, .ref r_cfound, .int (nI 0), .ref r_cdraft, .int (nI 0), .int (nI 0), .ref r_cfewestFor, .ref r_cfewestNext])), (h0X, .inr (14, fsX))] H) (hD : va_D A [(h0, .inr (11, [.ref r_cwords, .ref r_creader, .ref r_cchecker, .ref r_cfinder, .ref r_cwriter, .ref r_cmachines, .ref r_ctape, .int (nI 0), .int (-2), .int (nI 60000), .ref r_cstock, .ref r_csizes, .ref r_cmet, .ref r_cfound, .int (nI 0), .ref r_cdraft, .int (nI 0), .int (nI 0), .ref r_cfewestFor, .ref r_cfewestNext])), (h0X, .inr (14, fsX))]) (hS : va_S A s.heap H locs) (hl : lv_has ls 4 [(0, .ref b), (1, .ref h0), (2, .ref h0X), (3, .int (nI 0))]) : W p l e room_1 s m #[Value.ref b] below meth c H locs 702 488194 (lw_Z below #[Value.ref b] s) (F0 m 379 ls []) := by
  refine lv_aload_n G.1 G.2.1 d_Law_379 rfl (lv_at hl 1 rfl) ?_
  refine kEi (wr := [(h0X, .inr (14, fsX))]) G (kV (As := []) (rest := []) G hP hD hS [0] rfl rfl (c_Cw_place l D g h0 r_cwords r_creader r_cchecker r_cfinder r_cwriter r_cmachines r_ctape r_cstock r_csizes r_cmet r_cfound r_cdraft r_cfewestFor r_cfewestNext H.size ) w_Cw_place q1469 rfl rfl ⟨Nat.le_of_ble_eq_true rfl, Nat.le_of_ble_eq_true rfl⟩ (fun _ h => absurd h List.not_mem_nil) 0 (ci := 11) rfl rfl rfl hl.1 rfl (Nat.le_of_ble_eq_true rfl) rfl ⟨Nat.le_of_ble_eq_true rfl, (Nat.le_of_ble_eq_true rfl)⟩ d_Law_380) hP hD hS [0] [1] rfl rfl rfl rfl (fun r_1 u_2 H locs hw hP hD hS hzH => ?_)
  have hw : r_1 = (-2) := hw
  have hP : va_P D CL [(h0X, .inr (14, fsX))] H := hP
  have hD : va_D A [(h0X, .inr (14, fsX))] := hD
  subst hw
  refine tpst (w := [.int (-2)]) rfl ?_
  refine lv_aload_n G.1 G.2.1 d_Law_383 rfl (lv_at hl 2 rfl) ?_
  refine kEi (wr := []) G (kV (As := []) (rest := [.int (-2)]) G hP hD hS [0] rfl rfl (c_Mo_place l D g h0X fsX H.size glenX gk0X) w_Mo_place q3649 rfl rfl ⟨Nat.le_of_ble_eq_true rfl, Nat.le_of_ble_eq_true rfl⟩ (fun _ h => absurd h List.not_mem_nil) 0 (ci := 14) rfl rfl rfl hl.1 rfl (Nat.le_of_ble_eq_true rfl) rfl ⟨Nat.le_of_ble_eq_true rfl, (Nat.le_of_ble_eq_true rfl)⟩ d_Law_384) hP hD hS [0] [] rfl rfl rfl rfl (fun r_3 u_4 H locs hw hP hD hS hzH => ?_)
  have hw : r_3 = (-2) := hw
  have hP : va_P D CL [] H := hP
  have hD : va_D A [] := hD
  subst hw
  refine tpst (w := [.int (-2), .int (-2)]) rfl ?_
  refine lv_icmp_eq (tgt := 1768) G.1 G.2.1 d_Law_387 (by decide) (fun c387 => ?_) (fun c387 => absurd c387 (fun h => h rfl))
  refine lv_iinc (v := nI 6) (lv' := [(3, .int (nI 6)), (0, .ref b), (1, .ref h0), (2, .ref h0X)]) G.1 G.2.1 d_Law_1768 hl (k := 3) rfl (show (nI 0) + Int32.ofInt 6 = nI 6 from by decide) (by decide) rfl (fun ls hl => ?_)
  refine lv_goto (tgt := 18) G.1 G.2.1 d_Law_1771 (by decide) ?_
  refine lv_iload_n G.1 G.2.1 d_Law_18 rfl (lv_at hl 0 rfl) ?_
  refine lv_aload_n G.1 G.2.1 d_Law_19 rfl (lv_at hl 1 rfl) ?_
  refine va_slen G.1 G.2.1 hX hbl hbA hS d_Law_20 ?_
  refine tpi (w := nI 6) rfl ?_
  refine lv_bipush (v := nI 6) G.1 G.2.1 d_Law_21 (by decide) ?_
  refine W.eq (g2 := F0 m 23 ls [.int (nI 6), .int (nI 6), .int (nI 6)]) rfl ?_
  refine lv_isub G.1 G.2.1 d_Law_23 ?_
  refine tpi (w := nI 0) (by decide) ?_
  refine lv_icmp_gt (tgt := 1774) G.1 G.2.1 d_Law_24 (by decide) (fun c24 => ?_) (fun c24 => absurd c24 (by decide))
  refine lv_iconst (v := nI 1) G.1 G.2.1 d_Law_1774 (by decide) ?_
  refine va_forget (fun q hq => hAA _ (hS.2.2 q hq)) ?_
  refine W.widen (k := 600002) (n := 7302232) (Nat.le_of_ble_eq_true rfl) (Nat.le_of_ble_eq_true rfl) ?_
  exact lw_ret G.1 G.2.1 G.2.2.2.1 G.2.2.2.2.1 d_Law_1775
theorem q1476 : Cond.code y_Cw_classes b_Cw_classes 3 (some .int) ∈ lw_ok := lw_okmem (List.mem_of_getElem? (i := 1476) (by decide +kernel)) rfl
theorem q1474 : Cond.instanceMethod y_Cw_classes ∈ lw_ok := lw_okmem (List.mem_of_getElem? (i := 1474) (by decide +kernel)) rfl
theorem q1475 : Cond.selects y_Cw_classes.cls y_Cw_classes y_Cw_classes ∈ lw_ok := lw_okmem (List.mem_of_getElem? (i := 1475) (by decide +kernel)) rfl
theorem w_Cw_classes : CWv y_Cw_classes b_Cw_classes 3 (some .int) 1 ∧ Cond.instanceMethod y_Cw_classes ∈ lw_ok ∧ Cond.selects y_Cw_classes.cls y_Cw_classes y_Cw_classes ∈ lw_ok := ⟨⟨q1476, q329, by decide +kernel, by decide +kernel, by decide +kernel⟩, q1474, q1475⟩
theorem q1473 : Cond.methodLink "ClassWorksLaw" 40 y_Cw_classes ∈ lw_ok := lw_okmem (List.mem_of_getElem? (i := 1473) (by decide +kernel)) rfl
theorem q3656 : Cond.code y_Mo_classes b_Mo_classes 2 (some .int) ∈ lw_ok := lw_okmem (List.mem_of_getElem? (i := 3656) (by decide +kernel)) rfl
theorem q3654 : Cond.instanceMethod y_Mo_classes ∈ lw_ok := lw_okmem (List.mem_of_getElem? (i := 3654) (by decide +kernel)) rfl
theorem q3655 : Cond.selects y_Mo_classes.cls y_Mo_classes y_Mo_classes ∈ lw_ok := lw_okmem (List.mem_of_getElem? (i := 3655) (by decide +kernel)) rfl
theorem w_Mo_classes : CWv y_Mo_classes b_Mo_classes 2 (some .int) 1 ∧ Cond.instanceMethod y_Mo_classes ∈ lw_ok ∧ Cond.selects y_Mo_classes.cls y_Mo_classes y_Mo_classes ∈ lw_ok := ⟨⟨q3656, q348, by decide +kernel, by decide +kernel, by decide +kernel⟩, q3654, q3655⟩
theorem q3653 : Cond.methodLink "ClassWorksLaw" 43 y_Mo_classes ∈ lw_ok := lw_okmem (List.mem_of_getElem? (i := 3653) (by decide +kernel)) rfl
theorem d_Law_392 : decode code 392 = .ok (.aload_n 1, 1) := by decide +kernel
theorem d_Law_393 : decode code 393 = .ok (.aload_n 0, 1) := by decide +kernel
theorem d_Law_394 : decode code 394 = .ok (.iload_n 3, 1) := by decide +kernel
theorem d_Law_395 : decode code 395 = .ok (.iconst 1, 1) := by decide +kernel
theorem d_Law_396 : decode code 396 = .ok (.iadd, 1) := by decide +kernel
theorem d_Law_397 : decode code 397 = .ok (.iaload, 1) := by decide +kernel
theorem d_Law_398 : decode code 398 = .ok (.invokevirtual 40, 3) := by decide +kernel
theorem d_Law_401 : decode code 401 = .ok (.aload_n 2, 1) := by decide +kernel
theorem d_Law_402 : decode code 402 = .ok (.aload_n 0, 1) := by decide +kernel
theorem d_Law_403 : decode code 403 = .ok (.iload_n 3, 1) := by decide +kernel
theorem d_Law_404 : decode code 404 = .ok (.iconst 1, 1) := by decide +kernel
theorem d_Law_405 : decode code 405 = .ok (.iadd, 1) := by decide +kernel
theorem d_Law_406 : decode code 406 = .ok (.iaload, 1) := by decide +kernel
theorem d_Law_407 : decode code 407 = .ok (.invokevirtual 43, 3) := by decide +kernel
theorem d_Law_410 : decode code 410 = .ok (.if_icmp .eq 1358, 3) := by decide +kernel
set_option maxHeartbeats 4000000 in
set_option maxRecDepth 100000 in
theorem law_classes {p : Program} {e : Env} {s : State} {m : MethodId} {below : List Frame} {meth : Method} {c : Code} {l : Launch} {D : va_G} {g : Nat → ClassId} {sl : List SL} {b : Nat} {xs : Nat → Int32} {A : Nat → Prop} (h0 : Nat) (r_cwords : Nat) (r_creader : Nat) (r_cchecker : Nat) (r_cfinder : Nat) (r_cwriter : Nat) (r_cmachines : Nat) (r_ctape : Nat) (r_cstock : Nat) (r_csizes : Nat) (r_cmet : Nat) (r_cfound : Nat) (r_cdraft : Nat) (r_cfewestFor : Nat) (r_cfewestNext : Nat) (mm0 : Nat) (mm1 : Nat) (mm2 : Nat) (mm3 : Nat) (ww0 : Nat) (r_m0heap : Nat) (r_m0runs : Nat) (r_m0counts : Nat) (r_m0traceRow : Nat) (f_m0traceCount : Int32) (r_m0startedList : Nat) (f_m0startedCount : Int32) (f_m0present : Int32) (f_m0quantum : Int32) (f_m0stepsDone : Int32) (f_m0turnSteps : Int32) (f_m0turnMost : Int32) (f_m0turnOver : Int32) (r_m0finder : Nat) (r_m0names : Nat) (f_m0fault : Int32) (f_m0wanted : Int32) (f_m0thrown : Int32) (ww1 : Nat) (r_m1heap : Nat) (r_m1runs : Nat) (r_m1counts : Nat) (r_m1traceRow : Nat) (f_m1traceCount : Int32) (r_m1startedList : Nat) (f_m1startedCount : Int32) (f_m1present : Int32) (f_m1quantum : Int32) (f_m1stepsDone : Int32) (f_m1turnSteps : Int32) (f_m1turnMost : Int32) (f_m1turnOver : Int32) (r_m1finder : Nat) (r_m1names : Nat) (f_m1fault : Int32) (f_m1wanted : Int32) (f_m1thrown : Int32) (ww2 : Nat) (r_m2heap : Nat) (r_m2runs : Nat) (r_m2counts : Nat) (r_m2traceRow : Nat) (f_m2traceCount : Int32) (r_m2startedList : Nat) (f_m2startedCount : Int32) (f_m2present : Int32) (f_m2quantum : Int32) (f_m2stepsDone : Int32) (f_m2turnSteps : Int32) (f_m2turnMost : Int32) (f_m2turnOver : Int32) (r_m2finder : Nat) (r_m2names : Nat) (f_m2fault : Int32) (f_m2wanted : Int32) (f_m2thrown : Int32) (r_w0names : Nat) (f_w0wrongClass : Int32) (f_w0wrongMethod : Int32) (f_w0wrongAt : Int32) (r_w0rows : Nat) (r_w0above : Nat) (r_w0fields : Nat) (r_w0methods : Nat) (r_w0codes : Nat) (r_w0handlers : Nat) (r_w0extra : Nat) (r_w0orders : Nat) (r_w0classNamed : Nat) (f_w0breaks : Int32) (r_w0marks : Nat) (r_w1names : Nat) (f_w1wrongClass : Int32) (f_w1wrongMethod : Int32) (f_w1wrongAt : Int32) (r_w1rows : Nat) (r_w1above : Nat) (r_w1fields : Nat) (r_w1methods : Nat) (r_w1codes : Nat) (r_w1handlers : Nat) (r_w1extra : Nat) (r_w1orders : Nat) (r_w1classNamed : Nat) (f_w1breaks : Int32) (r_w1marks : Nat) (r_w2names : Nat) (f_w2wrongClass : Int32) (f_w2wrongMethod : Int32) (f_w2wrongAt : Int32) (r_w2rows : Nat) (r_w2above : Nat) (r_w2fields : Nat) (r_w2methods : Nat) (r_w2codes : Nat) (r_w2handlers : Nat) (r_w2extra : Nat) (r_w2orders : Nat) (r_w2classNamed : Nat) (f_w2breaks : Int32) (r_w2marks : Nat) (h0X : Nat) (fsX : List Value) (owX : Nat) (v0X : Nat) (v1X : Nat) (v2X : Nat) (v3X : Nat) (fw0X : List Value) (fw1X : List Value) (fw2X : List Value) (G : GV l p s m #[Value.ref b] meth c (⟨"ClassWorksLaw", meth.name, ""⟩ : MethodName) code 4 ret g D sl A) (hX : va_X b 6 xs s s.heap) (hbl : b < s.heap.size) (hbA : ¬ A b) (hAA : ∀ q, A q → s.heap.size ≤ q) {H : Heap} {locs : List Loc} {ls : Array Slot} (glenX : fsX.length = 131) (gk0X : fsX[44]? = some (.ref owX)) (gw0X : fw0X.length = 72) (gt0X : fw0X[0]? = some (.int (nI 0))) (gw1X : fw1X.length = 72) (gt1X : fw1X[0]? = some (.int (nI 0))) (gw2X : fw2X.length = 72) (gt2X : fw2X[0]? = some (.int (nI 0))) (hP : va_P D CL [(h0, .inr (11, [.ref r_cwords, .ref r_creader, .ref r_cchecker, .ref r_cfinder, .ref r_cwriter, .ref r_cmachines, .ref r_ctape, .int (nI 0), .int (-2), .int (nI 60000), .ref r_cstock, .ref r_csizes, .ref r_cmet, .ref r_cfound, .int (nI 0), .ref r_cdraft, .int (nI 0), .int (nI 0), .ref r_cfewestFor, .ref r_cfewestNext])), (r_cmachines, .inl (g 4, 4, .inr (.inr (.inr (.inr (va_up (va_up (va_up (va_up (fun _ => none) 0 (some mm0)) 1 (some mm1)) 2 (some mm2)) 3 (some mm3))))))), (mm0, .inr (4, [.ref ww0, .ref r_m0heap, .ref r_m0runs, .ref r_m0counts, .ref r_m0traceRow, .int f_m0traceCount, .ref r_m0startedList, .int f_m0startedCount, .int f_m0present, .int f_m0quantum, .int f_m0stepsDone, .int f_m0turnSteps, .int f_m0turnMost, .int f_m0turnOver, .ref r_m0finder, .ref r_m0names, .int f_m0fault, .int f_m0wanted, .int f_m0thrown])), (mm1, .inr (4, [.ref ww1, .ref r_m1heap, .ref r_m1runs, .ref r_m1counts, .ref r_m1traceRow, .int f_m1traceCount, .ref r_m1startedList, .int f_m1startedCount, .int f_m1present, .int f_m1quantum, .int f_m1stepsDone, .int f_m1turnSteps, .int f_m1turnMost, .int f_m1turnOver, .ref r_m1finder, .ref r_m1names, .int f_m1fault, .int f_m1wanted, .int f_m1thrown])), (mm2, .inr (4, [.ref ww2, .ref r_m2heap, .ref r_m2runs, .ref r_m2counts, .ref r_m2traceRow, .int f_m2traceCount, .ref r_m2startedList, .int f_m2startedCount, .int f_m2present, .int f_m2quantum, .int f_m2stepsDone, .int f_m2turnSteps, .int f_m2turnMost, .int f_m2turnOver, .ref r_m2finder, .ref r_m2names, .int f_m2fault, .int f_m2wanted, .int f_m2thrown])), (ww0, .inr (9, [.ref r_w0names, .int (nI 0), .int (nI 21), .int f_w0wrongClass, .int f_w0wrongMethod, .int f_w0wrongAt, .ref r_w0rows, .ref r_w0above, .ref r_w0fields, .ref r_w0methods, .ref r_w0codes, .ref r_w0handlers, .ref r_w0extra, .ref r_w0orders, .ref r_w0classNamed, .int f_w0breaks, .ref r_w0marks])), (ww1, .inr (9, [.ref r_w1names, .int (nI 0), .int (nI 21), .int f_w1wrongClass, .int f_w1wrongMethod, .int f_w1wrongAt, .ref r_w1rows, .ref r_w1above, .ref r_w1fields, .ref r_w1methods, .ref r_w1codes, .ref r_w1handlers, .ref r_w1extra, .ref r_w1orders, .ref r_w1classNamed, .int f_w1breaks, .ref r_w1marks])), (ww2, .inr (9, [.ref r_w2names, .int (nI 0), .int (nI 21), .int f_w2wrongClass, .int f_w2wrongMethod, .int f_w2wrongAt, .ref r_w2rows, .ref r_w2above, .ref r_w2fields, .ref r_w2methods, .ref r_w2codes, .ref r_w2handlers, .ref r_w2extra, .ref r_w2orders, .ref r_w2classNamed, .int f_w2breaks, .ref r_w2marks])), (h0X, .inr (14, fsX)), (owX, .inl (g 6, 4, .inr (.inr (.inr (.inr (va_up (va_up (va_up (va_up (fun _ => none) 0 (some v0X)) 1 (some v1X)) 2 (some v2X)) 3 (some v3X))))))), (v0X, .inr (13, fw0X)), (v1X, .inr (13, fw1X)), (v2X, .inr (13, fw2X))] H) (hD : va_D A [(h0, .inr (11, [.ref r_cwords, .ref r_creader, .ref r_cchecker, .ref r_cfinder, .ref r_cwriter, .ref r_cmachines, .ref r_ctape, .int (nI 0), .int (-2), .int (nI 60000), .ref r_cstock, .ref r_csizes, .ref r_cmet, .ref r_cfound, .int (nI 0), .ref r_cdraft, .int (nI 0), .int (nI 0), .ref r_cfewestFor, .ref r_cfewestNext])), (r_cmachines, .inl (g 4, 4, .inr (.inr (.inr (.inr (va_up (va_up (va_up (va_up (fun _ => none) 0 (some mm0)) 1 (some mm1)) 2 (some mm2)) 3 (some mm3))))))), (mm0, .inr (4, [.ref ww0, .ref r_m0heap, .ref r_m0runs, .ref r_m0counts, .ref r_m0traceRow, .int f_m0traceCount, .ref r_m0startedList, .int f_m0startedCount, .int f_m0present, .int f_m0quantum, .int f_m0stepsDone, .int f_m0turnSteps, .int f_m0turnMost, .int f_m0turnOver, .ref r_m0finder, .ref r_m0names, .int f_m0fault, .int f_m0wanted, .int f_m0thrown])), (mm1, .inr (4, [.ref ww1, .ref r_m1heap, .ref r_m1runs, .ref r_m1counts, .ref r_m1traceRow, .int f_m1traceCount, .ref r_m1startedList, .int f_m1startedCount, .int f_m1present, .int f_m1quantum, .int f_m1stepsDone, .int f_m1turnSteps, .int f_m1turnMost, .int f_m1turnOver, .ref r_m1finder, .ref r_m1names, .int f_m1fault, .int f_m1wanted, .int f_m1thrown])), (mm2, .inr (4, [.ref ww2, .ref r_m2heap, .ref r_m2runs, .ref r_m2counts, .ref r_m2traceRow, .int f_m2traceCount, .ref r_m2startedList, .int f_m2startedCount, .int f_m2present, .int f_m2quantum, .int f_m2stepsDone, .int f_m2turnSteps, .int f_m2turnMost, .int f_m2turnOver, .ref r_m2finder, .ref r_m2names, .int f_m2fault, .int f_m2wanted, .int f_m2thrown])), (ww0, .inr (9, [.ref r_w0names, .int (nI 0), .int (nI 21), .int f_w0wrongClass, .int f_w0wrongMethod, .int f_w0wrongAt, .ref r_w0rows, .ref r_w0above, .ref r_w0fields, .ref r_w0methods, .ref r_w0codes, .ref r_w0handlers, .ref r_w0extra, .ref r_w0orders, .ref r_w0classNamed, .int f_w0breaks, .ref r_w0marks])), (ww1, .inr (9, [.ref r_w1names, .int (nI 0), .int (nI 21), .int f_w1wrongClass, .int f_w1wrongMethod, .int f_w1wrongAt, .ref r_w1rows, .ref r_w1above, .ref r_w1fields, .ref r_w1methods, .ref r_w1codes, .ref r_w1handlers, .ref r_w1extra, .ref r_w1orders, .ref r_w1classNamed, .int f_w1breaks, .ref r_w1marks])), (ww2, .inr (9, [.ref r_w2names, .int (nI 0), .int (nI 21), .int f_w2wrongClass, .int f_w2wrongMethod, .int f_w2wrongAt, .ref r_w2rows, .ref r_w2above, .ref r_w2fields, .ref r_w2methods, .ref r_w2codes, .ref r_w2handlers, .ref r_w2extra, .ref r_w2orders, .ref r_w2classNamed, .int f_w2breaks, .ref r_w2marks])), (h0X, .inr (14, fsX)), (owX, .inl (g 6, 4, .inr (.inr (.inr (.inr (va_up (va_up (va_up (va_up (fun _ => none) 0 (some v0X)) 1 (some v1X)) 2 (some v2X)) 3 (some v3X))))))), (v0X, .inr (13, fw0X)), (v1X, .inr (13, fw1X)), (v2X, .inr (13, fw2X))]) (hS : va_S A s.heap H locs) (hl : lv_has ls 4 [(0, .ref b), (1, .ref h0), (2, .ref h0X), (3, .int (nI 0))]) : W p l e room_1 s m #[Value.ref b] below meth c H locs 702 488194 (lw_Z below #[Value.ref b] s) (F0 m 392 ls []) := by
  refine lv_aload_n G.1 G.2.1 d_Law_392 rfl (lv_at hl 1 rfl) ?_
  refine lv_aload_n G.1 G.2.1 d_Law_393 rfl (lv_at hl 0 rfl) ?_
  refine lv_iload_n G.1 G.2.1 d_Law_394 rfl (lv_at hl 3 rfl) ?_
  refine lv_iconst (v := nI 1) G.1 G.2.1 d_Law_395 (by decide) ?_
  refine lv_iadd G.1 G.2.1 d_Law_396 ?_
  refine tpi (w := nI 1) (by decide) ?_
  refine va_sld G.1 G.2.1 hX hbl hbA hS (nI_inn (n := 6) (a := 1) (by decide) (by decide)) d_Law_397 ?_
  refine tpi (w := (xs 1)) (by rw [nI_clamp (by decide)]) ?_
  refine kEi (wr := [(h0X, .inr (14, fsX)), (owX, .inl (g 6, 4, .inr (.inr (.inr (.inr (va_up (va_up (va_up (va_up (fun _ => none) 0 (some v0X)) 1 (some v1X)) 2 (some v2X)) 3 (some v3X))))))), (v0X, .inr (13, fw0X)), (v1X, .inr (13, fw1X)), (v2X, .inr (13, fw2X))]) G (kV (As := [.int (xs 1)]) (rest := []) G hP hD hS [0, 1, 2, 3, 4, 5, 6, 7] rfl rfl (c_Cw_classes l D g h0 (xs 1) r_cwords r_creader r_cchecker r_cfinder r_cwriter r_cmachines r_ctape r_cstock r_csizes r_cmet r_cfound r_cdraft r_cfewestFor r_cfewestNext mm0 mm1 mm2 mm3 ww0 r_m0heap r_m0runs r_m0counts r_m0traceRow f_m0traceCount r_m0startedList f_m0startedCount f_m0present f_m0quantum f_m0stepsDone f_m0turnSteps f_m0turnMost f_m0turnOver r_m0finder r_m0names f_m0fault f_m0wanted f_m0thrown ww1 r_m1heap r_m1runs r_m1counts r_m1traceRow f_m1traceCount r_m1startedList f_m1startedCount f_m1present f_m1quantum f_m1stepsDone f_m1turnSteps f_m1turnMost f_m1turnOver r_m1finder r_m1names f_m1fault f_m1wanted f_m1thrown ww2 r_m2heap r_m2runs r_m2counts r_m2traceRow f_m2traceCount r_m2startedList f_m2startedCount f_m2present f_m2quantum f_m2stepsDone f_m2turnSteps f_m2turnMost f_m2turnOver r_m2finder r_m2names f_m2fault f_m2wanted f_m2thrown r_w0names f_w0wrongClass f_w0wrongMethod f_w0wrongAt r_w0rows r_w0above r_w0fields r_w0methods r_w0codes r_w0handlers r_w0extra r_w0orders r_w0classNamed f_w0breaks r_w0marks r_w1names f_w1wrongClass f_w1wrongMethod f_w1wrongAt r_w1rows r_w1above r_w1fields r_w1methods r_w1codes r_w1handlers r_w1extra r_w1orders r_w1classNamed f_w1breaks r_w1marks r_w2names f_w2wrongClass f_w2wrongMethod f_w2wrongAt r_w2rows r_w2above r_w2fields r_w2methods r_w2codes r_w2handlers r_w2extra r_w2orders r_w2classNamed f_w2breaks r_w2marks H.size ) w_Cw_classes q1473 rfl rfl ⟨Nat.le_of_ble_eq_true rfl, Nat.le_of_ble_eq_true rfl⟩ (fun _ h => absurd h List.not_mem_nil) 0 (ci := 11) rfl rfl rfl hl.1 rfl (Nat.le_of_ble_eq_true rfl) rfl ⟨Nat.le_of_ble_eq_true rfl, (Nat.le_of_ble_eq_true rfl)⟩ d_Law_398) hP hD hS [0, 1, 2, 3, 4, 5, 6, 7] [8, 9, 10, 11, 12] rfl rfl rfl rfl (fun r_1 u_2 H locs hw hP hD hS hzH => ?_)
  have hw : r_1 = (-1) := hw
  have hP : va_P D CL [(h0X, .inr (14, fsX)), (owX, .inl (g 6, 4, .inr (.inr (.inr (.inr (va_up (va_up (va_up (va_up (fun _ => none) 0 (some v0X)) 1 (some v1X)) 2 (some v2X)) 3 (some v3X))))))), (v0X, .inr (13, fw0X)), (v1X, .inr (13, fw1X)), (v2X, .inr (13, fw2X))] H := hP
  have hD : va_D A [(h0X, .inr (14, fsX)), (owX, .inl (g 6, 4, .inr (.inr (.inr (.inr (va_up (va_up (va_up (va_up (fun _ => none) 0 (some v0X)) 1 (some v1X)) 2 (some v2X)) 3 (some v3X))))))), (v0X, .inr (13, fw0X)), (v1X, .inr (13, fw1X)), (v2X, .inr (13, fw2X))] := hD
  subst hw
  refine tpst (w := [.int (-1)]) rfl ?_
  refine lv_aload_n G.1 G.2.1 d_Law_401 rfl (lv_at hl 2 rfl) ?_
  refine lv_aload_n G.1 G.2.1 d_Law_402 rfl (lv_at hl 0 rfl) ?_
  refine lv_iload_n G.1 G.2.1 d_Law_403 rfl (lv_at hl 3 rfl) ?_
  refine lv_iconst (v := nI 1) G.1 G.2.1 d_Law_404 (by decide) ?_
  refine W.eq (g2 := F0 m 405 ls [.int (nI 1), .int (nI 0), .ref b, .ref h0X, .int (-1)]) rfl ?_
  refine lv_iadd G.1 G.2.1 d_Law_405 ?_
  refine tpi (w := nI 1) (by decide) ?_
  refine va_sld G.1 G.2.1 hX hbl hbA hS (nI_inn (n := 6) (a := 1) (by decide) (by decide)) d_Law_406 ?_
  refine tpi (w := (xs 1)) (by rw [nI_clamp (by decide)]) ?_
  refine kEi (wr := []) G (kV (As := [.int (xs 1)]) (rest := [.int (-1)]) G hP hD hS [0, 1, 2, 3, 4] rfl rfl (c_Mo_classes l D g h0X (xs 1) fsX owX v0X v1X v2X v3X fw0X fw1X fw2X H.size glenX gk0X gw0X gt0X gw1X gt1X gw2X gt2X) w_Mo_classes q3653 rfl rfl ⟨Nat.le_of_ble_eq_true rfl, Nat.le_of_ble_eq_true rfl⟩ (fun _ h => absurd h List.not_mem_nil) 0 (ci := 14) rfl rfl rfl hl.1 rfl (Nat.le_of_ble_eq_true rfl) rfl ⟨Nat.le_of_ble_eq_true rfl, (Nat.le_of_ble_eq_true rfl)⟩ d_Law_407) hP hD hS [0, 1, 2, 3, 4] [] rfl rfl rfl rfl (fun r_3 u_4 H locs hw hP hD hS hzH => ?_)
  have hw : r_3 = (-1) := hw
  have hP : va_P D CL [] H := hP
  have hD : va_D A [] := hD
  subst hw
  refine tpst (w := [.int (-1), .int (-1)]) rfl ?_
  refine lv_icmp_eq (tgt := 1768) G.1 G.2.1 d_Law_410 (by decide) (fun c410 => ?_) (fun c410 => absurd c410 (fun h => h rfl))
  refine lv_iinc (v := nI 6) (lv' := [(3, .int (nI 6)), (0, .ref b), (1, .ref h0), (2, .ref h0X)]) G.1 G.2.1 d_Law_1768 hl (k := 3) rfl (show (nI 0) + Int32.ofInt 6 = nI 6 from by decide) (by decide) rfl (fun ls hl => ?_)
  refine lv_goto (tgt := 18) G.1 G.2.1 d_Law_1771 (by decide) ?_
  refine lv_iload_n G.1 G.2.1 d_Law_18 rfl (lv_at hl 0 rfl) ?_
  refine lv_aload_n G.1 G.2.1 d_Law_19 rfl (lv_at hl 1 rfl) ?_
  refine va_slen G.1 G.2.1 hX hbl hbA hS d_Law_20 ?_
  refine tpi (w := nI 6) rfl ?_
  refine lv_bipush (v := nI 6) G.1 G.2.1 d_Law_21 (by decide) ?_
  refine lv_isub G.1 G.2.1 d_Law_23 ?_
  refine tpi (w := nI 0) (by decide) ?_
  refine lv_icmp_gt (tgt := 1774) G.1 G.2.1 d_Law_24 (by decide) (fun c24 => ?_) (fun c24 => absurd c24 (by decide))
  refine W.eq (g2 := F0 m 1774 ls []) rfl ?_
  refine lv_iconst (v := nI 1) G.1 G.2.1 d_Law_1774 (by decide) ?_
  refine va_forget (fun q hq => hAA _ (hS.2.2 q hq)) ?_
  refine W.widen (k := 600002) (n := 7302232) (Nat.le_of_ble_eq_true rfl) (Nat.le_of_ble_eq_true rfl) ?_
  exact lw_ret G.1 G.2.1 G.2.2.2.1 G.2.2.2.2.1 d_Law_1775
theorem q1480 : Cond.code y_Cw_told b_Cw_told 5 (some .int) ∈ lw_ok := lw_okmem (List.mem_of_getElem? (i := 1480) (by decide +kernel)) rfl
theorem q1478 : Cond.instanceMethod y_Cw_told ∈ lw_ok := lw_okmem (List.mem_of_getElem? (i := 1478) (by decide +kernel)) rfl
theorem q1479 : Cond.selects y_Cw_told.cls y_Cw_told y_Cw_told ∈ lw_ok := lw_okmem (List.mem_of_getElem? (i := 1479) (by decide +kernel)) rfl
theorem w_Cw_told : CWv y_Cw_told b_Cw_told 5 (some .int) 3 ∧ Cond.instanceMethod y_Cw_told ∈ lw_ok ∧ Cond.selects y_Cw_told.cls y_Cw_told y_Cw_told ∈ lw_ok := ⟨⟨q1480, q329, by decide +kernel, by decide +kernel, by decide +kernel⟩, q1478, q1479⟩
theorem q1477 : Cond.methodLink "ClassWorksLaw" 44 y_Cw_told ∈ lw_ok := lw_okmem (List.mem_of_getElem? (i := 1477) (by decide +kernel)) rfl
theorem q3660 : Cond.code y_Mo_told b_Mo_told 4 (some .int) ∈ lw_ok := lw_okmem (List.mem_of_getElem? (i := 3660) (by decide +kernel)) rfl
theorem q3658 : Cond.instanceMethod y_Mo_told ∈ lw_ok := lw_okmem (List.mem_of_getElem? (i := 3658) (by decide +kernel)) rfl
theorem q3659 : Cond.selects y_Mo_told.cls y_Mo_told y_Mo_told ∈ lw_ok := lw_okmem (List.mem_of_getElem? (i := 3659) (by decide +kernel)) rfl
theorem w_Mo_told : CWv y_Mo_told b_Mo_told 4 (some .int) 3 ∧ Cond.instanceMethod y_Mo_told ∈ lw_ok ∧ Cond.selects y_Mo_told.cls y_Mo_told y_Mo_told ∈ lw_ok := ⟨⟨q3660, q348, by decide +kernel, by decide +kernel, by decide +kernel⟩, q3658, q3659⟩
theorem q3657 : Cond.methodLink "ClassWorksLaw" 48 y_Mo_told ∈ lw_ok := lw_okmem (List.mem_of_getElem? (i := 3657) (by decide +kernel)) rfl
theorem d_Law_415 : decode code 415 = .ok (.aload_n 1, 1) := by decide +kernel
theorem d_Law_416 : decode code 416 = .ok (.aload_n 0, 1) := by decide +kernel
theorem d_Law_417 : decode code 417 = .ok (.iload_n 3, 1) := by decide +kernel
theorem d_Law_418 : decode code 418 = .ok (.iconst 1, 1) := by decide +kernel
theorem d_Law_419 : decode code 419 = .ok (.iadd, 1) := by decide +kernel
theorem d_Law_420 : decode code 420 = .ok (.iaload, 1) := by decide +kernel
theorem d_Law_421 : decode code 421 = .ok (.aload_n 0, 1) := by decide +kernel
theorem d_Law_422 : decode code 422 = .ok (.iload_n 3, 1) := by decide +kernel
theorem d_Law_423 : decode code 423 = .ok (.iconst 2, 1) := by decide +kernel
theorem d_Law_424 : decode code 424 = .ok (.iadd, 1) := by decide +kernel
theorem d_Law_425 : decode code 425 = .ok (.iaload, 1) := by decide +kernel
theorem d_Law_426 : decode code 426 = .ok (.aload_n 0, 1) := by decide +kernel
theorem d_Law_427 : decode code 427 = .ok (.iload_n 3, 1) := by decide +kernel
theorem d_Law_428 : decode code 428 = .ok (.iconst 3, 1) := by decide +kernel
theorem d_Law_429 : decode code 429 = .ok (.iadd, 1) := by decide +kernel
theorem d_Law_430 : decode code 430 = .ok (.iaload, 1) := by decide +kernel
theorem d_Law_431 : decode code 431 = .ok (.invokevirtual 44, 3) := by decide +kernel
theorem d_Law_434 : decode code 434 = .ok (.aload_n 2, 1) := by decide +kernel
theorem d_Law_435 : decode code 435 = .ok (.aload_n 0, 1) := by decide +kernel
theorem d_Law_436 : decode code 436 = .ok (.iload_n 3, 1) := by decide +kernel
theorem d_Law_437 : decode code 437 = .ok (.iconst 1, 1) := by decide +kernel
theorem d_Law_438 : decode code 438 = .ok (.iadd, 1) := by decide +kernel
theorem d_Law_439 : decode code 439 = .ok (.iaload, 1) := by decide +kernel
theorem d_Law_440 : decode code 440 = .ok (.aload_n 0, 1) := by decide +kernel
theorem d_Law_441 : decode code 441 = .ok (.iload_n 3, 1) := by decide +kernel
theorem d_Law_442 : decode code 442 = .ok (.iconst 2, 1) := by decide +kernel
theorem d_Law_443 : decode code 443 = .ok (.iadd, 1) := by decide +kernel
theorem d_Law_444 : decode code 444 = .ok (.iaload, 1) := by decide +kernel
theorem d_Law_445 : decode code 445 = .ok (.aload_n 0, 1) := by decide +kernel
theorem d_Law_446 : decode code 446 = .ok (.iload_n 3, 1) := by decide +kernel
theorem d_Law_447 : decode code 447 = .ok (.iconst 3, 1) := by decide +kernel
theorem d_Law_448 : decode code 448 = .ok (.iadd, 1) := by decide +kernel
theorem d_Law_449 : decode code 449 = .ok (.iaload, 1) := by decide +kernel
theorem d_Law_450 : decode code 450 = .ok (.invokevirtual 48, 3) := by decide +kernel
theorem d_Law_453 : decode code 453 = .ok (.if_icmp .eq 1315, 3) := by decide +kernel
set_option maxHeartbeats 4000000 in
set_option maxRecDepth 100000 in
theorem law_told {p : Program} {e : Env} {s : State} {m : MethodId} {below : List Frame} {meth : Method} {c : Code} {l : Launch} {D : va_G} {g : Nat → ClassId} {sl : List SL} {b : Nat} {xs : Nat → Int32} {A : Nat → Prop} (h0 : Nat) (r_cwords : Nat) (r_creader : Nat) (r_cchecker : Nat) (r_cfinder : Nat) (r_cwriter : Nat) (r_cmachines : Nat) (r_ctape : Nat) (r_cstock : Nat) (r_csizes : Nat) (r_cmet : Nat) (r_cfound : Nat) (r_cdraft : Nat) (r_cfewestFor : Nat) (r_cfewestNext : Nat) (mm0 : Nat) (mm1 : Nat) (mm2 : Nat) (mm3 : Nat) (ww0 : Nat) (r_m0heap : Nat) (r_m0runs : Nat) (r_m0counts : Nat) (r_m0traceRow : Nat) (f_m0traceCount : Int32) (r_m0startedList : Nat) (f_m0startedCount : Int32) (f_m0present : Int32) (f_m0quantum : Int32) (f_m0stepsDone : Int32) (f_m0turnSteps : Int32) (f_m0turnMost : Int32) (f_m0turnOver : Int32) (r_m0finder : Nat) (r_m0names : Nat) (f_m0fault : Int32) (f_m0wanted : Int32) (f_m0thrown : Int32) (ww1 : Nat) (r_m1heap : Nat) (r_m1runs : Nat) (r_m1counts : Nat) (r_m1traceRow : Nat) (f_m1traceCount : Int32) (r_m1startedList : Nat) (f_m1startedCount : Int32) (f_m1present : Int32) (f_m1quantum : Int32) (f_m1stepsDone : Int32) (f_m1turnSteps : Int32) (f_m1turnMost : Int32) (f_m1turnOver : Int32) (r_m1finder : Nat) (r_m1names : Nat) (f_m1fault : Int32) (f_m1wanted : Int32) (f_m1thrown : Int32) (ww2 : Nat) (r_m2heap : Nat) (r_m2runs : Nat) (r_m2counts : Nat) (r_m2traceRow : Nat) (f_m2traceCount : Int32) (r_m2startedList : Nat) (f_m2startedCount : Int32) (f_m2present : Int32) (f_m2quantum : Int32) (f_m2stepsDone : Int32) (f_m2turnSteps : Int32) (f_m2turnMost : Int32) (f_m2turnOver : Int32) (r_m2finder : Nat) (r_m2names : Nat) (f_m2fault : Int32) (f_m2wanted : Int32) (f_m2thrown : Int32) (r_w0names : Nat) (f_w0wrongClass : Int32) (f_w0wrongMethod : Int32) (f_w0wrongAt : Int32) (r_w0rows : Nat) (r_w0above : Nat) (r_w0fields : Nat) (r_w0methods : Nat) (r_w0codes : Nat) (r_w0handlers : Nat) (r_w0extra : Nat) (r_w0orders : Nat) (r_w0classNamed : Nat) (f_w0breaks : Int32) (r_w0marks : Nat) (r_w1names : Nat) (f_w1wrongClass : Int32) (f_w1wrongMethod : Int32) (f_w1wrongAt : Int32) (r_w1rows : Nat) (r_w1above : Nat) (r_w1fields : Nat) (r_w1methods : Nat) (r_w1codes : Nat) (r_w1handlers : Nat) (r_w1extra : Nat) (r_w1orders : Nat) (r_w1classNamed : Nat) (f_w1breaks : Int32) (r_w1marks : Nat) (r_w2names : Nat) (f_w2wrongClass : Int32) (f_w2wrongMethod : Int32) (f_w2wrongAt : Int32) (r_w2rows : Nat) (r_w2above : Nat) (r_w2fields : Nat) (r_w2methods : Nat) (r_w2codes : Nat) (r_w2handlers : Nat) (r_w2extra : Nat) (r_w2orders : Nat) (r_w2classNamed : Nat) (f_w2breaks : Int32) (r_w2marks : Nat) (h0X : Nat) (fsX : List Value) (owX : Nat) (v0X : Nat) (v1X : Nat) (v2X : Nat) (v3X : Nat) (fw0X : List Value) (fw1X : List Value) (fw2X : List Value) (G : GV l p s m #[Value.ref b] meth c (⟨"ClassWorksLaw", meth.name, ""⟩ : MethodName) code 4 ret g D sl A) (hX : va_X b 6 xs s s.heap) (hbl : b < s.heap.size) (hbA : ¬ A b) (hAA : ∀ q, A q → s.heap.size ≤ q) {H : Heap} {locs : List Loc} {ls : Array Slot} (glenX : fsX.length = 131) (gk0X : fsX[44]? = some (.ref owX)) (gw0X : fw0X.length = 72) (gt0X : fw0X[0]? = some (.int (nI 0))) (gw1X : fw1X.length = 72) (gt1X : fw1X[0]? = some (.int (nI 0))) (gw2X : fw2X.length = 72) (gt2X : fw2X[0]? = some (.int (nI 0))) (hP : va_P D CL [(h0, .inr (11, [.ref r_cwords, .ref r_creader, .ref r_cchecker, .ref r_cfinder, .ref r_cwriter, .ref r_cmachines, .ref r_ctape, .int (nI 0), .int (-2), .int (nI 60000), .ref r_cstock, .ref r_csizes, .ref r_cmet, .ref r_cfound, .int (nI 0), .ref r_cdraft, .int (nI 0), .int (nI 0), .ref r_cfewestFor, .ref r_cfewestNext])), (r_cmachines, .inl (g 4, 4, .inr (.inr (.inr (.inr (va_up (va_up (va_up (va_up (fun _ => none) 0 (some mm0)) 1 (some mm1)) 2 (some mm2)) 3 (some mm3))))))), (mm0, .inr (4, [.ref ww0, .ref r_m0heap, .ref r_m0runs, .ref r_m0counts, .ref r_m0traceRow, .int f_m0traceCount, .ref r_m0startedList, .int f_m0startedCount, .int f_m0present, .int f_m0quantum, .int f_m0stepsDone, .int f_m0turnSteps, .int f_m0turnMost, .int f_m0turnOver, .ref r_m0finder, .ref r_m0names, .int f_m0fault, .int f_m0wanted, .int f_m0thrown])), (mm1, .inr (4, [.ref ww1, .ref r_m1heap, .ref r_m1runs, .ref r_m1counts, .ref r_m1traceRow, .int f_m1traceCount, .ref r_m1startedList, .int f_m1startedCount, .int f_m1present, .int f_m1quantum, .int f_m1stepsDone, .int f_m1turnSteps, .int f_m1turnMost, .int f_m1turnOver, .ref r_m1finder, .ref r_m1names, .int f_m1fault, .int f_m1wanted, .int f_m1thrown])), (mm2, .inr (4, [.ref ww2, .ref r_m2heap, .ref r_m2runs, .ref r_m2counts, .ref r_m2traceRow, .int f_m2traceCount, .ref r_m2startedList, .int f_m2startedCount, .int f_m2present, .int f_m2quantum, .int f_m2stepsDone, .int f_m2turnSteps, .int f_m2turnMost, .int f_m2turnOver, .ref r_m2finder, .ref r_m2names, .int f_m2fault, .int f_m2wanted, .int f_m2thrown])), (ww0, .inr (9, [.ref r_w0names, .int (nI 0), .int (nI 21), .int f_w0wrongClass, .int f_w0wrongMethod, .int f_w0wrongAt, .ref r_w0rows, .ref r_w0above, .ref r_w0fields, .ref r_w0methods, .ref r_w0codes, .ref r_w0handlers, .ref r_w0extra, .ref r_w0orders, .ref r_w0classNamed, .int f_w0breaks, .ref r_w0marks])), (ww1, .inr (9, [.ref r_w1names, .int (nI 0), .int (nI 21), .int f_w1wrongClass, .int f_w1wrongMethod, .int f_w1wrongAt, .ref r_w1rows, .ref r_w1above, .ref r_w1fields, .ref r_w1methods, .ref r_w1codes, .ref r_w1handlers, .ref r_w1extra, .ref r_w1orders, .ref r_w1classNamed, .int f_w1breaks, .ref r_w1marks])), (ww2, .inr (9, [.ref r_w2names, .int (nI 0), .int (nI 21), .int f_w2wrongClass, .int f_w2wrongMethod, .int f_w2wrongAt, .ref r_w2rows, .ref r_w2above, .ref r_w2fields, .ref r_w2methods, .ref r_w2codes, .ref r_w2handlers, .ref r_w2extra, .ref r_w2orders, .ref r_w2classNamed, .int f_w2breaks, .ref r_w2marks])), (h0X, .inr (14, fsX)), (owX, .inl (g 6, 4, .inr (.inr (.inr (.inr (va_up (va_up (va_up (va_up (fun _ => none) 0 (some v0X)) 1 (some v1X)) 2 (some v2X)) 3 (some v3X))))))), (v0X, .inr (13, fw0X)), (v1X, .inr (13, fw1X)), (v2X, .inr (13, fw2X))] H) (hD : va_D A [(h0, .inr (11, [.ref r_cwords, .ref r_creader, .ref r_cchecker, .ref r_cfinder, .ref r_cwriter, .ref r_cmachines, .ref r_ctape, .int (nI 0), .int (-2), .int (nI 60000), .ref r_cstock, .ref r_csizes, .ref r_cmet, .ref r_cfound, .int (nI 0), .ref r_cdraft, .int (nI 0), .int (nI 0), .ref r_cfewestFor, .ref r_cfewestNext])), (r_cmachines, .inl (g 4, 4, .inr (.inr (.inr (.inr (va_up (va_up (va_up (va_up (fun _ => none) 0 (some mm0)) 1 (some mm1)) 2 (some mm2)) 3 (some mm3))))))), (mm0, .inr (4, [.ref ww0, .ref r_m0heap, .ref r_m0runs, .ref r_m0counts, .ref r_m0traceRow, .int f_m0traceCount, .ref r_m0startedList, .int f_m0startedCount, .int f_m0present, .int f_m0quantum, .int f_m0stepsDone, .int f_m0turnSteps, .int f_m0turnMost, .int f_m0turnOver, .ref r_m0finder, .ref r_m0names, .int f_m0fault, .int f_m0wanted, .int f_m0thrown])), (mm1, .inr (4, [.ref ww1, .ref r_m1heap, .ref r_m1runs, .ref r_m1counts, .ref r_m1traceRow, .int f_m1traceCount, .ref r_m1startedList, .int f_m1startedCount, .int f_m1present, .int f_m1quantum, .int f_m1stepsDone, .int f_m1turnSteps, .int f_m1turnMost, .int f_m1turnOver, .ref r_m1finder, .ref r_m1names, .int f_m1fault, .int f_m1wanted, .int f_m1thrown])), (mm2, .inr (4, [.ref ww2, .ref r_m2heap, .ref r_m2runs, .ref r_m2counts, .ref r_m2traceRow, .int f_m2traceCount, .ref r_m2startedList, .int f_m2startedCount, .int f_m2present, .int f_m2quantum, .int f_m2stepsDone, .int f_m2turnSteps, .int f_m2turnMost, .int f_m2turnOver, .ref r_m2finder, .ref r_m2names, .int f_m2fault, .int f_m2wanted, .int f_m2thrown])), (ww0, .inr (9, [.ref r_w0names, .int (nI 0), .int (nI 21), .int f_w0wrongClass, .int f_w0wrongMethod, .int f_w0wrongAt, .ref r_w0rows, .ref r_w0above, .ref r_w0fields, .ref r_w0methods, .ref r_w0codes, .ref r_w0handlers, .ref r_w0extra, .ref r_w0orders, .ref r_w0classNamed, .int f_w0breaks, .ref r_w0marks])), (ww1, .inr (9, [.ref r_w1names, .int (nI 0), .int (nI 21), .int f_w1wrongClass, .int f_w1wrongMethod, .int f_w1wrongAt, .ref r_w1rows, .ref r_w1above, .ref r_w1fields, .ref r_w1methods, .ref r_w1codes, .ref r_w1handlers, .ref r_w1extra, .ref r_w1orders, .ref r_w1classNamed, .int f_w1breaks, .ref r_w1marks])), (ww2, .inr (9, [.ref r_w2names, .int (nI 0), .int (nI 21), .int f_w2wrongClass, .int f_w2wrongMethod, .int f_w2wrongAt, .ref r_w2rows, .ref r_w2above, .ref r_w2fields, .ref r_w2methods, .ref r_w2codes, .ref r_w2handlers, .ref r_w2extra, .ref r_w2orders, .ref r_w2classNamed, .int f_w2breaks, .ref r_w2marks])), (h0X, .inr (14, fsX)), (owX, .inl (g 6, 4, .inr (.inr (.inr (.inr (va_up (va_up (va_up (va_up (fun _ => none) 0 (some v0X)) 1 (some v1X)) 2 (some v2X)) 3 (some v3X))))))), (v0X, .inr (13, fw0X)), (v1X, .inr (13, fw1X)), (v2X, .inr (13, fw2X))]) (hS : va_S A s.heap H locs) (hl : lv_has ls 4 [(0, .ref b), (1, .ref h0), (2, .ref h0X), (3, .int (nI 0))]) : W p l e room_1 s m #[Value.ref b] below meth c H locs 702 488194 (lw_Z below #[Value.ref b] s) (F0 m 415 ls []) := by
  refine lv_aload_n G.1 G.2.1 d_Law_415 rfl (lv_at hl 1 rfl) ?_
  refine lv_aload_n G.1 G.2.1 d_Law_416 rfl (lv_at hl 0 rfl) ?_
  refine lv_iload_n G.1 G.2.1 d_Law_417 rfl (lv_at hl 3 rfl) ?_
  refine lv_iconst (v := nI 1) G.1 G.2.1 d_Law_418 (by decide) ?_
  refine lv_iadd G.1 G.2.1 d_Law_419 ?_
  refine tpi (w := nI 1) (by decide) ?_
  refine va_sld G.1 G.2.1 hX hbl hbA hS (nI_inn (n := 6) (a := 1) (by decide) (by decide)) d_Law_420 ?_
  refine tpi (w := (xs 1)) (by rw [nI_clamp (by decide)]) ?_
  refine lv_aload_n G.1 G.2.1 d_Law_421 rfl (lv_at hl 0 rfl) ?_
  refine lv_iload_n G.1 G.2.1 d_Law_422 rfl (lv_at hl 3 rfl) ?_
  refine lv_iconst (v := nI 2) G.1 G.2.1 d_Law_423 (by decide) ?_
  refine lv_iadd G.1 G.2.1 d_Law_424 ?_
  refine tpi (w := nI 2) (by decide) ?_
  refine va_sld G.1 G.2.1 hX hbl hbA hS (nI_inn (n := 6) (a := 2) (by decide) (by decide)) d_Law_425 ?_
  refine tpi (w := (xs 2)) (by rw [nI_clamp (by decide)]) ?_
  refine W.eq (g2 := F0 m 426 ls [.int (xs 2), .int (xs 1), .ref h0]) rfl ?_
  refine lv_aload_n G.1 G.2.1 d_Law_426 rfl (lv_at hl 0 rfl) ?_
  refine lv_iload_n G.1 G.2.1 d_Law_427 rfl (lv_at hl 3 rfl) ?_
  refine lv_iconst (v := nI 3) G.1 G.2.1 d_Law_428 (by decide) ?_
  refine lv_iadd G.1 G.2.1 d_Law_429 ?_
  refine tpi (w := nI 3) (by decide) ?_
  refine va_sld G.1 G.2.1 hX hbl hbA hS (nI_inn (n := 6) (a := 3) (by decide) (by decide)) d_Law_430 ?_
  refine tpi (w := (xs 3)) (by rw [nI_clamp (by decide)]) ?_
  refine kEi (wr := [(h0X, .inr (14, fsX)), (owX, .inl (g 6, 4, .inr (.inr (.inr (.inr (va_up (va_up (va_up (va_up (fun _ => none) 0 (some v0X)) 1 (some v1X)) 2 (some v2X)) 3 (some v3X))))))), (v0X, .inr (13, fw0X)), (v1X, .inr (13, fw1X)), (v2X, .inr (13, fw2X))]) G (kV (As := [.int (xs 1), .int (xs 2), .int (xs 3)]) (rest := []) G hP hD hS [0, 1, 2, 3, 4, 5, 6, 7] rfl rfl (c_Cw_told l D g h0 (xs 1) (xs 2) (xs 3) r_cwords r_creader r_cchecker r_cfinder r_cwriter r_cmachines r_ctape r_cstock r_csizes r_cmet r_cfound r_cdraft r_cfewestFor r_cfewestNext mm0 mm1 mm2 mm3 ww0 r_m0heap r_m0runs r_m0counts r_m0traceRow f_m0traceCount r_m0startedList f_m0startedCount f_m0present f_m0quantum f_m0stepsDone f_m0turnSteps f_m0turnMost f_m0turnOver r_m0finder r_m0names f_m0fault f_m0wanted f_m0thrown ww1 r_m1heap r_m1runs r_m1counts r_m1traceRow f_m1traceCount r_m1startedList f_m1startedCount f_m1present f_m1quantum f_m1stepsDone f_m1turnSteps f_m1turnMost f_m1turnOver r_m1finder r_m1names f_m1fault f_m1wanted f_m1thrown ww2 r_m2heap r_m2runs r_m2counts r_m2traceRow f_m2traceCount r_m2startedList f_m2startedCount f_m2present f_m2quantum f_m2stepsDone f_m2turnSteps f_m2turnMost f_m2turnOver r_m2finder r_m2names f_m2fault f_m2wanted f_m2thrown r_w0names f_w0wrongClass f_w0wrongMethod f_w0wrongAt r_w0rows r_w0above r_w0fields r_w0methods r_w0codes r_w0handlers r_w0extra r_w0orders r_w0classNamed f_w0breaks r_w0marks r_w1names f_w1wrongClass f_w1wrongMethod f_w1wrongAt r_w1rows r_w1above r_w1fields r_w1methods r_w1codes r_w1handlers r_w1extra r_w1orders r_w1classNamed f_w1breaks r_w1marks r_w2names f_w2wrongClass f_w2wrongMethod f_w2wrongAt r_w2rows r_w2above r_w2fields r_w2methods r_w2codes r_w2handlers r_w2extra r_w2orders r_w2classNamed f_w2breaks r_w2marks H.size ) w_Cw_told q1477 rfl rfl ⟨Nat.le_of_ble_eq_true rfl, Nat.le_of_ble_eq_true rfl⟩ (fun _ h => absurd h List.not_mem_nil) 0 (ci := 11) rfl rfl rfl hl.1 rfl (Nat.le_of_ble_eq_true rfl) rfl ⟨Nat.le_of_ble_eq_true rfl, (Nat.le_of_ble_eq_true rfl)⟩ d_Law_431) hP hD hS [0, 1, 2, 3, 4, 5, 6, 7] [8, 9, 10, 11, 12] rfl rfl rfl rfl (fun r_1 u_2 H locs hw hP hD hS hzH => ?_)
  have hw : r_1 = (-1) := hw
  have hP : va_P D CL [(h0X, .inr (14, fsX)), (owX, .inl (g 6, 4, .inr (.inr (.inr (.inr (va_up (va_up (va_up (va_up (fun _ => none) 0 (some v0X)) 1 (some v1X)) 2 (some v2X)) 3 (some v3X))))))), (v0X, .inr (13, fw0X)), (v1X, .inr (13, fw1X)), (v2X, .inr (13, fw2X))] H := hP
  have hD : va_D A [(h0X, .inr (14, fsX)), (owX, .inl (g 6, 4, .inr (.inr (.inr (.inr (va_up (va_up (va_up (va_up (fun _ => none) 0 (some v0X)) 1 (some v1X)) 2 (some v2X)) 3 (some v3X))))))), (v0X, .inr (13, fw0X)), (v1X, .inr (13, fw1X)), (v2X, .inr (13, fw2X))] := hD
  subst hw
  refine tpst (w := [.int (-1)]) rfl ?_
  refine lv_aload_n G.1 G.2.1 d_Law_434 rfl (lv_at hl 2 rfl) ?_
  refine lv_aload_n G.1 G.2.1 d_Law_435 rfl (lv_at hl 0 rfl) ?_
  refine lv_iload_n G.1 G.2.1 d_Law_436 rfl (lv_at hl 3 rfl) ?_
  refine lv_iconst (v := nI 1) G.1 G.2.1 d_Law_437 (by decide) ?_
  refine lv_iadd G.1 G.2.1 d_Law_438 ?_
  refine tpi (w := nI 1) (by decide) ?_
  refine va_sld G.1 G.2.1 hX hbl hbA hS (nI_inn (n := 6) (a := 1) (by decide) (by decide)) d_Law_439 ?_
  refine tpi (w := (xs 1)) (by rw [nI_clamp (by decide)]) ?_
  refine W.eq (g2 := F0 m 440 ls [.int (xs 1), .ref h0X, .int (-1)]) rfl ?_
  refine lv_aload_n G.1 G.2.1 d_Law_440 rfl (lv_at hl 0 rfl) ?_
  refine lv_iload_n G.1 G.2.1 d_Law_441 rfl (lv_at hl 3 rfl) ?_
  refine lv_iconst (v := nI 2) G.1 G.2.1 d_Law_442 (by decide) ?_
  refine lv_iadd G.1 G.2.1 d_Law_443 ?_
  refine tpi (w := nI 2) (by decide) ?_
  refine va_sld G.1 G.2.1 hX hbl hbA hS (nI_inn (n := 6) (a := 2) (by decide) (by decide)) d_Law_444 ?_
  refine tpi (w := (xs 2)) (by rw [nI_clamp (by decide)]) ?_
  refine lv_aload_n G.1 G.2.1 d_Law_445 rfl (lv_at hl 0 rfl) ?_
  refine lv_iload_n G.1 G.2.1 d_Law_446 rfl (lv_at hl 3 rfl) ?_
  refine lv_iconst (v := nI 3) G.1 G.2.1 d_Law_447 (by decide) ?_
  refine lv_iadd G.1 G.2.1 d_Law_448 ?_
  refine tpi (w := nI 3) (by decide) ?_
  refine va_sld G.1 G.2.1 hX hbl hbA hS (nI_inn (n := 6) (a := 3) (by decide) (by decide)) d_Law_449 ?_
  refine tpi (w := (xs 3)) (by rw [nI_clamp (by decide)]) ?_
  refine kEi (wr := []) G (kV (As := [.int (xs 1), .int (xs 2), .int (xs 3)]) (rest := [.int (-1)]) G hP hD hS [0, 1, 2, 3, 4] rfl rfl (c_Mo_told l D g h0X (xs 1) (xs 2) (xs 3) fsX owX v0X v1X v2X v3X fw0X fw1X fw2X H.size glenX gk0X gw0X gt0X gw1X gt1X gw2X gt2X) w_Mo_told q3657 rfl rfl ⟨Nat.le_of_ble_eq_true rfl, Nat.le_of_ble_eq_true rfl⟩ (fun _ h => absurd h List.not_mem_nil) 0 (ci := 14) rfl rfl rfl hl.1 rfl (Nat.le_of_ble_eq_true rfl) rfl ⟨Nat.le_of_ble_eq_true rfl, (Nat.le_of_ble_eq_true rfl)⟩ d_Law_450) hP hD hS [0, 1, 2, 3, 4] [] rfl rfl rfl rfl (fun r_3 u_4 H locs hw hP hD hS hzH => ?_)
  have hw : r_3 = (-1) := hw
  have hP : va_P D CL [] H := hP
  have hD : va_D A [] := hD
  subst hw
  refine tpst (w := [.int (-1), .int (-1)]) rfl ?_
  refine lv_icmp_eq (tgt := 1768) G.1 G.2.1 d_Law_453 (by decide) (fun c453 => ?_) (fun c453 => absurd c453 (fun h => h rfl))
  refine W.eq (g2 := F0 m 1768 ls []) rfl ?_
  refine lv_iinc (v := nI 6) (lv' := [(3, .int (nI 6)), (0, .ref b), (1, .ref h0), (2, .ref h0X)]) G.1 G.2.1 d_Law_1768 hl (k := 3) rfl (show (nI 0) + Int32.ofInt 6 = nI 6 from by decide) (by decide) rfl (fun ls hl => ?_)
  refine lv_goto (tgt := 18) G.1 G.2.1 d_Law_1771 (by decide) ?_
  refine lv_iload_n G.1 G.2.1 d_Law_18 rfl (lv_at hl 0 rfl) ?_
  refine lv_aload_n G.1 G.2.1 d_Law_19 rfl (lv_at hl 1 rfl) ?_
  refine va_slen G.1 G.2.1 hX hbl hbA hS d_Law_20 ?_
  refine tpi (w := nI 6) rfl ?_
  refine lv_bipush (v := nI 6) G.1 G.2.1 d_Law_21 (by decide) ?_
  refine lv_isub G.1 G.2.1 d_Law_23 ?_
  refine tpi (w := nI 0) (by decide) ?_
  refine lv_icmp_gt (tgt := 1774) G.1 G.2.1 d_Law_24 (by decide) (fun c24 => ?_) (fun c24 => absurd c24 (by decide))
  refine lv_iconst (v := nI 1) G.1 G.2.1 d_Law_1774 (by decide) ?_
  refine va_forget (fun q hq => hAA _ (hS.2.2 q hq)) ?_
  refine W.widen (k := 600002) (n := 7302232) (Nat.le_of_ble_eq_true rfl) (Nat.le_of_ble_eq_true rfl) ?_
  exact lw_ret G.1 G.2.1 G.2.2.2.1 G.2.2.2.2.1 d_Law_1775
theorem q1497 : Cond.code y_Cw_name b_Cw_name 7 (some .int) ∈ lw_ok := lw_okmem (List.mem_of_getElem? (i := 1497) (by decide +kernel)) rfl
theorem q1495 : Cond.instanceMethod y_Cw_name ∈ lw_ok := lw_okmem (List.mem_of_getElem? (i := 1495) (by decide +kernel)) rfl
theorem q1496 : Cond.selects y_Cw_name.cls y_Cw_name y_Cw_name ∈ lw_ok := lw_okmem (List.mem_of_getElem? (i := 1496) (by decide +kernel)) rfl
theorem w_Cw_name : CWv y_Cw_name b_Cw_name 7 (some .int) 5 ∧ Cond.instanceMethod y_Cw_name ∈ lw_ok ∧ Cond.selects y_Cw_name.cls y_Cw_name y_Cw_name ∈ lw_ok := ⟨⟨q1497, q329, by decide +kernel, by decide +kernel, by decide +kernel⟩, q1495, q1496⟩
theorem q1494 : Cond.methodLink "ClassWorksLaw" 49 y_Cw_name ∈ lw_ok := lw_okmem (List.mem_of_getElem? (i := 1494) (by decide +kernel)) rfl
theorem q3668 : Cond.code y_Mo_name b_Mo_name 8 (some .int) ∈ lw_ok := lw_okmem (List.mem_of_getElem? (i := 3668) (by decide +kernel)) rfl
theorem q3666 : Cond.instanceMethod y_Mo_name ∈ lw_ok := lw_okmem (List.mem_of_getElem? (i := 3666) (by decide +kernel)) rfl
theorem q3667 : Cond.selects y_Mo_name.cls y_Mo_name y_Mo_name ∈ lw_ok := lw_okmem (List.mem_of_getElem? (i := 3667) (by decide +kernel)) rfl
theorem w_Mo_name : CWv y_Mo_name b_Mo_name 8 (some .int) 5 ∧ Cond.instanceMethod y_Mo_name ∈ lw_ok ∧ Cond.selects y_Mo_name.cls y_Mo_name y_Mo_name ∈ lw_ok := ⟨⟨q3668, q348, by decide +kernel, by decide +kernel, by decide +kernel⟩, q3666, q3667⟩
theorem q3665 : Cond.methodLink "ClassWorksLaw" 52 y_Mo_name ∈ lw_ok := lw_okmem (List.mem_of_getElem? (i := 3665) (by decide +kernel)) rfl
theorem d_Law_458 : decode code 458 = .ok (.aload_n 1, 1) := by decide +kernel
theorem d_Law_459 : decode code 459 = .ok (.aload_n 0, 1) := by decide +kernel
theorem d_Law_460 : decode code 460 = .ok (.iload_n 3, 1) := by decide +kernel
theorem d_Law_461 : decode code 461 = .ok (.iconst 1, 1) := by decide +kernel
theorem d_Law_462 : decode code 462 = .ok (.iadd, 1) := by decide +kernel
theorem d_Law_463 : decode code 463 = .ok (.iaload, 1) := by decide +kernel
theorem d_Law_464 : decode code 464 = .ok (.aload_n 0, 1) := by decide +kernel
theorem d_Law_465 : decode code 465 = .ok (.iload_n 3, 1) := by decide +kernel
theorem d_Law_466 : decode code 466 = .ok (.iconst 2, 1) := by decide +kernel
theorem d_Law_467 : decode code 467 = .ok (.iadd, 1) := by decide +kernel
theorem d_Law_468 : decode code 468 = .ok (.iaload, 1) := by decide +kernel
theorem d_Law_469 : decode code 469 = .ok (.aload_n 0, 1) := by decide +kernel
theorem d_Law_470 : decode code 470 = .ok (.iload_n 3, 1) := by decide +kernel
theorem d_Law_471 : decode code 471 = .ok (.iconst 3, 1) := by decide +kernel
theorem d_Law_472 : decode code 472 = .ok (.iadd, 1) := by decide +kernel
theorem d_Law_473 : decode code 473 = .ok (.iaload, 1) := by decide +kernel
theorem d_Law_474 : decode code 474 = .ok (.aload_n 0, 1) := by decide +kernel
theorem d_Law_475 : decode code 475 = .ok (.iload_n 3, 1) := by decide +kernel
theorem d_Law_476 : decode code 476 = .ok (.iconst 4, 1) := by decide +kernel
theorem d_Law_477 : decode code 477 = .ok (.iadd, 1) := by decide +kernel
theorem d_Law_478 : decode code 478 = .ok (.iaload, 1) := by decide +kernel
theorem d_Law_479 : decode code 479 = .ok (.aload_n 0, 1) := by decide +kernel
theorem d_Law_480 : decode code 480 = .ok (.iload_n 3, 1) := by decide +kernel
theorem d_Law_481 : decode code 481 = .ok (.iconst 5, 1) := by decide +kernel
theorem d_Law_482 : decode code 482 = .ok (.iadd, 1) := by decide +kernel
theorem d_Law_483 : decode code 483 = .ok (.iaload, 1) := by decide +kernel
theorem d_Law_484 : decode code 484 = .ok (.invokevirtual 49, 3) := by decide +kernel
theorem d_Law_487 : decode code 487 = .ok (.aload_n 2, 1) := by decide +kernel
theorem d_Law_488 : decode code 488 = .ok (.aload_n 0, 1) := by decide +kernel
theorem d_Law_489 : decode code 489 = .ok (.iload_n 3, 1) := by decide +kernel
theorem d_Law_490 : decode code 490 = .ok (.iconst 1, 1) := by decide +kernel
theorem d_Law_491 : decode code 491 = .ok (.iadd, 1) := by decide +kernel
theorem d_Law_492 : decode code 492 = .ok (.iaload, 1) := by decide +kernel
theorem d_Law_493 : decode code 493 = .ok (.aload_n 0, 1) := by decide +kernel
theorem d_Law_494 : decode code 494 = .ok (.iload_n 3, 1) := by decide +kernel
theorem d_Law_495 : decode code 495 = .ok (.iconst 2, 1) := by decide +kernel
theorem d_Law_496 : decode code 496 = .ok (.iadd, 1) := by decide +kernel
theorem d_Law_497 : decode code 497 = .ok (.iaload, 1) := by decide +kernel
theorem d_Law_498 : decode code 498 = .ok (.aload_n 0, 1) := by decide +kernel
theorem d_Law_499 : decode code 499 = .ok (.iload_n 3, 1) := by decide +kernel
theorem d_Law_500 : decode code 500 = .ok (.iconst 3, 1) := by decide +kernel
theorem d_Law_501 : decode code 501 = .ok (.iadd, 1) := by decide +kernel
theorem d_Law_502 : decode code 502 = .ok (.iaload, 1) := by decide +kernel
theorem d_Law_503 : decode code 503 = .ok (.aload_n 0, 1) := by decide +kernel
theorem d_Law_504 : decode code 504 = .ok (.iload_n 3, 1) := by decide +kernel
theorem d_Law_505 : decode code 505 = .ok (.iconst 4, 1) := by decide +kernel
theorem d_Law_506 : decode code 506 = .ok (.iadd, 1) := by decide +kernel
theorem d_Law_507 : decode code 507 = .ok (.iaload, 1) := by decide +kernel
theorem d_Law_508 : decode code 508 = .ok (.aload_n 0, 1) := by decide +kernel
theorem d_Law_509 : decode code 509 = .ok (.iload_n 3, 1) := by decide +kernel
theorem d_Law_510 : decode code 510 = .ok (.iconst 5, 1) := by decide +kernel
theorem d_Law_511 : decode code 511 = .ok (.iadd, 1) := by decide +kernel
theorem d_Law_512 : decode code 512 = .ok (.iaload, 1) := by decide +kernel
theorem d_Law_513 : decode code 513 = .ok (.invokevirtual 52, 3) := by decide +kernel
theorem d_Law_516 : decode code 516 = .ok (.if_icmp .eq 1252, 3) := by decide +kernel
set_option maxHeartbeats 4000000 in
set_option maxRecDepth 100000 in
theorem law_name {p : Program} {e : Env} {s : State} {m : MethodId} {below : List Frame} {meth : Method} {c : Code} {l : Launch} {D : va_G} {g : Nat → ClassId} {sl : List SL} {b : Nat} {xs : Nat → Int32} {A : Nat → Prop} (h0 : Nat) (r_cwords : Nat) (r_creader : Nat) (r_cchecker : Nat) (r_cfinder : Nat) (r_cwriter : Nat) (r_cmachines : Nat) (r_ctape : Nat) (r_cstock : Nat) (r_csizes : Nat) (r_cmet : Nat) (r_cfound : Nat) (r_cdraft : Nat) (r_cfewestFor : Nat) (r_cfewestNext : Nat) (mm0 : Nat) (mm1 : Nat) (mm2 : Nat) (mm3 : Nat) (ww0 : Nat) (r_m0heap : Nat) (r_m0runs : Nat) (r_m0counts : Nat) (r_m0traceRow : Nat) (f_m0traceCount : Int32) (r_m0startedList : Nat) (f_m0startedCount : Int32) (f_m0present : Int32) (f_m0quantum : Int32) (f_m0stepsDone : Int32) (f_m0turnSteps : Int32) (f_m0turnMost : Int32) (f_m0turnOver : Int32) (r_m0finder : Nat) (r_m0names : Nat) (f_m0fault : Int32) (f_m0wanted : Int32) (f_m0thrown : Int32) (ww1 : Nat) (r_m1heap : Nat) (r_m1runs : Nat) (r_m1counts : Nat) (r_m1traceRow : Nat) (f_m1traceCount : Int32) (r_m1startedList : Nat) (f_m1startedCount : Int32) (f_m1present : Int32) (f_m1quantum : Int32) (f_m1stepsDone : Int32) (f_m1turnSteps : Int32) (f_m1turnMost : Int32) (f_m1turnOver : Int32) (r_m1finder : Nat) (r_m1names : Nat) (f_m1fault : Int32) (f_m1wanted : Int32) (f_m1thrown : Int32) (ww2 : Nat) (r_m2heap : Nat) (r_m2runs : Nat) (r_m2counts : Nat) (r_m2traceRow : Nat) (f_m2traceCount : Int32) (r_m2startedList : Nat) (f_m2startedCount : Int32) (f_m2present : Int32) (f_m2quantum : Int32) (f_m2stepsDone : Int32) (f_m2turnSteps : Int32) (f_m2turnMost : Int32) (f_m2turnOver : Int32) (r_m2finder : Nat) (r_m2names : Nat) (f_m2fault : Int32) (f_m2wanted : Int32) (f_m2thrown : Int32) (r_w0names : Nat) (f_w0wrongClass : Int32) (f_w0wrongMethod : Int32) (f_w0wrongAt : Int32) (r_w0rows : Nat) (r_w0above : Nat) (r_w0fields : Nat) (r_w0methods : Nat) (r_w0codes : Nat) (r_w0handlers : Nat) (r_w0extra : Nat) (r_w0orders : Nat) (r_w0classNamed : Nat) (f_w0breaks : Int32) (r_w0marks : Nat) (r_w1names : Nat) (f_w1wrongClass : Int32) (f_w1wrongMethod : Int32) (f_w1wrongAt : Int32) (r_w1rows : Nat) (r_w1above : Nat) (r_w1fields : Nat) (r_w1methods : Nat) (r_w1codes : Nat) (r_w1handlers : Nat) (r_w1extra : Nat) (r_w1orders : Nat) (r_w1classNamed : Nat) (f_w1breaks : Int32) (r_w1marks : Nat) (r_w2names : Nat) (f_w2wrongClass : Int32) (f_w2wrongMethod : Int32) (f_w2wrongAt : Int32) (r_w2rows : Nat) (r_w2above : Nat) (r_w2fields : Nat) (r_w2methods : Nat) (r_w2codes : Nat) (r_w2handlers : Nat) (r_w2extra : Nat) (r_w2orders : Nat) (r_w2classNamed : Nat) (f_w2breaks : Int32) (r_w2marks : Nat) (h0X : Nat) (fsX : List Value) (owX : Nat) (v0X : Nat) (v1X : Nat) (v2X : Nat) (v3X : Nat) (fw0X : List Value) (fw1X : List Value) (fw2X : List Value) (G : GV l p s m #[Value.ref b] meth c (⟨"ClassWorksLaw", meth.name, ""⟩ : MethodName) code 4 ret g D sl A) (hX : va_X b 6 xs s s.heap) (hbl : b < s.heap.size) (hbA : ¬ A b) (hAA : ∀ q, A q → s.heap.size ≤ q) {H : Heap} {locs : List Loc} {ls : Array Slot} (glenX : fsX.length = 131) (gk0X : fsX[44]? = some (.ref owX)) (gw0X : fw0X.length = 72) (gt0X : fw0X[0]? = some (.int (nI 0))) (gw1X : fw1X.length = 72) (gt1X : fw1X[0]? = some (.int (nI 0))) (gw2X : fw2X.length = 72) (gt2X : fw2X[0]? = some (.int (nI 0))) (hP : va_P D CL [(h0, .inr (11, [.ref r_cwords, .ref r_creader, .ref r_cchecker, .ref r_cfinder, .ref r_cwriter, .ref r_cmachines, .ref r_ctape, .int (nI 0), .int (-2), .int (nI 60000), .ref r_cstock, .ref r_csizes, .ref r_cmet, .ref r_cfound, .int (nI 0), .ref r_cdraft, .int (nI 0), .int (nI 0), .ref r_cfewestFor, .ref r_cfewestNext])), (r_cmachines, .inl (g 4, 4, .inr (.inr (.inr (.inr (va_up (va_up (va_up (va_up (fun _ => none) 0 (some mm0)) 1 (some mm1)) 2 (some mm2)) 3 (some mm3))))))), (mm0, .inr (4, [.ref ww0, .ref r_m0heap, .ref r_m0runs, .ref r_m0counts, .ref r_m0traceRow, .int f_m0traceCount, .ref r_m0startedList, .int f_m0startedCount, .int f_m0present, .int f_m0quantum, .int f_m0stepsDone, .int f_m0turnSteps, .int f_m0turnMost, .int f_m0turnOver, .ref r_m0finder, .ref r_m0names, .int f_m0fault, .int f_m0wanted, .int f_m0thrown])), (mm1, .inr (4, [.ref ww1, .ref r_m1heap, .ref r_m1runs, .ref r_m1counts, .ref r_m1traceRow, .int f_m1traceCount, .ref r_m1startedList, .int f_m1startedCount, .int f_m1present, .int f_m1quantum, .int f_m1stepsDone, .int f_m1turnSteps, .int f_m1turnMost, .int f_m1turnOver, .ref r_m1finder, .ref r_m1names, .int f_m1fault, .int f_m1wanted, .int f_m1thrown])), (mm2, .inr (4, [.ref ww2, .ref r_m2heap, .ref r_m2runs, .ref r_m2counts, .ref r_m2traceRow, .int f_m2traceCount, .ref r_m2startedList, .int f_m2startedCount, .int f_m2present, .int f_m2quantum, .int f_m2stepsDone, .int f_m2turnSteps, .int f_m2turnMost, .int f_m2turnOver, .ref r_m2finder, .ref r_m2names, .int f_m2fault, .int f_m2wanted, .int f_m2thrown])), (ww0, .inr (9, [.ref r_w0names, .int (nI 0), .int (nI 21), .int f_w0wrongClass, .int f_w0wrongMethod, .int f_w0wrongAt, .ref r_w0rows, .ref r_w0above, .ref r_w0fields, .ref r_w0methods, .ref r_w0codes, .ref r_w0handlers, .ref r_w0extra, .ref r_w0orders, .ref r_w0classNamed, .int f_w0breaks, .ref r_w0marks])), (ww1, .inr (9, [.ref r_w1names, .int (nI 0), .int (nI 21), .int f_w1wrongClass, .int f_w1wrongMethod, .int f_w1wrongAt, .ref r_w1rows, .ref r_w1above, .ref r_w1fields, .ref r_w1methods, .ref r_w1codes, .ref r_w1handlers, .ref r_w1extra, .ref r_w1orders, .ref r_w1classNamed, .int f_w1breaks, .ref r_w1marks])), (ww2, .inr (9, [.ref r_w2names, .int (nI 0), .int (nI 21), .int f_w2wrongClass, .int f_w2wrongMethod, .int f_w2wrongAt, .ref r_w2rows, .ref r_w2above, .ref r_w2fields, .ref r_w2methods, .ref r_w2codes, .ref r_w2handlers, .ref r_w2extra, .ref r_w2orders, .ref r_w2classNamed, .int f_w2breaks, .ref r_w2marks])), (h0X, .inr (14, fsX)), (owX, .inl (g 6, 4, .inr (.inr (.inr (.inr (va_up (va_up (va_up (va_up (fun _ => none) 0 (some v0X)) 1 (some v1X)) 2 (some v2X)) 3 (some v3X))))))), (v0X, .inr (13, fw0X)), (v1X, .inr (13, fw1X)), (v2X, .inr (13, fw2X))] H) (hD : va_D A [(h0, .inr (11, [.ref r_cwords, .ref r_creader, .ref r_cchecker, .ref r_cfinder, .ref r_cwriter, .ref r_cmachines, .ref r_ctape, .int (nI 0), .int (-2), .int (nI 60000), .ref r_cstock, .ref r_csizes, .ref r_cmet, .ref r_cfound, .int (nI 0), .ref r_cdraft, .int (nI 0), .int (nI 0), .ref r_cfewestFor, .ref r_cfewestNext])), (r_cmachines, .inl (g 4, 4, .inr (.inr (.inr (.inr (va_up (va_up (va_up (va_up (fun _ => none) 0 (some mm0)) 1 (some mm1)) 2 (some mm2)) 3 (some mm3))))))), (mm0, .inr (4, [.ref ww0, .ref r_m0heap, .ref r_m0runs, .ref r_m0counts, .ref r_m0traceRow, .int f_m0traceCount, .ref r_m0startedList, .int f_m0startedCount, .int f_m0present, .int f_m0quantum, .int f_m0stepsDone, .int f_m0turnSteps, .int f_m0turnMost, .int f_m0turnOver, .ref r_m0finder, .ref r_m0names, .int f_m0fault, .int f_m0wanted, .int f_m0thrown])), (mm1, .inr (4, [.ref ww1, .ref r_m1heap, .ref r_m1runs, .ref r_m1counts, .ref r_m1traceRow, .int f_m1traceCount, .ref r_m1startedList, .int f_m1startedCount, .int f_m1present, .int f_m1quantum, .int f_m1stepsDone, .int f_m1turnSteps, .int f_m1turnMost, .int f_m1turnOver, .ref r_m1finder, .ref r_m1names, .int f_m1fault, .int f_m1wanted, .int f_m1thrown])), (mm2, .inr (4, [.ref ww2, .ref r_m2heap, .ref r_m2runs, .ref r_m2counts, .ref r_m2traceRow, .int f_m2traceCount, .ref r_m2startedList, .int f_m2startedCount, .int f_m2present, .int f_m2quantum, .int f_m2stepsDone, .int f_m2turnSteps, .int f_m2turnMost, .int f_m2turnOver, .ref r_m2finder, .ref r_m2names, .int f_m2fault, .int f_m2wanted, .int f_m2thrown])), (ww0, .inr (9, [.ref r_w0names, .int (nI 0), .int (nI 21), .int f_w0wrongClass, .int f_w0wrongMethod, .int f_w0wrongAt, .ref r_w0rows, .ref r_w0above, .ref r_w0fields, .ref r_w0methods, .ref r_w0codes, .ref r_w0handlers, .ref r_w0extra, .ref r_w0orders, .ref r_w0classNamed, .int f_w0breaks, .ref r_w0marks])), (ww1, .inr (9, [.ref r_w1names, .int (nI 0), .int (nI 21), .int f_w1wrongClass, .int f_w1wrongMethod, .int f_w1wrongAt, .ref r_w1rows, .ref r_w1above, .ref r_w1fields, .ref r_w1methods, .ref r_w1codes, .ref r_w1handlers, .ref r_w1extra, .ref r_w1orders, .ref r_w1classNamed, .int f_w1breaks, .ref r_w1marks])), (ww2, .inr (9, [.ref r_w2names, .int (nI 0), .int (nI 21), .int f_w2wrongClass, .int f_w2wrongMethod, .int f_w2wrongAt, .ref r_w2rows, .ref r_w2above, .ref r_w2fields, .ref r_w2methods, .ref r_w2codes, .ref r_w2handlers, .ref r_w2extra, .ref r_w2orders, .ref r_w2classNamed, .int f_w2breaks, .ref r_w2marks])), (h0X, .inr (14, fsX)), (owX, .inl (g 6, 4, .inr (.inr (.inr (.inr (va_up (va_up (va_up (va_up (fun _ => none) 0 (some v0X)) 1 (some v1X)) 2 (some v2X)) 3 (some v3X))))))), (v0X, .inr (13, fw0X)), (v1X, .inr (13, fw1X)), (v2X, .inr (13, fw2X))]) (hS : va_S A s.heap H locs) (hl : lv_has ls 4 [(0, .ref b), (1, .ref h0), (2, .ref h0X), (3, .int (nI 0))]) : W p l e room_1 s m #[Value.ref b] below meth c H locs 702 488194 (lw_Z below #[Value.ref b] s) (F0 m 458 ls []) := by
  refine lv_aload_n G.1 G.2.1 d_Law_458 rfl (lv_at hl 1 rfl) ?_
  refine lv_aload_n G.1 G.2.1 d_Law_459 rfl (lv_at hl 0 rfl) ?_
  refine lv_iload_n G.1 G.2.1 d_Law_460 rfl (lv_at hl 3 rfl) ?_
  refine lv_iconst (v := nI 1) G.1 G.2.1 d_Law_461 (by decide) ?_
  refine lv_iadd G.1 G.2.1 d_Law_462 ?_
  refine tpi (w := nI 1) (by decide) ?_
  refine va_sld G.1 G.2.1 hX hbl hbA hS (nI_inn (n := 6) (a := 1) (by decide) (by decide)) d_Law_463 ?_
  refine tpi (w := (xs 1)) (by rw [nI_clamp (by decide)]) ?_
  refine lv_aload_n G.1 G.2.1 d_Law_464 rfl (lv_at hl 0 rfl) ?_
  refine lv_iload_n G.1 G.2.1 d_Law_465 rfl (lv_at hl 3 rfl) ?_
  refine lv_iconst (v := nI 2) G.1 G.2.1 d_Law_466 (by decide) ?_
  refine lv_iadd G.1 G.2.1 d_Law_467 ?_
  refine tpi (w := nI 2) (by decide) ?_
  refine va_sld G.1 G.2.1 hX hbl hbA hS (nI_inn (n := 6) (a := 2) (by decide) (by decide)) d_Law_468 ?_
  refine tpi (w := (xs 2)) (by rw [nI_clamp (by decide)]) ?_
  refine W.eq (g2 := F0 m 469 ls [.int (xs 2), .int (xs 1), .ref h0]) rfl ?_
  refine lv_aload_n G.1 G.2.1 d_Law_469 rfl (lv_at hl 0 rfl) ?_
  refine lv_iload_n G.1 G.2.1 d_Law_470 rfl (lv_at hl 3 rfl) ?_
  refine lv_iconst (v := nI 3) G.1 G.2.1 d_Law_471 (by decide) ?_
  refine lv_iadd G.1 G.2.1 d_Law_472 ?_
  refine tpi (w := nI 3) (by decide) ?_
  refine va_sld G.1 G.2.1 hX hbl hbA hS (nI_inn (n := 6) (a := 3) (by decide) (by decide)) d_Law_473 ?_
  refine tpi (w := (xs 3)) (by rw [nI_clamp (by decide)]) ?_
  refine lv_aload_n G.1 G.2.1 d_Law_474 rfl (lv_at hl 0 rfl) ?_
  refine lv_iload_n G.1 G.2.1 d_Law_475 rfl (lv_at hl 3 rfl) ?_
  refine lv_iconst (v := nI 4) G.1 G.2.1 d_Law_476 (by decide) ?_
  refine lv_iadd G.1 G.2.1 d_Law_477 ?_
  refine tpi (w := nI 4) (by decide) ?_
  refine va_sld G.1 G.2.1 hX hbl hbA hS (nI_inn (n := 6) (a := 4) (by decide) (by decide)) d_Law_478 ?_
  refine tpi (w := (xs 4)) (by rw [nI_clamp (by decide)]) ?_
  refine lv_aload_n G.1 G.2.1 d_Law_479 rfl (lv_at hl 0 rfl) ?_
  refine lv_iload_n G.1 G.2.1 d_Law_480 rfl (lv_at hl 3 rfl) ?_
  refine W.eq (g2 := F0 m 481 ls [.int (nI 0), .ref b, .int (xs 4), .int (xs 3), .int (xs 2), .int (xs 1), .ref h0]) rfl ?_
  refine lv_iconst (v := nI 5) G.1 G.2.1 d_Law_481 (by decide) ?_
  refine lv_iadd G.1 G.2.1 d_Law_482 ?_
  refine tpi (w := nI 5) (by decide) ?_
  refine va_sld G.1 G.2.1 hX hbl hbA hS (nI_inn (n := 6) (a := 5) (by decide) (by decide)) d_Law_483 ?_
  refine tpi (w := (xs 5)) (by rw [nI_clamp (by decide)]) ?_
  refine kEi (wr := [(h0X, .inr (14, fsX)), (owX, .inl (g 6, 4, .inr (.inr (.inr (.inr (va_up (va_up (va_up (va_up (fun _ => none) 0 (some v0X)) 1 (some v1X)) 2 (some v2X)) 3 (some v3X))))))), (v0X, .inr (13, fw0X)), (v1X, .inr (13, fw1X)), (v2X, .inr (13, fw2X))]) G (kV (As := [.int (xs 1), .int (xs 2), .int (xs 3), .int (xs 4), .int (xs 5)]) (rest := []) G hP hD hS [0, 1, 2, 3, 4, 5, 6, 7] rfl rfl (c_Cw_name l D g h0 (xs 1) (xs 2) (xs 3) (xs 4) (xs 5) r_cwords r_creader r_cchecker r_cfinder r_cwriter r_cmachines r_ctape r_cstock r_csizes r_cmet r_cfound r_cdraft r_cfewestFor r_cfewestNext mm0 mm1 mm2 mm3 ww0 r_m0heap r_m0runs r_m0counts r_m0traceRow f_m0traceCount r_m0startedList f_m0startedCount f_m0present f_m0quantum f_m0stepsDone f_m0turnSteps f_m0turnMost f_m0turnOver r_m0finder r_m0names f_m0fault f_m0wanted f_m0thrown ww1 r_m1heap r_m1runs r_m1counts r_m1traceRow f_m1traceCount r_m1startedList f_m1startedCount f_m1present f_m1quantum f_m1stepsDone f_m1turnSteps f_m1turnMost f_m1turnOver r_m1finder r_m1names f_m1fault f_m1wanted f_m1thrown ww2 r_m2heap r_m2runs r_m2counts r_m2traceRow f_m2traceCount r_m2startedList f_m2startedCount f_m2present f_m2quantum f_m2stepsDone f_m2turnSteps f_m2turnMost f_m2turnOver r_m2finder r_m2names f_m2fault f_m2wanted f_m2thrown r_w0names f_w0wrongClass f_w0wrongMethod f_w0wrongAt r_w0rows r_w0above r_w0fields r_w0methods r_w0codes r_w0handlers r_w0extra r_w0orders r_w0classNamed f_w0breaks r_w0marks r_w1names f_w1wrongClass f_w1wrongMethod f_w1wrongAt r_w1rows r_w1above r_w1fields r_w1methods r_w1codes r_w1handlers r_w1extra r_w1orders r_w1classNamed f_w1breaks r_w1marks r_w2names f_w2wrongClass f_w2wrongMethod f_w2wrongAt r_w2rows r_w2above r_w2fields r_w2methods r_w2codes r_w2handlers r_w2extra r_w2orders r_w2classNamed f_w2breaks r_w2marks H.size ) w_Cw_name q1494 rfl rfl ⟨Nat.le_of_ble_eq_true rfl, Nat.le_of_ble_eq_true rfl⟩ (fun _ h => absurd h List.not_mem_nil) 0 (ci := 11) rfl rfl rfl hl.1 rfl (Nat.le_of_ble_eq_true rfl) rfl ⟨Nat.le_of_ble_eq_true rfl, (Nat.le_of_ble_eq_true rfl)⟩ d_Law_484) hP hD hS [0, 1, 2, 3, 4, 5, 6, 7] [8, 9, 10, 11, 12] rfl rfl rfl rfl (fun r_1 u_2 H locs hw hP hD hS hzH => ?_)
  have hw : r_1 = (-1) := hw
  have hP : va_P D CL [(h0X, .inr (14, fsX)), (owX, .inl (g 6, 4, .inr (.inr (.inr (.inr (va_up (va_up (va_up (va_up (fun _ => none) 0 (some v0X)) 1 (some v1X)) 2 (some v2X)) 3 (some v3X))))))), (v0X, .inr (13, fw0X)), (v1X, .inr (13, fw1X)), (v2X, .inr (13, fw2X))] H := hP
  have hD : va_D A [(h0X, .inr (14, fsX)), (owX, .inl (g 6, 4, .inr (.inr (.inr (.inr (va_up (va_up (va_up (va_up (fun _ => none) 0 (some v0X)) 1 (some v1X)) 2 (some v2X)) 3 (some v3X))))))), (v0X, .inr (13, fw0X)), (v1X, .inr (13, fw1X)), (v2X, .inr (13, fw2X))] := hD
  subst hw
  refine tpst (w := [.int (-1)]) rfl ?_
  refine lv_aload_n G.1 G.2.1 d_Law_487 rfl (lv_at hl 2 rfl) ?_
  refine lv_aload_n G.1 G.2.1 d_Law_488 rfl (lv_at hl 0 rfl) ?_
  refine lv_iload_n G.1 G.2.1 d_Law_489 rfl (lv_at hl 3 rfl) ?_
  refine lv_iconst (v := nI 1) G.1 G.2.1 d_Law_490 (by decide) ?_
  refine lv_iadd G.1 G.2.1 d_Law_491 ?_
  refine tpi (w := nI 1) (by decide) ?_
  refine va_sld G.1 G.2.1 hX hbl hbA hS (nI_inn (n := 6) (a := 1) (by decide) (by decide)) d_Law_492 ?_
  refine tpi (w := (xs 1)) (by rw [nI_clamp (by decide)]) ?_
  refine lv_aload_n G.1 G.2.1 d_Law_493 rfl (lv_at hl 0 rfl) ?_
  refine lv_iload_n G.1 G.2.1 d_Law_494 rfl (lv_at hl 3 rfl) ?_
  refine W.eq (g2 := F0 m 495 ls [.int (nI 0), .ref b, .int (xs 1), .ref h0X, .int (-1)]) rfl ?_
  refine lv_iconst (v := nI 2) G.1 G.2.1 d_Law_495 (by decide) ?_
  refine lv_iadd G.1 G.2.1 d_Law_496 ?_
  refine tpi (w := nI 2) (by decide) ?_
  refine va_sld G.1 G.2.1 hX hbl hbA hS (nI_inn (n := 6) (a := 2) (by decide) (by decide)) d_Law_497 ?_
  refine tpi (w := (xs 2)) (by rw [nI_clamp (by decide)]) ?_
  refine lv_aload_n G.1 G.2.1 d_Law_498 rfl (lv_at hl 0 rfl) ?_
  refine lv_iload_n G.1 G.2.1 d_Law_499 rfl (lv_at hl 3 rfl) ?_
  refine lv_iconst (v := nI 3) G.1 G.2.1 d_Law_500 (by decide) ?_
  refine lv_iadd G.1 G.2.1 d_Law_501 ?_
  refine tpi (w := nI 3) (by decide) ?_
  refine va_sld G.1 G.2.1 hX hbl hbA hS (nI_inn (n := 6) (a := 3) (by decide) (by decide)) d_Law_502 ?_
  refine tpi (w := (xs 3)) (by rw [nI_clamp (by decide)]) ?_
  refine lv_aload_n G.1 G.2.1 d_Law_503 rfl (lv_at hl 0 rfl) ?_
  refine lv_iload_n G.1 G.2.1 d_Law_504 rfl (lv_at hl 3 rfl) ?_
  refine lv_iconst (v := nI 4) G.1 G.2.1 d_Law_505 (by decide) ?_
  refine lv_iadd G.1 G.2.1 d_Law_506 ?_
  refine tpi (w := nI 4) (by decide) ?_
  refine W.eq (g2 := F0 m 507 ls [.int (nI 4), .ref b, .int (xs 3), .int (xs 2), .int (xs 1), .ref h0X, .int (-1)]) rfl ?_
  refine va_sld G.1 G.2.1 hX hbl hbA hS (nI_inn (n := 6) (a := 4) (by decide) (by decide)) d_Law_507 ?_
  refine tpi (w := (xs 4)) (by rw [nI_clamp (by decide)]) ?_
  refine lv_aload_n G.1 G.2.1 d_Law_508 rfl (lv_at hl 0 rfl) ?_
  refine lv_iload_n G.1 G.2.1 d_Law_509 rfl (lv_at hl 3 rfl) ?_
  refine lv_iconst (v := nI 5) G.1 G.2.1 d_Law_510 (by decide) ?_
  refine lv_iadd G.1 G.2.1 d_Law_511 ?_
  refine tpi (w := nI 5) (by decide) ?_
  refine va_sld G.1 G.2.1 hX hbl hbA hS (nI_inn (n := 6) (a := 5) (by decide) (by decide)) d_Law_512 ?_
  refine tpi (w := (xs 5)) (by rw [nI_clamp (by decide)]) ?_
  refine kEi (wr := []) G (kV (As := [.int (xs 1), .int (xs 2), .int (xs 3), .int (xs 4), .int (xs 5)]) (rest := [.int (-1)]) G hP hD hS [0, 1, 2, 3, 4] rfl rfl (c_Mo_name l D g h0X (xs 1) (xs 2) (xs 3) (xs 4) (xs 5) fsX owX v0X v1X v2X v3X fw0X fw1X fw2X H.size glenX gk0X gw0X gt0X gw1X gt1X gw2X gt2X) w_Mo_name q3665 rfl rfl ⟨Nat.le_of_ble_eq_true rfl, Nat.le_of_ble_eq_true rfl⟩ (fun _ h => absurd h List.not_mem_nil) 0 (ci := 14) rfl rfl rfl hl.1 rfl (Nat.le_of_ble_eq_true rfl) rfl ⟨Nat.le_of_ble_eq_true rfl, (Nat.le_of_ble_eq_true rfl)⟩ d_Law_513) hP hD hS [0, 1, 2, 3, 4] [] rfl rfl rfl rfl (fun r_3 u_4 H locs hw hP hD hS hzH => ?_)
  have hw : r_3 = (-1) := hw
  have hP : va_P D CL [] H := hP
  have hD : va_D A [] := hD
  subst hw
  refine tpst (w := [.int (-1), .int (-1)]) rfl ?_
  refine lv_icmp_eq (tgt := 1768) G.1 G.2.1 d_Law_516 (by decide) (fun c516 => ?_) (fun c516 => absurd c516 (fun h => h rfl))
  refine lv_iinc (v := nI 6) (lv' := [(3, .int (nI 6)), (0, .ref b), (1, .ref h0), (2, .ref h0X)]) G.1 G.2.1 d_Law_1768 hl (k := 3) rfl (show (nI 0) + Int32.ofInt 6 = nI 6 from by decide) (by decide) rfl (fun ls hl => ?_)
  refine lv_goto (tgt := 18) G.1 G.2.1 d_Law_1771 (by decide) ?_
  refine lv_iload_n G.1 G.2.1 d_Law_18 rfl (lv_at hl 0 rfl) ?_
  refine lv_aload_n G.1 G.2.1 d_Law_19 rfl (lv_at hl 1 rfl) ?_
  refine W.eq (g2 := F0 m 20 ls [.ref b, .int (nI 6)]) rfl ?_
  refine va_slen G.1 G.2.1 hX hbl hbA hS d_Law_20 ?_
  refine tpi (w := nI 6) rfl ?_
  refine lv_bipush (v := nI 6) G.1 G.2.1 d_Law_21 (by decide) ?_
  refine lv_isub G.1 G.2.1 d_Law_23 ?_
  refine tpi (w := nI 0) (by decide) ?_
  refine lv_icmp_gt (tgt := 1774) G.1 G.2.1 d_Law_24 (by decide) (fun c24 => ?_) (fun c24 => absurd c24 (by decide))
  refine lv_iconst (v := nI 1) G.1 G.2.1 d_Law_1774 (by decide) ?_
  refine va_forget (fun q hq => hAA _ (hS.2.2 q hq)) ?_
  refine W.widen (k := 600002) (n := 7302232) (Nat.le_of_ble_eq_true rfl) (Nat.le_of_ble_eq_true rfl) ?_
  exact lw_ret G.1 G.2.1 G.2.2.2.1 G.2.2.2.2.1 d_Law_1775
theorem q1521 : Cond.code y_Cw_member b_Cw_member 6 (some .int) ∈ lw_ok := lw_okmem (List.mem_of_getElem? (i := 1521) (by decide +kernel)) rfl
theorem q1519 : Cond.instanceMethod y_Cw_member ∈ lw_ok := lw_okmem (List.mem_of_getElem? (i := 1519) (by decide +kernel)) rfl
theorem q1520 : Cond.selects y_Cw_member.cls y_Cw_member y_Cw_member ∈ lw_ok := lw_okmem (List.mem_of_getElem? (i := 1520) (by decide +kernel)) rfl
theorem w_Cw_member : CWv y_Cw_member b_Cw_member 6 (some .int) 4 ∧ Cond.instanceMethod y_Cw_member ∈ lw_ok ∧ Cond.selects y_Cw_member.cls y_Cw_member y_Cw_member ∈ lw_ok := ⟨⟨q1521, q329, by decide +kernel, by decide +kernel, by decide +kernel⟩, q1519, q1520⟩
theorem q1518 : Cond.methodLink "ClassWorksLaw" 53 y_Cw_member ∈ lw_ok := lw_okmem (List.mem_of_getElem? (i := 1518) (by decide +kernel)) rfl
theorem q3672 : Cond.code y_Mo_member b_Mo_member 8 (some .int) ∈ lw_ok := lw_okmem (List.mem_of_getElem? (i := 3672) (by decide +kernel)) rfl
theorem q3670 : Cond.instanceMethod y_Mo_member ∈ lw_ok := lw_okmem (List.mem_of_getElem? (i := 3670) (by decide +kernel)) rfl
theorem q3671 : Cond.selects y_Mo_member.cls y_Mo_member y_Mo_member ∈ lw_ok := lw_okmem (List.mem_of_getElem? (i := 3671) (by decide +kernel)) rfl
theorem w_Mo_member : CWv y_Mo_member b_Mo_member 8 (some .int) 4 ∧ Cond.instanceMethod y_Mo_member ∈ lw_ok ∧ Cond.selects y_Mo_member.cls y_Mo_member y_Mo_member ∈ lw_ok := ⟨⟨q3672, q348, by decide +kernel, by decide +kernel, by decide +kernel⟩, q3670, q3671⟩
theorem q3669 : Cond.methodLink "ClassWorksLaw" 57 y_Mo_member ∈ lw_ok := lw_okmem (List.mem_of_getElem? (i := 3669) (by decide +kernel)) rfl
theorem d_Law_521 : decode code 521 = .ok (.aload_n 1, 1) := by decide +kernel
theorem d_Law_522 : decode code 522 = .ok (.aload_n 0, 1) := by decide +kernel
theorem d_Law_523 : decode code 523 = .ok (.iload_n 3, 1) := by decide +kernel
theorem d_Law_524 : decode code 524 = .ok (.iconst 1, 1) := by decide +kernel
theorem d_Law_525 : decode code 525 = .ok (.iadd, 1) := by decide +kernel
theorem d_Law_526 : decode code 526 = .ok (.iaload, 1) := by decide +kernel
theorem d_Law_527 : decode code 527 = .ok (.aload_n 0, 1) := by decide +kernel
theorem d_Law_528 : decode code 528 = .ok (.iload_n 3, 1) := by decide +kernel
theorem d_Law_529 : decode code 529 = .ok (.iconst 2, 1) := by decide +kernel
theorem d_Law_530 : decode code 530 = .ok (.iadd, 1) := by decide +kernel
theorem d_Law_531 : decode code 531 = .ok (.iaload, 1) := by decide +kernel
theorem d_Law_532 : decode code 532 = .ok (.aload_n 0, 1) := by decide +kernel
theorem d_Law_533 : decode code 533 = .ok (.iload_n 3, 1) := by decide +kernel
theorem d_Law_534 : decode code 534 = .ok (.iconst 3, 1) := by decide +kernel
theorem d_Law_535 : decode code 535 = .ok (.iadd, 1) := by decide +kernel
theorem d_Law_536 : decode code 536 = .ok (.iaload, 1) := by decide +kernel
theorem d_Law_537 : decode code 537 = .ok (.aload_n 0, 1) := by decide +kernel
theorem d_Law_538 : decode code 538 = .ok (.iload_n 3, 1) := by decide +kernel
theorem d_Law_539 : decode code 539 = .ok (.iconst 4, 1) := by decide +kernel
theorem d_Law_540 : decode code 540 = .ok (.iadd, 1) := by decide +kernel
theorem d_Law_541 : decode code 541 = .ok (.iaload, 1) := by decide +kernel
theorem d_Law_542 : decode code 542 = .ok (.invokevirtual 53, 3) := by decide +kernel
theorem d_Law_545 : decode code 545 = .ok (.aload_n 2, 1) := by decide +kernel
theorem d_Law_546 : decode code 546 = .ok (.aload_n 0, 1) := by decide +kernel
theorem d_Law_547 : decode code 547 = .ok (.iload_n 3, 1) := by decide +kernel
theorem d_Law_548 : decode code 548 = .ok (.iconst 1, 1) := by decide +kernel
theorem d_Law_549 : decode code 549 = .ok (.iadd, 1) := by decide +kernel
theorem d_Law_550 : decode code 550 = .ok (.iaload, 1) := by decide +kernel
theorem d_Law_551 : decode code 551 = .ok (.aload_n 0, 1) := by decide +kernel
theorem d_Law_552 : decode code 552 = .ok (.iload_n 3, 1) := by decide +kernel
theorem d_Law_553 : decode code 553 = .ok (.iconst 2, 1) := by decide +kernel
theorem d_Law_554 : decode code 554 = .ok (.iadd, 1) := by decide +kernel
theorem d_Law_555 : decode code 555 = .ok (.iaload, 1) := by decide +kernel
theorem d_Law_556 : decode code 556 = .ok (.aload_n 0, 1) := by decide +kernel
theorem d_Law_557 : decode code 557 = .ok (.iload_n 3, 1) := by decide +kernel
theorem d_Law_558 : decode code 558 = .ok (.iconst 3, 1) := by decide +kernel
theorem d_Law_559 : decode code 559 = .ok (.iadd, 1) := by decide +kernel
theorem d_Law_560 : decode code 560 = .ok (.iaload, 1) := by decide +kernel
theorem d_Law_561 : decode code 561 = .ok (.aload_n 0, 1) := by decide +kernel
theorem d_Law_562 : decode code 562 = .ok (.iload_n 3, 1) := by decide +kernel
theorem d_Law_563 : decode code 563 = .ok (.iconst 4, 1) := by decide +kernel
theorem d_Law_564 : decode code 564 = .ok (.iadd, 1) := by decide +kernel
theorem d_Law_565 : decode code 565 = .ok (.iaload, 1) := by decide +kernel
theorem d_Law_566 : decode code 566 = .ok (.invokevirtual 57, 3) := by decide +kernel
theorem d_Law_569 : decode code 569 = .ok (.if_icmp .eq 1199, 3) := by decide +kernel
set_option maxHeartbeats 4000000 in
set_option maxRecDepth 100000 in
theorem law_member {p : Program} {e : Env} {s : State} {m : MethodId} {below : List Frame} {meth : Method} {c : Code} {l : Launch} {D : va_G} {g : Nat → ClassId} {sl : List SL} {b : Nat} {xs : Nat → Int32} {A : Nat → Prop} (h0 : Nat) (r_cwords : Nat) (r_creader : Nat) (r_cchecker : Nat) (r_cfinder : Nat) (r_cwriter : Nat) (r_cmachines : Nat) (r_ctape : Nat) (r_cstock : Nat) (r_csizes : Nat) (r_cmet : Nat) (r_cfound : Nat) (r_cdraft : Nat) (r_cfewestFor : Nat) (r_cfewestNext : Nat) (mm0 : Nat) (mm1 : Nat) (mm2 : Nat) (mm3 : Nat) (ww0 : Nat) (r_m0heap : Nat) (r_m0runs : Nat) (r_m0counts : Nat) (r_m0traceRow : Nat) (f_m0traceCount : Int32) (r_m0startedList : Nat) (f_m0startedCount : Int32) (f_m0present : Int32) (f_m0quantum : Int32) (f_m0stepsDone : Int32) (f_m0turnSteps : Int32) (f_m0turnMost : Int32) (f_m0turnOver : Int32) (r_m0finder : Nat) (r_m0names : Nat) (f_m0fault : Int32) (f_m0wanted : Int32) (f_m0thrown : Int32) (ww1 : Nat) (r_m1heap : Nat) (r_m1runs : Nat) (r_m1counts : Nat) (r_m1traceRow : Nat) (f_m1traceCount : Int32) (r_m1startedList : Nat) (f_m1startedCount : Int32) (f_m1present : Int32) (f_m1quantum : Int32) (f_m1stepsDone : Int32) (f_m1turnSteps : Int32) (f_m1turnMost : Int32) (f_m1turnOver : Int32) (r_m1finder : Nat) (r_m1names : Nat) (f_m1fault : Int32) (f_m1wanted : Int32) (f_m1thrown : Int32) (ww2 : Nat) (r_m2heap : Nat) (r_m2runs : Nat) (r_m2counts : Nat) (r_m2traceRow : Nat) (f_m2traceCount : Int32) (r_m2startedList : Nat) (f_m2startedCount : Int32) (f_m2present : Int32) (f_m2quantum : Int32) (f_m2stepsDone : Int32) (f_m2turnSteps : Int32) (f_m2turnMost : Int32) (f_m2turnOver : Int32) (r_m2finder : Nat) (r_m2names : Nat) (f_m2fault : Int32) (f_m2wanted : Int32) (f_m2thrown : Int32) (r_w0names : Nat) (f_w0wrongClass : Int32) (f_w0wrongMethod : Int32) (f_w0wrongAt : Int32) (r_w0rows : Nat) (r_w0above : Nat) (r_w0fields : Nat) (r_w0methods : Nat) (r_w0codes : Nat) (r_w0handlers : Nat) (r_w0extra : Nat) (r_w0orders : Nat) (r_w0classNamed : Nat) (f_w0breaks : Int32) (r_w0marks : Nat) (r_w1names : Nat) (f_w1wrongClass : Int32) (f_w1wrongMethod : Int32) (f_w1wrongAt : Int32) (r_w1rows : Nat) (r_w1above : Nat) (r_w1fields : Nat) (r_w1methods : Nat) (r_w1codes : Nat) (r_w1handlers : Nat) (r_w1extra : Nat) (r_w1orders : Nat) (r_w1classNamed : Nat) (f_w1breaks : Int32) (r_w1marks : Nat) (r_w2names : Nat) (f_w2wrongClass : Int32) (f_w2wrongMethod : Int32) (f_w2wrongAt : Int32) (r_w2rows : Nat) (r_w2above : Nat) (r_w2fields : Nat) (r_w2methods : Nat) (r_w2codes : Nat) (r_w2handlers : Nat) (r_w2extra : Nat) (r_w2orders : Nat) (r_w2classNamed : Nat) (f_w2breaks : Int32) (r_w2marks : Nat) (h0X : Nat) (fsX : List Value) (owX : Nat) (v0X : Nat) (v1X : Nat) (v2X : Nat) (v3X : Nat) (fw0X : List Value) (fw1X : List Value) (fw2X : List Value) (G : GV l p s m #[Value.ref b] meth c (⟨"ClassWorksLaw", meth.name, ""⟩ : MethodName) code 4 ret g D sl A) (hX : va_X b 6 xs s s.heap) (hbl : b < s.heap.size) (hbA : ¬ A b) (hAA : ∀ q, A q → s.heap.size ≤ q) {H : Heap} {locs : List Loc} {ls : Array Slot} (glenX : fsX.length = 131) (gk0X : fsX[44]? = some (.ref owX)) (gw0X : fw0X.length = 72) (gt0X : fw0X[0]? = some (.int (nI 0))) (gw1X : fw1X.length = 72) (gt1X : fw1X[0]? = some (.int (nI 0))) (gw2X : fw2X.length = 72) (gt2X : fw2X[0]? = some (.int (nI 0))) (hP : va_P D CL [(h0, .inr (11, [.ref r_cwords, .ref r_creader, .ref r_cchecker, .ref r_cfinder, .ref r_cwriter, .ref r_cmachines, .ref r_ctape, .int (nI 0), .int (-2), .int (nI 60000), .ref r_cstock, .ref r_csizes, .ref r_cmet, .ref r_cfound, .int (nI 0), .ref r_cdraft, .int (nI 0), .int (nI 0), .ref r_cfewestFor, .ref r_cfewestNext])), (r_cmachines, .inl (g 4, 4, .inr (.inr (.inr (.inr (va_up (va_up (va_up (va_up (fun _ => none) 0 (some mm0)) 1 (some mm1)) 2 (some mm2)) 3 (some mm3))))))), (mm0, .inr (4, [.ref ww0, .ref r_m0heap, .ref r_m0runs, .ref r_m0counts, .ref r_m0traceRow, .int f_m0traceCount, .ref r_m0startedList, .int f_m0startedCount, .int f_m0present, .int f_m0quantum, .int f_m0stepsDone, .int f_m0turnSteps, .int f_m0turnMost, .int f_m0turnOver, .ref r_m0finder, .ref r_m0names, .int f_m0fault, .int f_m0wanted, .int f_m0thrown])), (mm1, .inr (4, [.ref ww1, .ref r_m1heap, .ref r_m1runs, .ref r_m1counts, .ref r_m1traceRow, .int f_m1traceCount, .ref r_m1startedList, .int f_m1startedCount, .int f_m1present, .int f_m1quantum, .int f_m1stepsDone, .int f_m1turnSteps, .int f_m1turnMost, .int f_m1turnOver, .ref r_m1finder, .ref r_m1names, .int f_m1fault, .int f_m1wanted, .int f_m1thrown])), (mm2, .inr (4, [.ref ww2, .ref r_m2heap, .ref r_m2runs, .ref r_m2counts, .ref r_m2traceRow, .int f_m2traceCount, .ref r_m2startedList, .int f_m2startedCount, .int f_m2present, .int f_m2quantum, .int f_m2stepsDone, .int f_m2turnSteps, .int f_m2turnMost, .int f_m2turnOver, .ref r_m2finder, .ref r_m2names, .int f_m2fault, .int f_m2wanted, .int f_m2thrown])), (ww0, .inr (9, [.ref r_w0names, .int (nI 0), .int (nI 21), .int f_w0wrongClass, .int f_w0wrongMethod, .int f_w0wrongAt, .ref r_w0rows, .ref r_w0above, .ref r_w0fields, .ref r_w0methods, .ref r_w0codes, .ref r_w0handlers, .ref r_w0extra, .ref r_w0orders, .ref r_w0classNamed, .int f_w0breaks, .ref r_w0marks])), (ww1, .inr (9, [.ref r_w1names, .int (nI 0), .int (nI 21), .int f_w1wrongClass, .int f_w1wrongMethod, .int f_w1wrongAt, .ref r_w1rows, .ref r_w1above, .ref r_w1fields, .ref r_w1methods, .ref r_w1codes, .ref r_w1handlers, .ref r_w1extra, .ref r_w1orders, .ref r_w1classNamed, .int f_w1breaks, .ref r_w1marks])), (ww2, .inr (9, [.ref r_w2names, .int (nI 0), .int (nI 21), .int f_w2wrongClass, .int f_w2wrongMethod, .int f_w2wrongAt, .ref r_w2rows, .ref r_w2above, .ref r_w2fields, .ref r_w2methods, .ref r_w2codes, .ref r_w2handlers, .ref r_w2extra, .ref r_w2orders, .ref r_w2classNamed, .int f_w2breaks, .ref r_w2marks])), (h0X, .inr (14, fsX)), (owX, .inl (g 6, 4, .inr (.inr (.inr (.inr (va_up (va_up (va_up (va_up (fun _ => none) 0 (some v0X)) 1 (some v1X)) 2 (some v2X)) 3 (some v3X))))))), (v0X, .inr (13, fw0X)), (v1X, .inr (13, fw1X)), (v2X, .inr (13, fw2X))] H) (hD : va_D A [(h0, .inr (11, [.ref r_cwords, .ref r_creader, .ref r_cchecker, .ref r_cfinder, .ref r_cwriter, .ref r_cmachines, .ref r_ctape, .int (nI 0), .int (-2), .int (nI 60000), .ref r_cstock, .ref r_csizes, .ref r_cmet, .ref r_cfound, .int (nI 0), .ref r_cdraft, .int (nI 0), .int (nI 0), .ref r_cfewestFor, .ref r_cfewestNext])), (r_cmachines, .inl (g 4, 4, .inr (.inr (.inr (.inr (va_up (va_up (va_up (va_up (fun _ => none) 0 (some mm0)) 1 (some mm1)) 2 (some mm2)) 3 (some mm3))))))), (mm0, .inr (4, [.ref ww0, .ref r_m0heap, .ref r_m0runs, .ref r_m0counts, .ref r_m0traceRow, .int f_m0traceCount, .ref r_m0startedList, .int f_m0startedCount, .int f_m0present, .int f_m0quantum, .int f_m0stepsDone, .int f_m0turnSteps, .int f_m0turnMost, .int f_m0turnOver, .ref r_m0finder, .ref r_m0names, .int f_m0fault, .int f_m0wanted, .int f_m0thrown])), (mm1, .inr (4, [.ref ww1, .ref r_m1heap, .ref r_m1runs, .ref r_m1counts, .ref r_m1traceRow, .int f_m1traceCount, .ref r_m1startedList, .int f_m1startedCount, .int f_m1present, .int f_m1quantum, .int f_m1stepsDone, .int f_m1turnSteps, .int f_m1turnMost, .int f_m1turnOver, .ref r_m1finder, .ref r_m1names, .int f_m1fault, .int f_m1wanted, .int f_m1thrown])), (mm2, .inr (4, [.ref ww2, .ref r_m2heap, .ref r_m2runs, .ref r_m2counts, .ref r_m2traceRow, .int f_m2traceCount, .ref r_m2startedList, .int f_m2startedCount, .int f_m2present, .int f_m2quantum, .int f_m2stepsDone, .int f_m2turnSteps, .int f_m2turnMost, .int f_m2turnOver, .ref r_m2finder, .ref r_m2names, .int f_m2fault, .int f_m2wanted, .int f_m2thrown])), (ww0, .inr (9, [.ref r_w0names, .int (nI 0), .int (nI 21), .int f_w0wrongClass, .int f_w0wrongMethod, .int f_w0wrongAt, .ref r_w0rows, .ref r_w0above, .ref r_w0fields, .ref r_w0methods, .ref r_w0codes, .ref r_w0handlers, .ref r_w0extra, .ref r_w0orders, .ref r_w0classNamed, .int f_w0breaks, .ref r_w0marks])), (ww1, .inr (9, [.ref r_w1names, .int (nI 0), .int (nI 21), .int f_w1wrongClass, .int f_w1wrongMethod, .int f_w1wrongAt, .ref r_w1rows, .ref r_w1above, .ref r_w1fields, .ref r_w1methods, .ref r_w1codes, .ref r_w1handlers, .ref r_w1extra, .ref r_w1orders, .ref r_w1classNamed, .int f_w1breaks, .ref r_w1marks])), (ww2, .inr (9, [.ref r_w2names, .int (nI 0), .int (nI 21), .int f_w2wrongClass, .int f_w2wrongMethod, .int f_w2wrongAt, .ref r_w2rows, .ref r_w2above, .ref r_w2fields, .ref r_w2methods, .ref r_w2codes, .ref r_w2handlers, .ref r_w2extra, .ref r_w2orders, .ref r_w2classNamed, .int f_w2breaks, .ref r_w2marks])), (h0X, .inr (14, fsX)), (owX, .inl (g 6, 4, .inr (.inr (.inr (.inr (va_up (va_up (va_up (va_up (fun _ => none) 0 (some v0X)) 1 (some v1X)) 2 (some v2X)) 3 (some v3X))))))), (v0X, .inr (13, fw0X)), (v1X, .inr (13, fw1X)), (v2X, .inr (13, fw2X))]) (hS : va_S A s.heap H locs) (hl : lv_has ls 4 [(0, .ref b), (1, .ref h0), (2, .ref h0X), (3, .int (nI 0))]) : W p l e room_1 s m #[Value.ref b] below meth c H locs 702 488194 (lw_Z below #[Value.ref b] s) (F0 m 521 ls []) := by
  refine lv_aload_n G.1 G.2.1 d_Law_521 rfl (lv_at hl 1 rfl) ?_
  refine lv_aload_n G.1 G.2.1 d_Law_522 rfl (lv_at hl 0 rfl) ?_
  refine lv_iload_n G.1 G.2.1 d_Law_523 rfl (lv_at hl 3 rfl) ?_
  refine lv_iconst (v := nI 1) G.1 G.2.1 d_Law_524 (by decide) ?_
  refine lv_iadd G.1 G.2.1 d_Law_525 ?_
  refine tpi (w := nI 1) (by decide) ?_
  refine va_sld G.1 G.2.1 hX hbl hbA hS (nI_inn (n := 6) (a := 1) (by decide) (by decide)) d_Law_526 ?_
  refine tpi (w := (xs 1)) (by rw [nI_clamp (by decide)]) ?_
  refine lv_aload_n G.1 G.2.1 d_Law_527 rfl (lv_at hl 0 rfl) ?_
  refine lv_iload_n G.1 G.2.1 d_Law_528 rfl (lv_at hl 3 rfl) ?_
  refine lv_iconst (v := nI 2) G.1 G.2.1 d_Law_529 (by decide) ?_
  refine lv_iadd G.1 G.2.1 d_Law_530 ?_
  refine tpi (w := nI 2) (by decide) ?_
  refine va_sld G.1 G.2.1 hX hbl hbA hS (nI_inn (n := 6) (a := 2) (by decide) (by decide)) d_Law_531 ?_
  refine tpi (w := (xs 2)) (by rw [nI_clamp (by decide)]) ?_
  refine W.eq (g2 := F0 m 532 ls [.int (xs 2), .int (xs 1), .ref h0]) rfl ?_
  refine lv_aload_n G.1 G.2.1 d_Law_532 rfl (lv_at hl 0 rfl) ?_
  refine lv_iload_n G.1 G.2.1 d_Law_533 rfl (lv_at hl 3 rfl) ?_
  refine lv_iconst (v := nI 3) G.1 G.2.1 d_Law_534 (by decide) ?_
  refine lv_iadd G.1 G.2.1 d_Law_535 ?_
  refine tpi (w := nI 3) (by decide) ?_
  refine va_sld G.1 G.2.1 hX hbl hbA hS (nI_inn (n := 6) (a := 3) (by decide) (by decide)) d_Law_536 ?_
  refine tpi (w := (xs 3)) (by rw [nI_clamp (by decide)]) ?_
  refine lv_aload_n G.1 G.2.1 d_Law_537 rfl (lv_at hl 0 rfl) ?_
  refine lv_iload_n G.1 G.2.1 d_Law_538 rfl (lv_at hl 3 rfl) ?_
  refine lv_iconst (v := nI 4) G.1 G.2.1 d_Law_539 (by decide) ?_
  refine lv_iadd G.1 G.2.1 d_Law_540 ?_
  refine tpi (w := nI 4) (by decide) ?_
  refine va_sld G.1 G.2.1 hX hbl hbA hS (nI_inn (n := 6) (a := 4) (by decide) (by decide)) d_Law_541 ?_
  refine tpi (w := (xs 4)) (by rw [nI_clamp (by decide)]) ?_
  refine kEi (wr := [(h0X, .inr (14, fsX)), (owX, .inl (g 6, 4, .inr (.inr (.inr (.inr (va_up (va_up (va_up (va_up (fun _ => none) 0 (some v0X)) 1 (some v1X)) 2 (some v2X)) 3 (some v3X))))))), (v0X, .inr (13, fw0X)), (v1X, .inr (13, fw1X)), (v2X, .inr (13, fw2X))]) G (kV (As := [.int (xs 1), .int (xs 2), .int (xs 3), .int (xs 4)]) (rest := []) G hP hD hS [0, 1, 2, 3, 4, 5, 6, 7] rfl rfl (c_Cw_member l D g h0 (xs 1) (xs 2) (xs 3) (xs 4) r_cwords r_creader r_cchecker r_cfinder r_cwriter r_cmachines r_ctape r_cstock r_csizes r_cmet r_cfound r_cdraft r_cfewestFor r_cfewestNext mm0 mm1 mm2 mm3 ww0 r_m0heap r_m0runs r_m0counts r_m0traceRow f_m0traceCount r_m0startedList f_m0startedCount f_m0present f_m0quantum f_m0stepsDone f_m0turnSteps f_m0turnMost f_m0turnOver r_m0finder r_m0names f_m0fault f_m0wanted f_m0thrown ww1 r_m1heap r_m1runs r_m1counts r_m1traceRow f_m1traceCount r_m1startedList f_m1startedCount f_m1present f_m1quantum f_m1stepsDone f_m1turnSteps f_m1turnMost f_m1turnOver r_m1finder r_m1names f_m1fault f_m1wanted f_m1thrown ww2 r_m2heap r_m2runs r_m2counts r_m2traceRow f_m2traceCount r_m2startedList f_m2startedCount f_m2present f_m2quantum f_m2stepsDone f_m2turnSteps f_m2turnMost f_m2turnOver r_m2finder r_m2names f_m2fault f_m2wanted f_m2thrown r_w0names f_w0wrongClass f_w0wrongMethod f_w0wrongAt r_w0rows r_w0above r_w0fields r_w0methods r_w0codes r_w0handlers r_w0extra r_w0orders r_w0classNamed f_w0breaks r_w0marks r_w1names f_w1wrongClass f_w1wrongMethod f_w1wrongAt r_w1rows r_w1above r_w1fields r_w1methods r_w1codes r_w1handlers r_w1extra r_w1orders r_w1classNamed f_w1breaks r_w1marks r_w2names f_w2wrongClass f_w2wrongMethod f_w2wrongAt r_w2rows r_w2above r_w2fields r_w2methods r_w2codes r_w2handlers r_w2extra r_w2orders r_w2classNamed f_w2breaks r_w2marks H.size ) w_Cw_member q1518 rfl rfl ⟨Nat.le_of_ble_eq_true rfl, Nat.le_of_ble_eq_true rfl⟩ (fun _ h => absurd h List.not_mem_nil) 0 (ci := 11) rfl rfl rfl hl.1 rfl (Nat.le_of_ble_eq_true rfl) rfl ⟨Nat.le_of_ble_eq_true rfl, (Nat.le_of_ble_eq_true rfl)⟩ d_Law_542) hP hD hS [0, 1, 2, 3, 4, 5, 6, 7] [8, 9, 10, 11, 12] rfl rfl rfl rfl (fun r_1 u_2 H locs hw hP hD hS hzH => ?_)
  have hw : r_1 = (-1) := hw
  have hP : va_P D CL [(h0X, .inr (14, fsX)), (owX, .inl (g 6, 4, .inr (.inr (.inr (.inr (va_up (va_up (va_up (va_up (fun _ => none) 0 (some v0X)) 1 (some v1X)) 2 (some v2X)) 3 (some v3X))))))), (v0X, .inr (13, fw0X)), (v1X, .inr (13, fw1X)), (v2X, .inr (13, fw2X))] H := hP
  have hD : va_D A [(h0X, .inr (14, fsX)), (owX, .inl (g 6, 4, .inr (.inr (.inr (.inr (va_up (va_up (va_up (va_up (fun _ => none) 0 (some v0X)) 1 (some v1X)) 2 (some v2X)) 3 (some v3X))))))), (v0X, .inr (13, fw0X)), (v1X, .inr (13, fw1X)), (v2X, .inr (13, fw2X))] := hD
  subst hw
  refine tpst (w := [.int (-1)]) rfl ?_
  refine lv_aload_n G.1 G.2.1 d_Law_545 rfl (lv_at hl 2 rfl) ?_
  refine W.eq (g2 := F0 m 546 ls [.ref h0X, .int (-1)]) rfl ?_
  refine lv_aload_n G.1 G.2.1 d_Law_546 rfl (lv_at hl 0 rfl) ?_
  refine lv_iload_n G.1 G.2.1 d_Law_547 rfl (lv_at hl 3 rfl) ?_
  refine lv_iconst (v := nI 1) G.1 G.2.1 d_Law_548 (by decide) ?_
  refine lv_iadd G.1 G.2.1 d_Law_549 ?_
  refine tpi (w := nI 1) (by decide) ?_
  refine va_sld G.1 G.2.1 hX hbl hbA hS (nI_inn (n := 6) (a := 1) (by decide) (by decide)) d_Law_550 ?_
  refine tpi (w := (xs 1)) (by rw [nI_clamp (by decide)]) ?_
  refine lv_aload_n G.1 G.2.1 d_Law_551 rfl (lv_at hl 0 rfl) ?_
  refine lv_iload_n G.1 G.2.1 d_Law_552 rfl (lv_at hl 3 rfl) ?_
  refine lv_iconst (v := nI 2) G.1 G.2.1 d_Law_553 (by decide) ?_
  refine lv_iadd G.1 G.2.1 d_Law_554 ?_
  refine tpi (w := nI 2) (by decide) ?_
  refine va_sld G.1 G.2.1 hX hbl hbA hS (nI_inn (n := 6) (a := 2) (by decide) (by decide)) d_Law_555 ?_
  refine tpi (w := (xs 2)) (by rw [nI_clamp (by decide)]) ?_
  refine lv_aload_n G.1 G.2.1 d_Law_556 rfl (lv_at hl 0 rfl) ?_
  refine lv_iload_n G.1 G.2.1 d_Law_557 rfl (lv_at hl 3 rfl) ?_
  refine W.eq (g2 := F0 m 558 ls [.int (nI 0), .ref b, .int (xs 2), .int (xs 1), .ref h0X, .int (-1)]) rfl ?_
  refine lv_iconst (v := nI 3) G.1 G.2.1 d_Law_558 (by decide) ?_
  refine lv_iadd G.1 G.2.1 d_Law_559 ?_
  refine tpi (w := nI 3) (by decide) ?_
  refine va_sld G.1 G.2.1 hX hbl hbA hS (nI_inn (n := 6) (a := 3) (by decide) (by decide)) d_Law_560 ?_
  refine tpi (w := (xs 3)) (by rw [nI_clamp (by decide)]) ?_
  refine lv_aload_n G.1 G.2.1 d_Law_561 rfl (lv_at hl 0 rfl) ?_
  refine lv_iload_n G.1 G.2.1 d_Law_562 rfl (lv_at hl 3 rfl) ?_
  refine lv_iconst (v := nI 4) G.1 G.2.1 d_Law_563 (by decide) ?_
  refine lv_iadd G.1 G.2.1 d_Law_564 ?_
  refine tpi (w := nI 4) (by decide) ?_
  refine va_sld G.1 G.2.1 hX hbl hbA hS (nI_inn (n := 6) (a := 4) (by decide) (by decide)) d_Law_565 ?_
  refine tpi (w := (xs 4)) (by rw [nI_clamp (by decide)]) ?_
  refine kEi (wr := []) G (kV (As := [.int (xs 1), .int (xs 2), .int (xs 3), .int (xs 4)]) (rest := [.int (-1)]) G hP hD hS [0, 1, 2, 3, 4] rfl rfl (c_Mo_member l D g h0X (xs 1) (xs 2) (xs 3) (xs 4) fsX owX v0X v1X v2X v3X fw0X fw1X fw2X H.size glenX gk0X gw0X gt0X gw1X gt1X gw2X gt2X) w_Mo_member q3669 rfl rfl ⟨Nat.le_of_ble_eq_true rfl, Nat.le_of_ble_eq_true rfl⟩ (fun _ h => absurd h List.not_mem_nil) 0 (ci := 14) rfl rfl rfl hl.1 rfl (Nat.le_of_ble_eq_true rfl) rfl ⟨Nat.le_of_ble_eq_true rfl, (Nat.le_of_ble_eq_true rfl)⟩ d_Law_566) hP hD hS [0, 1, 2, 3, 4] [] rfl rfl rfl rfl (fun r_3 u_4 H locs hw hP hD hS hzH => ?_)
  have hw : r_3 = (-1) := hw
  have hP : va_P D CL [] H := hP
  have hD : va_D A [] := hD
  subst hw
  refine tpst (w := [.int (-1), .int (-1)]) rfl ?_
  refine lv_icmp_eq (tgt := 1768) G.1 G.2.1 d_Law_569 (by decide) (fun c569 => ?_) (fun c569 => absurd c569 (fun h => h rfl))
  refine lv_iinc (v := nI 6) (lv' := [(3, .int (nI 6)), (0, .ref b), (1, .ref h0), (2, .ref h0X)]) G.1 G.2.1 d_Law_1768 hl (k := 3) rfl (show (nI 0) + Int32.ofInt 6 = nI 6 from by decide) (by decide) rfl (fun ls hl => ?_)
  refine lv_goto (tgt := 18) G.1 G.2.1 d_Law_1771 (by decide) ?_
  refine W.eq (g2 := F0 m 18 ls []) rfl ?_
  refine lv_iload_n G.1 G.2.1 d_Law_18 rfl (lv_at hl 0 rfl) ?_
  refine lv_aload_n G.1 G.2.1 d_Law_19 rfl (lv_at hl 1 rfl) ?_
  refine va_slen G.1 G.2.1 hX hbl hbA hS d_Law_20 ?_
  refine tpi (w := nI 6) rfl ?_
  refine lv_bipush (v := nI 6) G.1 G.2.1 d_Law_21 (by decide) ?_
  refine lv_isub G.1 G.2.1 d_Law_23 ?_
  refine tpi (w := nI 0) (by decide) ?_
  refine lv_icmp_gt (tgt := 1774) G.1 G.2.1 d_Law_24 (by decide) (fun c24 => ?_) (fun c24 => absurd c24 (by decide))
  refine lv_iconst (v := nI 1) G.1 G.2.1 d_Law_1774 (by decide) ?_
  refine va_forget (fun q hq => hAA _ (hS.2.2 q hq)) ?_
  refine W.widen (k := 600002) (n := 7302232) (Nat.le_of_ble_eq_true rfl) (Nat.le_of_ble_eq_true rfl) ?_
  exact lw_ret G.1 G.2.1 G.2.2.2.1 G.2.2.2.2.1 d_Law_1775
theorem q1527 : Cond.code y_Cw_link b_Cw_link 4 (some .int) ∈ lw_ok := lw_okmem (List.mem_of_getElem? (i := 1527) (by decide +kernel)) rfl
theorem q1525 : Cond.instanceMethod y_Cw_link ∈ lw_ok := lw_okmem (List.mem_of_getElem? (i := 1525) (by decide +kernel)) rfl
theorem q1526 : Cond.selects y_Cw_link.cls y_Cw_link y_Cw_link ∈ lw_ok := lw_okmem (List.mem_of_getElem? (i := 1526) (by decide +kernel)) rfl
theorem w_Cw_link : CWv y_Cw_link b_Cw_link 4 (some .int) 2 ∧ Cond.instanceMethod y_Cw_link ∈ lw_ok ∧ Cond.selects y_Cw_link.cls y_Cw_link y_Cw_link ∈ lw_ok := ⟨⟨q1527, q329, by decide +kernel, by decide +kernel, by decide +kernel⟩, q1525, q1526⟩
theorem q1524 : Cond.methodLink "ClassWorksLaw" 58 y_Cw_link ∈ lw_ok := lw_okmem (List.mem_of_getElem? (i := 1524) (by decide +kernel)) rfl
theorem q3676 : Cond.code y_Mo_link b_Mo_link 3 (some .int) ∈ lw_ok := lw_okmem (List.mem_of_getElem? (i := 3676) (by decide +kernel)) rfl
theorem q3674 : Cond.instanceMethod y_Mo_link ∈ lw_ok := lw_okmem (List.mem_of_getElem? (i := 3674) (by decide +kernel)) rfl
theorem q3675 : Cond.selects y_Mo_link.cls y_Mo_link y_Mo_link ∈ lw_ok := lw_okmem (List.mem_of_getElem? (i := 3675) (by decide +kernel)) rfl
theorem w_Mo_link : CWv y_Mo_link b_Mo_link 3 (some .int) 2 ∧ Cond.instanceMethod y_Mo_link ∈ lw_ok ∧ Cond.selects y_Mo_link.cls y_Mo_link y_Mo_link ∈ lw_ok := ⟨⟨q3676, q348, by decide +kernel, by decide +kernel, by decide +kernel⟩, q3674, q3675⟩
theorem q3673 : Cond.methodLink "ClassWorksLaw" 62 y_Mo_link ∈ lw_ok := lw_okmem (List.mem_of_getElem? (i := 3673) (by decide +kernel)) rfl
theorem d_Law_574 : decode code 574 = .ok (.aload_n 1, 1) := by decide +kernel
theorem d_Law_575 : decode code 575 = .ok (.aload_n 0, 1) := by decide +kernel
theorem d_Law_576 : decode code 576 = .ok (.iload_n 3, 1) := by decide +kernel
theorem d_Law_577 : decode code 577 = .ok (.iconst 1, 1) := by decide +kernel
theorem d_Law_578 : decode code 578 = .ok (.iadd, 1) := by decide +kernel
theorem d_Law_579 : decode code 579 = .ok (.iaload, 1) := by decide +kernel
theorem d_Law_580 : decode code 580 = .ok (.aload_n 0, 1) := by decide +kernel
theorem d_Law_581 : decode code 581 = .ok (.iload_n 3, 1) := by decide +kernel
theorem d_Law_582 : decode code 582 = .ok (.iconst 2, 1) := by decide +kernel
theorem d_Law_583 : decode code 583 = .ok (.iadd, 1) := by decide +kernel
theorem d_Law_584 : decode code 584 = .ok (.iaload, 1) := by decide +kernel
theorem d_Law_585 : decode code 585 = .ok (.invokevirtual 58, 3) := by decide +kernel
theorem d_Law_588 : decode code 588 = .ok (.aload_n 2, 1) := by decide +kernel
theorem d_Law_589 : decode code 589 = .ok (.aload_n 0, 1) := by decide +kernel
theorem d_Law_590 : decode code 590 = .ok (.iload_n 3, 1) := by decide +kernel
theorem d_Law_591 : decode code 591 = .ok (.iconst 1, 1) := by decide +kernel
theorem d_Law_592 : decode code 592 = .ok (.iadd, 1) := by decide +kernel
theorem d_Law_593 : decode code 593 = .ok (.iaload, 1) := by decide +kernel
theorem d_Law_594 : decode code 594 = .ok (.aload_n 0, 1) := by decide +kernel
theorem d_Law_595 : decode code 595 = .ok (.iload_n 3, 1) := by decide +kernel
theorem d_Law_596 : decode code 596 = .ok (.iconst 2, 1) := by decide +kernel
theorem d_Law_597 : decode code 597 = .ok (.iadd, 1) := by decide +kernel
theorem d_Law_598 : decode code 598 = .ok (.iaload, 1) := by decide +kernel
theorem d_Law_599 : decode code 599 = .ok (.invokevirtual 62, 3) := by decide +kernel
theorem d_Law_602 : decode code 602 = .ok (.if_icmp .eq 1166, 3) := by decide +kernel
set_option maxHeartbeats 4000000 in
set_option maxRecDepth 100000 in
theorem law_link {p : Program} {e : Env} {s : State} {m : MethodId} {below : List Frame} {meth : Method} {c : Code} {l : Launch} {D : va_G} {g : Nat → ClassId} {sl : List SL} {b : Nat} {xs : Nat → Int32} {A : Nat → Prop} (h0 : Nat) (r_cwords : Nat) (r_creader : Nat) (r_cchecker : Nat) (r_cfinder : Nat) (r_cwriter : Nat) (r_cmachines : Nat) (r_ctape : Nat) (r_cstock : Nat) (r_csizes : Nat) (r_cmet : Nat) (r_cfound : Nat) (r_cdraft : Nat) (r_cfewestFor : Nat) (r_cfewestNext : Nat) (mm0 : Nat) (mm1 : Nat) (mm2 : Nat) (mm3 : Nat) (ww0 : Nat) (r_m0heap : Nat) (r_m0runs : Nat) (r_m0counts : Nat) (r_m0traceRow : Nat) (f_m0traceCount : Int32) (r_m0startedList : Nat) (f_m0startedCount : Int32) (f_m0present : Int32) (f_m0quantum : Int32) (f_m0stepsDone : Int32) (f_m0turnSteps : Int32) (f_m0turnMost : Int32) (f_m0turnOver : Int32) (r_m0finder : Nat) (r_m0names : Nat) (f_m0fault : Int32) (f_m0wanted : Int32) (f_m0thrown : Int32) (ww1 : Nat) (r_m1heap : Nat) (r_m1runs : Nat) (r_m1counts : Nat) (r_m1traceRow : Nat) (f_m1traceCount : Int32) (r_m1startedList : Nat) (f_m1startedCount : Int32) (f_m1present : Int32) (f_m1quantum : Int32) (f_m1stepsDone : Int32) (f_m1turnSteps : Int32) (f_m1turnMost : Int32) (f_m1turnOver : Int32) (r_m1finder : Nat) (r_m1names : Nat) (f_m1fault : Int32) (f_m1wanted : Int32) (f_m1thrown : Int32) (ww2 : Nat) (r_m2heap : Nat) (r_m2runs : Nat) (r_m2counts : Nat) (r_m2traceRow : Nat) (f_m2traceCount : Int32) (r_m2startedList : Nat) (f_m2startedCount : Int32) (f_m2present : Int32) (f_m2quantum : Int32) (f_m2stepsDone : Int32) (f_m2turnSteps : Int32) (f_m2turnMost : Int32) (f_m2turnOver : Int32) (r_m2finder : Nat) (r_m2names : Nat) (f_m2fault : Int32) (f_m2wanted : Int32) (f_m2thrown : Int32) (r_w0names : Nat) (f_w0wrongClass : Int32) (f_w0wrongMethod : Int32) (f_w0wrongAt : Int32) (r_w0rows : Nat) (r_w0above : Nat) (r_w0fields : Nat) (r_w0methods : Nat) (r_w0codes : Nat) (r_w0handlers : Nat) (r_w0extra : Nat) (r_w0orders : Nat) (r_w0classNamed : Nat) (f_w0breaks : Int32) (r_w0marks : Nat) (r_w1names : Nat) (f_w1wrongClass : Int32) (f_w1wrongMethod : Int32) (f_w1wrongAt : Int32) (r_w1rows : Nat) (r_w1above : Nat) (r_w1fields : Nat) (r_w1methods : Nat) (r_w1codes : Nat) (r_w1handlers : Nat) (r_w1extra : Nat) (r_w1orders : Nat) (r_w1classNamed : Nat) (f_w1breaks : Int32) (r_w1marks : Nat) (r_w2names : Nat) (f_w2wrongClass : Int32) (f_w2wrongMethod : Int32) (f_w2wrongAt : Int32) (r_w2rows : Nat) (r_w2above : Nat) (r_w2fields : Nat) (r_w2methods : Nat) (r_w2codes : Nat) (r_w2handlers : Nat) (r_w2extra : Nat) (r_w2orders : Nat) (r_w2classNamed : Nat) (f_w2breaks : Int32) (r_w2marks : Nat) (h0X : Nat) (fsX : List Value) (owX : Nat) (v0X : Nat) (v1X : Nat) (v2X : Nat) (v3X : Nat) (fw0X : List Value) (fw1X : List Value) (fw2X : List Value) (G : GV l p s m #[Value.ref b] meth c (⟨"ClassWorksLaw", meth.name, ""⟩ : MethodName) code 4 ret g D sl A) (hX : va_X b 6 xs s s.heap) (hbl : b < s.heap.size) (hbA : ¬ A b) (hAA : ∀ q, A q → s.heap.size ≤ q) {H : Heap} {locs : List Loc} {ls : Array Slot} (glenX : fsX.length = 131) (gk0X : fsX[44]? = some (.ref owX)) (gw0X : fw0X.length = 72) (gt0X : fw0X[0]? = some (.int (nI 0))) (gw1X : fw1X.length = 72) (gt1X : fw1X[0]? = some (.int (nI 0))) (gw2X : fw2X.length = 72) (gt2X : fw2X[0]? = some (.int (nI 0))) (hP : va_P D CL [(h0, .inr (11, [.ref r_cwords, .ref r_creader, .ref r_cchecker, .ref r_cfinder, .ref r_cwriter, .ref r_cmachines, .ref r_ctape, .int (nI 0), .int (-2), .int (nI 60000), .ref r_cstock, .ref r_csizes, .ref r_cmet, .ref r_cfound, .int (nI 0), .ref r_cdraft, .int (nI 0), .int (nI 0), .ref r_cfewestFor, .ref r_cfewestNext])), (r_cmachines, .inl (g 4, 4, .inr (.inr (.inr (.inr (va_up (va_up (va_up (va_up (fun _ => none) 0 (some mm0)) 1 (some mm1)) 2 (some mm2)) 3 (some mm3))))))), (mm0, .inr (4, [.ref ww0, .ref r_m0heap, .ref r_m0runs, .ref r_m0counts, .ref r_m0traceRow, .int f_m0traceCount, .ref r_m0startedList, .int f_m0startedCount, .int f_m0present, .int f_m0quantum, .int f_m0stepsDone, .int f_m0turnSteps, .int f_m0turnMost, .int f_m0turnOver, .ref r_m0finder, .ref r_m0names, .int f_m0fault, .int f_m0wanted, .int f_m0thrown])), (mm1, .inr (4, [.ref ww1, .ref r_m1heap, .ref r_m1runs, .ref r_m1counts, .ref r_m1traceRow, .int f_m1traceCount, .ref r_m1startedList, .int f_m1startedCount, .int f_m1present, .int f_m1quantum, .int f_m1stepsDone, .int f_m1turnSteps, .int f_m1turnMost, .int f_m1turnOver, .ref r_m1finder, .ref r_m1names, .int f_m1fault, .int f_m1wanted, .int f_m1thrown])), (mm2, .inr (4, [.ref ww2, .ref r_m2heap, .ref r_m2runs, .ref r_m2counts, .ref r_m2traceRow, .int f_m2traceCount, .ref r_m2startedList, .int f_m2startedCount, .int f_m2present, .int f_m2quantum, .int f_m2stepsDone, .int f_m2turnSteps, .int f_m2turnMost, .int f_m2turnOver, .ref r_m2finder, .ref r_m2names, .int f_m2fault, .int f_m2wanted, .int f_m2thrown])), (ww0, .inr (9, [.ref r_w0names, .int (nI 0), .int (nI 21), .int f_w0wrongClass, .int f_w0wrongMethod, .int f_w0wrongAt, .ref r_w0rows, .ref r_w0above, .ref r_w0fields, .ref r_w0methods, .ref r_w0codes, .ref r_w0handlers, .ref r_w0extra, .ref r_w0orders, .ref r_w0classNamed, .int f_w0breaks, .ref r_w0marks])), (ww1, .inr (9, [.ref r_w1names, .int (nI 0), .int (nI 21), .int f_w1wrongClass, .int f_w1wrongMethod, .int f_w1wrongAt, .ref r_w1rows, .ref r_w1above, .ref r_w1fields, .ref r_w1methods, .ref r_w1codes, .ref r_w1handlers, .ref r_w1extra, .ref r_w1orders, .ref r_w1classNamed, .int f_w1breaks, .ref r_w1marks])), (ww2, .inr (9, [.ref r_w2names, .int (nI 0), .int (nI 21), .int f_w2wrongClass, .int f_w2wrongMethod, .int f_w2wrongAt, .ref r_w2rows, .ref r_w2above, .ref r_w2fields, .ref r_w2methods, .ref r_w2codes, .ref r_w2handlers, .ref r_w2extra, .ref r_w2orders, .ref r_w2classNamed, .int f_w2breaks, .ref r_w2marks])), (h0X, .inr (14, fsX)), (owX, .inl (g 6, 4, .inr (.inr (.inr (.inr (va_up (va_up (va_up (va_up (fun _ => none) 0 (some v0X)) 1 (some v1X)) 2 (some v2X)) 3 (some v3X))))))), (v0X, .inr (13, fw0X)), (v1X, .inr (13, fw1X)), (v2X, .inr (13, fw2X))] H) (hD : va_D A [(h0, .inr (11, [.ref r_cwords, .ref r_creader, .ref r_cchecker, .ref r_cfinder, .ref r_cwriter, .ref r_cmachines, .ref r_ctape, .int (nI 0), .int (-2), .int (nI 60000), .ref r_cstock, .ref r_csizes, .ref r_cmet, .ref r_cfound, .int (nI 0), .ref r_cdraft, .int (nI 0), .int (nI 0), .ref r_cfewestFor, .ref r_cfewestNext])), (r_cmachines, .inl (g 4, 4, .inr (.inr (.inr (.inr (va_up (va_up (va_up (va_up (fun _ => none) 0 (some mm0)) 1 (some mm1)) 2 (some mm2)) 3 (some mm3))))))), (mm0, .inr (4, [.ref ww0, .ref r_m0heap, .ref r_m0runs, .ref r_m0counts, .ref r_m0traceRow, .int f_m0traceCount, .ref r_m0startedList, .int f_m0startedCount, .int f_m0present, .int f_m0quantum, .int f_m0stepsDone, .int f_m0turnSteps, .int f_m0turnMost, .int f_m0turnOver, .ref r_m0finder, .ref r_m0names, .int f_m0fault, .int f_m0wanted, .int f_m0thrown])), (mm1, .inr (4, [.ref ww1, .ref r_m1heap, .ref r_m1runs, .ref r_m1counts, .ref r_m1traceRow, .int f_m1traceCount, .ref r_m1startedList, .int f_m1startedCount, .int f_m1present, .int f_m1quantum, .int f_m1stepsDone, .int f_m1turnSteps, .int f_m1turnMost, .int f_m1turnOver, .ref r_m1finder, .ref r_m1names, .int f_m1fault, .int f_m1wanted, .int f_m1thrown])), (mm2, .inr (4, [.ref ww2, .ref r_m2heap, .ref r_m2runs, .ref r_m2counts, .ref r_m2traceRow, .int f_m2traceCount, .ref r_m2startedList, .int f_m2startedCount, .int f_m2present, .int f_m2quantum, .int f_m2stepsDone, .int f_m2turnSteps, .int f_m2turnMost, .int f_m2turnOver, .ref r_m2finder, .ref r_m2names, .int f_m2fault, .int f_m2wanted, .int f_m2thrown])), (ww0, .inr (9, [.ref r_w0names, .int (nI 0), .int (nI 21), .int f_w0wrongClass, .int f_w0wrongMethod, .int f_w0wrongAt, .ref r_w0rows, .ref r_w0above, .ref r_w0fields, .ref r_w0methods, .ref r_w0codes, .ref r_w0handlers, .ref r_w0extra, .ref r_w0orders, .ref r_w0classNamed, .int f_w0breaks, .ref r_w0marks])), (ww1, .inr (9, [.ref r_w1names, .int (nI 0), .int (nI 21), .int f_w1wrongClass, .int f_w1wrongMethod, .int f_w1wrongAt, .ref r_w1rows, .ref r_w1above, .ref r_w1fields, .ref r_w1methods, .ref r_w1codes, .ref r_w1handlers, .ref r_w1extra, .ref r_w1orders, .ref r_w1classNamed, .int f_w1breaks, .ref r_w1marks])), (ww2, .inr (9, [.ref r_w2names, .int (nI 0), .int (nI 21), .int f_w2wrongClass, .int f_w2wrongMethod, .int f_w2wrongAt, .ref r_w2rows, .ref r_w2above, .ref r_w2fields, .ref r_w2methods, .ref r_w2codes, .ref r_w2handlers, .ref r_w2extra, .ref r_w2orders, .ref r_w2classNamed, .int f_w2breaks, .ref r_w2marks])), (h0X, .inr (14, fsX)), (owX, .inl (g 6, 4, .inr (.inr (.inr (.inr (va_up (va_up (va_up (va_up (fun _ => none) 0 (some v0X)) 1 (some v1X)) 2 (some v2X)) 3 (some v3X))))))), (v0X, .inr (13, fw0X)), (v1X, .inr (13, fw1X)), (v2X, .inr (13, fw2X))]) (hS : va_S A s.heap H locs) (hl : lv_has ls 4 [(0, .ref b), (1, .ref h0), (2, .ref h0X), (3, .int (nI 0))]) : W p l e room_1 s m #[Value.ref b] below meth c H locs 702 488194 (lw_Z below #[Value.ref b] s) (F0 m 574 ls []) := by
  refine lv_aload_n G.1 G.2.1 d_Law_574 rfl (lv_at hl 1 rfl) ?_
  refine lv_aload_n G.1 G.2.1 d_Law_575 rfl (lv_at hl 0 rfl) ?_
  refine lv_iload_n G.1 G.2.1 d_Law_576 rfl (lv_at hl 3 rfl) ?_
  refine lv_iconst (v := nI 1) G.1 G.2.1 d_Law_577 (by decide) ?_
  refine lv_iadd G.1 G.2.1 d_Law_578 ?_
  refine tpi (w := nI 1) (by decide) ?_
  refine va_sld G.1 G.2.1 hX hbl hbA hS (nI_inn (n := 6) (a := 1) (by decide) (by decide)) d_Law_579 ?_
  refine tpi (w := (xs 1)) (by rw [nI_clamp (by decide)]) ?_
  refine lv_aload_n G.1 G.2.1 d_Law_580 rfl (lv_at hl 0 rfl) ?_
  refine lv_iload_n G.1 G.2.1 d_Law_581 rfl (lv_at hl 3 rfl) ?_
  refine lv_iconst (v := nI 2) G.1 G.2.1 d_Law_582 (by decide) ?_
  refine lv_iadd G.1 G.2.1 d_Law_583 ?_
  refine tpi (w := nI 2) (by decide) ?_
  refine va_sld G.1 G.2.1 hX hbl hbA hS (nI_inn (n := 6) (a := 2) (by decide) (by decide)) d_Law_584 ?_
  refine tpi (w := (xs 2)) (by rw [nI_clamp (by decide)]) ?_
  refine W.eq (g2 := F0 m 585 ls [.int (xs 2), .int (xs 1), .ref h0]) rfl ?_
  refine kEi (wr := [(h0X, .inr (14, fsX)), (owX, .inl (g 6, 4, .inr (.inr (.inr (.inr (va_up (va_up (va_up (va_up (fun _ => none) 0 (some v0X)) 1 (some v1X)) 2 (some v2X)) 3 (some v3X))))))), (v0X, .inr (13, fw0X)), (v1X, .inr (13, fw1X)), (v2X, .inr (13, fw2X))]) G (kV (As := [.int (xs 1), .int (xs 2)]) (rest := []) G hP hD hS [0, 1, 2, 3, 4, 5, 6, 7] rfl rfl (c_Cw_link l D g h0 (xs 1) (xs 2) r_cwords r_creader r_cchecker r_cfinder r_cwriter r_cmachines r_ctape r_cstock r_csizes r_cmet r_cfound r_cdraft r_cfewestFor r_cfewestNext mm0 mm1 mm2 mm3 ww0 r_m0heap r_m0runs r_m0counts r_m0traceRow f_m0traceCount r_m0startedList f_m0startedCount f_m0present f_m0quantum f_m0stepsDone f_m0turnSteps f_m0turnMost f_m0turnOver r_m0finder r_m0names f_m0fault f_m0wanted f_m0thrown ww1 r_m1heap r_m1runs r_m1counts r_m1traceRow f_m1traceCount r_m1startedList f_m1startedCount f_m1present f_m1quantum f_m1stepsDone f_m1turnSteps f_m1turnMost f_m1turnOver r_m1finder r_m1names f_m1fault f_m1wanted f_m1thrown ww2 r_m2heap r_m2runs r_m2counts r_m2traceRow f_m2traceCount r_m2startedList f_m2startedCount f_m2present f_m2quantum f_m2stepsDone f_m2turnSteps f_m2turnMost f_m2turnOver r_m2finder r_m2names f_m2fault f_m2wanted f_m2thrown r_w0names f_w0wrongClass f_w0wrongMethod f_w0wrongAt r_w0rows r_w0above r_w0fields r_w0methods r_w0codes r_w0handlers r_w0extra r_w0orders r_w0classNamed f_w0breaks r_w0marks r_w1names f_w1wrongClass f_w1wrongMethod f_w1wrongAt r_w1rows r_w1above r_w1fields r_w1methods r_w1codes r_w1handlers r_w1extra r_w1orders r_w1classNamed f_w1breaks r_w1marks r_w2names f_w2wrongClass f_w2wrongMethod f_w2wrongAt r_w2rows r_w2above r_w2fields r_w2methods r_w2codes r_w2handlers r_w2extra r_w2orders r_w2classNamed f_w2breaks r_w2marks H.size ) w_Cw_link q1524 rfl rfl ⟨Nat.le_of_ble_eq_true rfl, Nat.le_of_ble_eq_true rfl⟩ (fun _ h => absurd h List.not_mem_nil) 0 (ci := 11) rfl rfl rfl hl.1 rfl (Nat.le_of_ble_eq_true rfl) rfl ⟨Nat.le_of_ble_eq_true rfl, (Nat.le_of_ble_eq_true rfl)⟩ d_Law_585) hP hD hS [0, 1, 2, 3, 4, 5, 6, 7] [8, 9, 10, 11, 12] rfl rfl rfl rfl (fun r_1 u_2 H locs hw hP hD hS hzH => ?_)
  have hw : r_1 = (-1) := hw
  have hP : va_P D CL [(h0X, .inr (14, fsX)), (owX, .inl (g 6, 4, .inr (.inr (.inr (.inr (va_up (va_up (va_up (va_up (fun _ => none) 0 (some v0X)) 1 (some v1X)) 2 (some v2X)) 3 (some v3X))))))), (v0X, .inr (13, fw0X)), (v1X, .inr (13, fw1X)), (v2X, .inr (13, fw2X))] H := hP
  have hD : va_D A [(h0X, .inr (14, fsX)), (owX, .inl (g 6, 4, .inr (.inr (.inr (.inr (va_up (va_up (va_up (va_up (fun _ => none) 0 (some v0X)) 1 (some v1X)) 2 (some v2X)) 3 (some v3X))))))), (v0X, .inr (13, fw0X)), (v1X, .inr (13, fw1X)), (v2X, .inr (13, fw2X))] := hD
  subst hw
  refine tpst (w := [.int (-1)]) rfl ?_
  refine lv_aload_n G.1 G.2.1 d_Law_588 rfl (lv_at hl 2 rfl) ?_
  refine lv_aload_n G.1 G.2.1 d_Law_589 rfl (lv_at hl 0 rfl) ?_
  refine lv_iload_n G.1 G.2.1 d_Law_590 rfl (lv_at hl 3 rfl) ?_
  refine lv_iconst (v := nI 1) G.1 G.2.1 d_Law_591 (by decide) ?_
  refine lv_iadd G.1 G.2.1 d_Law_592 ?_
  refine tpi (w := nI 1) (by decide) ?_
  refine va_sld G.1 G.2.1 hX hbl hbA hS (nI_inn (n := 6) (a := 1) (by decide) (by decide)) d_Law_593 ?_
  refine tpi (w := (xs 1)) (by rw [nI_clamp (by decide)]) ?_
  refine lv_aload_n G.1 G.2.1 d_Law_594 rfl (lv_at hl 0 rfl) ?_
  refine lv_iload_n G.1 G.2.1 d_Law_595 rfl (lv_at hl 3 rfl) ?_
  refine lv_iconst (v := nI 2) G.1 G.2.1 d_Law_596 (by decide) ?_
  refine lv_iadd G.1 G.2.1 d_Law_597 ?_
  refine tpi (w := nI 2) (by decide) ?_
  refine va_sld G.1 G.2.1 hX hbl hbA hS (nI_inn (n := 6) (a := 2) (by decide) (by decide)) d_Law_598 ?_
  refine tpi (w := (xs 2)) (by rw [nI_clamp (by decide)]) ?_
  refine W.eq (g2 := F0 m 599 ls [.int (xs 2), .int (xs 1), .ref h0X, .int (-1)]) rfl ?_
  refine kEi (wr := []) G (kV (As := [.int (xs 1), .int (xs 2)]) (rest := [.int (-1)]) G hP hD hS [0, 1, 2, 3, 4] rfl rfl (c_Mo_link l D g h0X (xs 1) (xs 2) fsX owX v0X v1X v2X v3X fw0X fw1X fw2X H.size glenX gk0X gw0X gt0X gw1X gt1X gw2X gt2X) w_Mo_link q3673 rfl rfl ⟨Nat.le_of_ble_eq_true rfl, Nat.le_of_ble_eq_true rfl⟩ (fun _ h => absurd h List.not_mem_nil) 0 (ci := 14) rfl rfl rfl hl.1 rfl (Nat.le_of_ble_eq_true rfl) rfl ⟨Nat.le_of_ble_eq_true rfl, (Nat.le_of_ble_eq_true rfl)⟩ d_Law_599) hP hD hS [0, 1, 2, 3, 4] [] rfl rfl rfl rfl (fun r_3 u_4 H locs hw hP hD hS hzH => ?_)
  have hw : r_3 = (-1) := hw
  have hP : va_P D CL [] H := hP
  have hD : va_D A [] := hD
  subst hw
  refine tpst (w := [.int (-1), .int (-1)]) rfl ?_
  refine lv_icmp_eq (tgt := 1768) G.1 G.2.1 d_Law_602 (by decide) (fun c602 => ?_) (fun c602 => absurd c602 (fun h => h rfl))
  refine lv_iinc (v := nI 6) (lv' := [(3, .int (nI 6)), (0, .ref b), (1, .ref h0), (2, .ref h0X)]) G.1 G.2.1 d_Law_1768 hl (k := 3) rfl (show (nI 0) + Int32.ofInt 6 = nI 6 from by decide) (by decide) rfl (fun ls hl => ?_)
  refine lv_goto (tgt := 18) G.1 G.2.1 d_Law_1771 (by decide) ?_
  refine lv_iload_n G.1 G.2.1 d_Law_18 rfl (lv_at hl 0 rfl) ?_
  refine lv_aload_n G.1 G.2.1 d_Law_19 rfl (lv_at hl 1 rfl) ?_
  refine va_slen G.1 G.2.1 hX hbl hbA hS d_Law_20 ?_
  refine tpi (w := nI 6) rfl ?_
  refine lv_bipush (v := nI 6) G.1 G.2.1 d_Law_21 (by decide) ?_
  refine lv_isub G.1 G.2.1 d_Law_23 ?_
  refine tpi (w := nI 0) (by decide) ?_
  refine lv_icmp_gt (tgt := 1774) G.1 G.2.1 d_Law_24 (by decide) (fun c24 => ?_) (fun c24 => absurd c24 (by decide))
  refine lv_iconst (v := nI 1) G.1 G.2.1 d_Law_1774 (by decide) ?_
  refine va_forget (fun q hq => hAA _ (hS.2.2 q hq)) ?_
  refine W.widen (k := 600002) (n := 7302232) (Nat.le_of_ble_eq_true rfl) (Nat.le_of_ble_eq_true rfl) ?_
  exact lw_ret G.1 G.2.1 G.2.2.2.1 G.2.2.2.2.1 d_Law_1775
