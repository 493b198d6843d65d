theorem va_Pl {D : va_G} {cl : List vw_C} {a b : va_W} {H : Heap} (h : va_P D cl (a ++ b) H) : va_P D cl a H := fun k q hk => h k q (by rw [List.getElem?_append_left (List.getElem?_eq_some_iff.mp hk).1]; exact hk)
theorem va_Dl {A : Nat → Prop} {a b : va_W} (h : va_D A (a ++ b)) : va_D A a := ⟨fun i j p q hi hj e => h.1 i j p q (by rw [List.getElem?_append_left (List.getElem?_eq_some_iff.mp hi).1]; exact hi) (by rw [List.getElem?_append_left (List.getElem?_eq_some_iff.mp hj).1]; exact hj) e, fun k q hk => h.2 k q (by rw [List.getElem?_append_left (List.getElem?_eq_some_iff.mp hk).1]; exact hk)⟩
/-- the new cell, right behind the first -/
theorem va_P1 {D : va_G} {cl : List vw_C} {x y : Nat × va_E} {X : va_W} {H : Heap} (h : va_P D cl ((x :: X) ++ [y]) H) : va_P D cl (x :: y :: X) H := va_P.swap (a := [x]) (b := X) (c := [y]) h
theorem va_D1 {A : Nat → Prop} {x y : Nat × va_E} {X : va_W} (h : va_D A ((x :: X) ++ [y])) : va_D A (x :: y :: X) := va_D.swap (a := [x]) (b := X) (c := [y]) h
/-- the second cell is let go -/
theorem va_P2 {D : va_G} {cl : List vw_C} {x y : Nat × va_E} {X : va_W} {H : Heap} (h : va_P D cl (x :: y :: X) H) : va_P D cl (x :: X) H := by
  intro k q hk
  cases k with
  | zero => exact h 0 q hk
  | succ k => exact h (k + 2) q hk
theorem va_D2 {A : Nat → Prop} {x y : Nat × va_E} {X : va_W} (h : va_D A (x :: y :: X)) : va_D A (x :: X) := by
  refine h.by (fun k => if k = 0 then 0 else k + 1) (fun k q hk => ?_) (fun i j _ _ e => ?_)
  · cases k with
    | zero => exact hk
    | succ k => exact hk
  · by_cases h1 : i = 0 <;> by_cases h2 : j = 0 <;> simp only [h1, h2, if_true, if_false] at e <;> omega
section KEP
variable {p : Program} {l : Launch} {e : Env} {R : Room} {s : State} {m : MethodId} {args : Array Value} {below : List Frame} {meth : Method} {c : Code} {H : Heap} {locs : List Loc} {cells slots : Nat} {Q : State → Prop}
variable {pc : Nat} {ls : Array Slot} {rest st : List Value} {A0 : Nat → Prop} {mc ms : Nat} {D : va_G} {X pl wc wr : va_W} {a : Array Value} {y0 : MethodName} {cc : ByteArray} {nL : Nat} {r0 : Option FieldType} {g : Nat → ClassId} {sl : List SL}
/-- a call beside a pool that stays as it is -/
theorem kEvP {S : Type} {post : S → Prop} {W' : S → va_W} (G : GV l p s m args meth c y0 cc nL r0 g D sl A0) (hr : va_Run p l e R s m args below meth c H locs cells slots mc ms (F0 m pc ls st) rest (va_Qv post (QW D (va_A wc H.size) W') (va_A wc H.size) a) (va_A wc H.size)) (hP : va_P D CL (X ++ pl) H) (hD : va_D A0 (X ++ pl)) (hS : va_S A0 s.heap H locs) (isC isR : List Nat) (hC0 : isC.map (fun i => (X ++ pl)[i]?) = wc.map some) (hC : isC.map (fun i => X[i]?) = wc.map some) (hR : isR.map (fun i => X[i]?) = wr.map some) (hn : va_nd isR = true) (hdis : isR.all (fun i => !isC.contains i) = true)
    (kk : ∀ (u : S) (H1 : Heap) (locs1 : List Loc), post u → va_P D CL ((wr ++ W' u) ++ pl) H1 → va_D A0 ((wr ++ W' u) ++ pl) → va_S A0 s.heap H1 locs1 → H.size ≤ H1.size → W p l e R s m args below meth c H1 locs1 (cells + mc) (slots + ms) Q (F0 m (pc + 3) ls (rest))) : W p l e R s m args below meth c H locs cells slots Q (F0 m pc ls st) := by
  have hF := va_free hD hS G.2.2.2.2.2.2.2.2.2.2.2 isC hC0
  refine va_callv hr hS (fun q _ h => hF q h) hF (fun u t H1 locs1 ht hvm hw hB hz hk hS1 => ?_)
  obtain ⟨hP1, hD1⟩ := hB
  rw [ht] at hP1
  have hdis' : ∀ i ∈ isR, i ∉ isC := fun i hi hc => by
    have h1 := List.all_eq_true.mp hdis i hi
    rw [List.contains_iff_mem.mpr hc] at h1
    exact absurd h1 (by decide)
  obtain ⟨hP2, hD2⟩ := va_joinQ hP hD isC isR hC hR hn hdis' hk hF hP1 hD1
  exact kk u H1 locs1 hw hP2 hD2 hS1 hz
end KEP
def y_Mo_init : MethodName := ⟨"ClassWorksModel", "<init>", "()V"⟩
abbrev b_Mo_init : ByteArray := prog_14_method_15_code
theorem d_Mo_init_0 : decode b_Mo_init 0 = .ok (.aload_n 0, 1) := by decide +kernel
theorem d_Mo_init_1 : decode b_Mo_init 1 = .ok (.invokespecial 134, 3) := by decide +kernel
theorem d_Mo_init_4 : decode b_Mo_init 4 = .ok (.aload_n 0, 1) := by decide +kernel
theorem d_Mo_init_5 : decode b_Mo_init 5 = .ok (.sipush 6144, 3) := by decide +kernel
theorem d_Mo_init_8 : decode b_Mo_init 8 = .ok (.newarray .byte, 2) := by decide +kernel
theorem d_Mo_init_10 : decode b_Mo_init 10 = .ok (.putfield 28, 3) := by decide +kernel
theorem d_Mo_init_13 : decode b_Mo_init 13 = .ok (.aload_n 0, 1) := by decide +kernel
theorem d_Mo_init_14 : decode b_Mo_init 14 = .ok (.sipush 512, 3) := by decide +kernel
theorem d_Mo_init_17 : decode b_Mo_init 17 = .ok (.newarray .byte, 2) := by decide +kernel
theorem d_Mo_init_19 : decode b_Mo_init 19 = .ok (.putfield 40, 3) := by decide +kernel
theorem d_Mo_init_22 : decode b_Mo_init 22 = .ok (.aload_n 0, 1) := by decide +kernel
theorem d_Mo_init_23 : decode b_Mo_init 23 = .ok (.sipush 512, 3) := by decide +kernel
theorem d_Mo_init_26 : decode b_Mo_init 26 = .ok (.newarray .int, 2) := by decide +kernel
theorem d_Mo_init_28 : decode b_Mo_init 28 = .ok (.putfield 25, 3) := by decide +kernel
theorem d_Mo_init_31 : decode b_Mo_init 31 = .ok (.aload_n 0, 1) := by decide +kernel
theorem d_Mo_init_32 : decode b_Mo_init 32 = .ok (.sipush 4096, 3) := by decide +kernel
theorem d_Mo_init_35 : decode b_Mo_init 35 = .ok (.newarray .int, 2) := by decide +kernel
theorem d_Mo_init_37 : decode b_Mo_init 37 = .ok (.putfield 17, 3) := by decide +kernel
theorem d_Mo_init_40 : decode b_Mo_init 40 = .ok (.aload_n 0, 1) := by decide +kernel
theorem d_Mo_init_41 : decode b_Mo_init 41 = .ok (.bipush 16, 2) := by decide +kernel
theorem d_Mo_init_43 : decode b_Mo_init 43 = .ok (.newarray .byte, 2) := by decide +kernel
theorem d_Mo_init_45 : decode b_Mo_init 45 = .ok (.putfield 53, 3) := by decide +kernel
theorem d_Mo_init_48 : decode b_Mo_init 48 = .ok (.aload_n 0, 1) := by decide +kernel
theorem d_Mo_init_49 : decode b_Mo_init 49 = .ok (.aload_n 0, 1) := by decide +kernel
theorem d_Mo_init_50 : decode b_Mo_init 50 = .ok (.ldc 140, 2) := by decide +kernel
theorem d_Mo_init_52 : decode b_Mo_init 52 = .ok (.invokevirtual 142, 3) := by decide +kernel
theorem d_Mo_init_55 : decode b_Mo_init 55 = .ok (.putfield 121, 3) := by decide +kernel
theorem d_Mo_init_58 : decode b_Mo_init 58 = .ok (.aload_n 0, 1) := by decide +kernel
theorem d_Mo_init_59 : decode b_Mo_init 59 = .ok (.aload_n 0, 1) := by decide +kernel
theorem d_Mo_init_60 : decode b_Mo_init 60 = .ok (.ldc 146, 2) := by decide +kernel
theorem d_Mo_init_62 : decode b_Mo_init 62 = .ok (.invokevirtual 142, 3) := by decide +kernel
theorem d_Mo_init_65 : decode b_Mo_init 65 = .ok (.putfield 127, 3) := by decide +kernel
theorem d_Mo_init_68 : decode b_Mo_init 68 = .ok (.aload_n 0, 1) := by decide +kernel
theorem d_Mo_init_69 : decode b_Mo_init 69 = .ok (.aload_n 0, 1) := by decide +kernel
theorem d_Mo_init_70 : decode b_Mo_init 70 = .ok (.ldc 148, 2) := by decide +kernel
theorem d_Mo_init_72 : decode b_Mo_init 72 = .ok (.invokevirtual 150, 3) := by decide +kernel
theorem d_Mo_init_75 : decode b_Mo_init 75 = .ok (.putfield 153, 3) := by decide +kernel
theorem d_Mo_init_78 : decode b_Mo_init 78 = .ok (.aload_n 0, 1) := by decide +kernel
theorem d_Mo_init_79 : decode b_Mo_init 79 = .ok (.aload_n 0, 1) := by decide +kernel
theorem d_Mo_init_80 : decode b_Mo_init 80 = .ok (.ldc 156, 2) := by decide +kernel
theorem d_Mo_init_82 : decode b_Mo_init 82 = .ok (.invokevirtual 142, 3) := by decide +kernel
theorem d_Mo_init_85 : decode b_Mo_init 85 = .ok (.putfield 158, 3) := by decide +kernel
theorem d_Mo_init_88 : decode b_Mo_init 88 = .ok (.aload_n 0, 1) := by decide +kernel
theorem d_Mo_init_89 : decode b_Mo_init 89 = .ok (.aload_n 0, 1) := by decide +kernel
theorem d_Mo_init_90 : decode b_Mo_init 90 = .ok (.ldc 161, 2) := by decide +kernel
theorem d_Mo_init_92 : decode b_Mo_init 92 = .ok (.invokevirtual 142, 3) := by decide +kernel
theorem d_Mo_init_95 : decode b_Mo_init 95 = .ok (.putfield 163, 3) := by decide +kernel
theorem d_Mo_init_98 : decode b_Mo_init 98 = .ok (.aload_n 0, 1) := by decide +kernel
theorem d_Mo_init_99 : decode b_Mo_init 99 = .ok (.aload_n 0, 1) := by decide +kernel
theorem d_Mo_init_100 : decode b_Mo_init 100 = .ok (.ldc 166, 2) := by decide +kernel
theorem d_Mo_init_102 : decode b_Mo_init 102 = .ok (.invokevirtual 142, 3) := by decide +kernel
theorem d_Mo_init_105 : decode b_Mo_init 105 = .ok (.putfield 168, 3) := by decide +kernel
theorem d_Mo_init_108 : decode b_Mo_init 108 = .ok (.aload_n 0, 1) := by decide +kernel
theorem d_Mo_init_109 : decode b_Mo_init 109 = .ok (.aload_n 0, 1) := by decide +kernel
theorem d_Mo_init_110 : decode b_Mo_init 110 = .ok (.ldc 171, 2) := by decide +kernel
theorem d_Mo_init_112 : decode b_Mo_init 112 = .ok (.invokevirtual 142, 3) := by decide +kernel
theorem d_Mo_init_115 : decode b_Mo_init 115 = .ok (.putfield 173, 3) := by decide +kernel
theorem d_Mo_init_118 : decode b_Mo_init 118 = .ok (.aload_n 0, 1) := by decide +kernel
theorem d_Mo_init_119 : decode b_Mo_init 119 = .ok (.aload_n 0, 1) := by decide +kernel
theorem d_Mo_init_120 : decode b_Mo_init 120 = .ok (.ldc 176, 2) := by decide +kernel
theorem d_Mo_init_122 : decode b_Mo_init 122 = .ok (.invokevirtual 142, 3) := by decide +kernel
theorem d_Mo_init_125 : decode b_Mo_init 125 = .ok (.putfield 178, 3) := by decide +kernel
theorem d_Mo_init_128 : decode b_Mo_init 128 = .ok (.aload_n 0, 1) := by decide +kernel
theorem d_Mo_init_129 : decode b_Mo_init 129 = .ok (.aload_n 0, 1) := by decide +kernel
theorem d_Mo_init_130 : decode b_Mo_init 130 = .ok (.ldc 181, 2) := by decide +kernel
theorem d_Mo_init_132 : decode b_Mo_init 132 = .ok (.invokevirtual 142, 3) := by decide +kernel
theorem d_Mo_init_135 : decode b_Mo_init 135 = .ok (.putfield 183, 3) := by decide +kernel
theorem d_Mo_init_138 : decode b_Mo_init 138 = .ok (.aload_n 0, 1) := by decide +kernel
theorem d_Mo_init_139 : decode b_Mo_init 139 = .ok (.aload_n 0, 1) := by decide +kernel
theorem d_Mo_init_140 : decode b_Mo_init 140 = .ok (.ldc 186, 2) := by decide +kernel
theorem d_Mo_init_142 : decode b_Mo_init 142 = .ok (.invokevirtual 142, 3) := by decide +kernel
theorem d_Mo_init_145 : decode b_Mo_init 145 = .ok (.putfield 188, 3) := by decide +kernel
theorem d_Mo_init_148 : decode b_Mo_init 148 = .ok (.aload_n 0, 1) := by decide +kernel
theorem d_Mo_init_149 : decode b_Mo_init 149 = .ok (.aload_n 0, 1) := by decide +kernel
theorem d_Mo_init_150 : decode b_Mo_init 150 = .ok (.ldc 191, 2) := by decide +kernel
theorem d_Mo_init_152 : decode b_Mo_init 152 = .ok (.invokevirtual 142, 3) := by decide +kernel
theorem d_Mo_init_155 : decode b_Mo_init 155 = .ok (.putfield 192, 3) := by decide +kernel
theorem d_Mo_init_158 : decode b_Mo_init 158 = .ok (.aload_n 0, 1) := by decide +kernel
theorem d_Mo_init_159 : decode b_Mo_init 159 = .ok (.aload_n 0, 1) := by decide +kernel
theorem d_Mo_init_160 : decode b_Mo_init 160 = .ok (.ldc 195, 2) := by decide +kernel
theorem d_Mo_init_162 : decode b_Mo_init 162 = .ok (.invokevirtual 142, 3) := by decide +kernel
theorem d_Mo_init_165 : decode b_Mo_init 165 = .ok (.putfield 197, 3) := by decide +kernel
theorem d_Mo_init_168 : decode b_Mo_init 168 = .ok (.aload_n 0, 1) := by decide +kernel
theorem d_Mo_init_169 : decode b_Mo_init 169 = .ok (.aload_n 0, 1) := by decide +kernel
theorem d_Mo_init_170 : decode b_Mo_init 170 = .ok (.ldc 200, 2) := by decide +kernel
theorem d_Mo_init_172 : decode b_Mo_init 172 = .ok (.invokevirtual 142, 3) := by decide +kernel
theorem d_Mo_init_175 : decode b_Mo_init 175 = .ok (.putfield 202, 3) := by decide +kernel
theorem d_Mo_init_178 : decode b_Mo_init 178 = .ok (.aload_n 0, 1) := by decide +kernel
theorem d_Mo_init_179 : decode b_Mo_init 179 = .ok (.aload_n 0, 1) := by decide +kernel
theorem d_Mo_init_180 : decode b_Mo_init 180 = .ok (.ldc 205, 2) := by decide +kernel
theorem d_Mo_init_182 : decode b_Mo_init 182 = .ok (.invokevirtual 142, 3) := by decide +kernel
theorem d_Mo_init_185 : decode b_Mo_init 185 = .ok (.putfield 207, 3) := by decide +kernel
theorem d_Mo_init_188 : decode b_Mo_init 188 = .ok (.aload_n 0, 1) := by decide +kernel
theorem d_Mo_init_189 : decode b_Mo_init 189 = .ok (.aload_n 0, 1) := by decide +kernel
theorem d_Mo_init_190 : decode b_Mo_init 190 = .ok (.ldc 210, 2) := by decide +kernel
theorem d_Mo_init_192 : decode b_Mo_init 192 = .ok (.invokevirtual 142, 3) := by decide +kernel
theorem d_Mo_init_195 : decode b_Mo_init 195 = .ok (.putfield 212, 3) := by decide +kernel
theorem d_Mo_init_198 : decode b_Mo_init 198 = .ok (.aload_n 0, 1) := by decide +kernel
theorem d_Mo_init_199 : decode b_Mo_init 199 = .ok (.aload_n 0, 1) := by decide +kernel
theorem d_Mo_init_200 : decode b_Mo_init 200 = .ok (.ldc 215, 2) := by decide +kernel
theorem d_Mo_init_202 : decode b_Mo_init 202 = .ok (.invokevirtual 142, 3) := by decide +kernel
theorem d_Mo_init_205 : decode b_Mo_init 205 = .ok (.putfield 217, 3) := by decide +kernel
theorem d_Mo_init_208 : decode b_Mo_init 208 = .ok (.aload_n 0, 1) := by decide +kernel
theorem d_Mo_init_209 : decode b_Mo_init 209 = .ok (.aload_n 0, 1) := by decide +kernel
theorem d_Mo_init_210 : decode b_Mo_init 210 = .ok (.ldc 220, 2) := by decide +kernel
theorem d_Mo_init_212 : decode b_Mo_init 212 = .ok (.invokevirtual 142, 3) := by decide +kernel
theorem d_Mo_init_215 : decode b_Mo_init 215 = .ok (.putfield 222, 3) := by decide +kernel
theorem d_Mo_init_218 : decode b_Mo_init 218 = .ok (.aload_n 0, 1) := by decide +kernel
theorem d_Mo_init_219 : decode b_Mo_init 219 = .ok (.aload_n 0, 1) := by decide +kernel
theorem d_Mo_init_220 : decode b_Mo_init 220 = .ok (.ldc 225, 2) := by decide +kernel
theorem d_Mo_init_222 : decode b_Mo_init 222 = .ok (.invokevirtual 142, 3) := by decide +kernel
theorem d_Mo_init_225 : decode b_Mo_init 225 = .ok (.putfield 227, 3) := by decide +kernel
theorem d_Mo_init_228 : decode b_Mo_init 228 = .ok (.aload_n 0, 1) := by decide +kernel
theorem d_Mo_init_229 : decode b_Mo_init 229 = .ok (.aload_n 0, 1) := by decide +kernel
theorem d_Mo_init_230 : decode b_Mo_init 230 = .ok (.ldc 230, 2) := by decide +kernel
theorem d_Mo_init_232 : decode b_Mo_init 232 = .ok (.invokevirtual 142, 3) := by decide +kernel
theorem d_Mo_init_235 : decode b_Mo_init 235 = .ok (.putfield 232, 3) := by decide +kernel
theorem d_Mo_init_238 : decode b_Mo_init 238 = .ok (.aload_n 0, 1) := by decide +kernel
theorem d_Mo_init_239 : decode b_Mo_init 239 = .ok (.aload_n 0, 1) := by decide +kernel
theorem d_Mo_init_240 : decode b_Mo_init 240 = .ok (.ldc 235, 2) := by decide +kernel
theorem d_Mo_init_242 : decode b_Mo_init 242 = .ok (.invokevirtual 142, 3) := by decide +kernel
theorem d_Mo_init_245 : decode b_Mo_init 245 = .ok (.putfield 237, 3) := by decide +kernel
theorem d_Mo_init_248 : decode b_Mo_init 248 = .ok (.aload_n 0, 1) := by decide +kernel
theorem d_Mo_init_249 : decode b_Mo_init 249 = .ok (.aload_n 0, 1) := by decide +kernel
theorem d_Mo_init_250 : decode b_Mo_init 250 = .ok (.ldc 240, 2) := by decide +kernel
theorem d_Mo_init_252 : decode b_Mo_init 252 = .ok (.invokevirtual 150, 3) := by decide +kernel
theorem d_Mo_init_255 : decode b_Mo_init 255 = .ok (.putfield 242, 3) := by decide +kernel
theorem d_Mo_init_258 : decode b_Mo_init 258 = .ok (.aload_n 0, 1) := by decide +kernel
theorem d_Mo_init_259 : decode b_Mo_init 259 = .ok (.aload_n 0, 1) := by decide +kernel
theorem d_Mo_init_260 : decode b_Mo_init 260 = .ok (.getfield 242, 3) := by decide +kernel
theorem d_Mo_init_263 : decode b_Mo_init 263 = .ok (.iconst 1, 1) := by decide +kernel
theorem d_Mo_init_264 : decode b_Mo_init 264 = .ok (.iadd, 1) := by decide +kernel
theorem d_Mo_init_265 : decode b_Mo_init 265 = .ok (.putfield 245, 3) := by decide +kernel
theorem d_Mo_init_268 : decode b_Mo_init 268 = .ok (.aload_n 0, 1) := by decide +kernel
theorem d_Mo_init_269 : decode b_Mo_init 269 = .ok (.aload_n 0, 1) := by decide +kernel
theorem d_Mo_init_270 : decode b_Mo_init 270 = .ok (.getfield 242, 3) := by decide +kernel
theorem d_Mo_init_273 : decode b_Mo_init 273 = .ok (.iconst 2, 1) := by decide +kernel
theorem d_Mo_init_274 : decode b_Mo_init 274 = .ok (.iadd, 1) := by decide +kernel
theorem d_Mo_init_275 : decode b_Mo_init 275 = .ok (.putfield 248, 3) := by decide +kernel
theorem d_Mo_init_278 : decode b_Mo_init 278 = .ok (.aload_n 0, 1) := by decide +kernel
theorem d_Mo_init_279 : decode b_Mo_init 279 = .ok (.aload_n 0, 1) := by decide +kernel
theorem d_Mo_init_280 : decode b_Mo_init 280 = .ok (.getfield 242, 3) := by decide +kernel
theorem d_Mo_init_283 : decode b_Mo_init 283 = .ok (.bipush 52, 2) := by decide +kernel
theorem d_Mo_init_285 : decode b_Mo_init 285 = .ok (.iadd, 1) := by decide +kernel
theorem d_Mo_init_286 : decode b_Mo_init 286 = .ok (.putfield 251, 3) := by decide +kernel
theorem d_Mo_init_289 : decode b_Mo_init 289 = .ok (.aload_n 0, 1) := by decide +kernel
theorem d_Mo_init_290 : decode b_Mo_init 290 = .ok (.sipush 256, 3) := by decide +kernel
theorem d_Mo_init_293 : decode b_Mo_init 293 = .ok (.newarray .int, 2) := by decide +kernel
theorem d_Mo_init_295 : decode b_Mo_init 295 = .ok (.putfield 74, 3) := by decide +kernel
theorem d_Mo_init_298 : decode b_Mo_init 298 = .ok (.aload_n 0, 1) := by decide +kernel
theorem d_Mo_init_299 : decode b_Mo_init 299 = .ok (.sipush 256, 3) := by decide +kernel
theorem d_Mo_init_302 : decode b_Mo_init 302 = .ok (.newarray .int, 2) := by decide +kernel
theorem d_Mo_init_304 : decode b_Mo_init 304 = .ok (.putfield 80, 3) := by decide +kernel
theorem d_Mo_init_307 : decode b_Mo_init 307 = .ok (.aload_n 0, 1) := by decide +kernel
theorem d_Mo_init_308 : decode b_Mo_init 308 = .ok (.sipush 256, 3) := by decide +kernel
theorem d_Mo_init_311 : decode b_Mo_init 311 = .ok (.newarray .int, 2) := by decide +kernel
theorem d_Mo_init_313 : decode b_Mo_init 313 = .ok (.putfield 83, 3) := by decide +kernel
theorem d_Mo_init_316 : decode b_Mo_init 316 = .ok (.aload_n 0, 1) := by decide +kernel
theorem d_Mo_init_317 : decode b_Mo_init 317 = .ok (.sipush 256, 3) := by decide +kernel
theorem d_Mo_init_320 : decode b_Mo_init 320 = .ok (.newarray .int, 2) := by decide +kernel
theorem d_Mo_init_322 : decode b_Mo_init 322 = .ok (.putfield 71, 3) := by decide +kernel
theorem d_Mo_init_325 : decode b_Mo_init 325 = .ok (.aload_n 0, 1) := by decide +kernel
theorem d_Mo_init_326 : decode b_Mo_init 326 = .ok (.sipush 1024, 3) := by decide +kernel
theorem d_Mo_init_329 : decode b_Mo_init 329 = .ok (.newarray .int, 2) := by decide +kernel
theorem d_Mo_init_331 : decode b_Mo_init 331 = .ok (.putfield 64, 3) := by decide +kernel
theorem d_Mo_init_334 : decode b_Mo_init 334 = .ok (.aload_n 0, 1) := by decide +kernel
theorem d_Mo_init_335 : decode b_Mo_init 335 = .ok (.sipush 1024, 3) := by decide +kernel
theorem d_Mo_init_338 : decode b_Mo_init 338 = .ok (.newarray .int, 2) := by decide +kernel
theorem d_Mo_init_340 : decode b_Mo_init 340 = .ok (.putfield 86, 3) := by decide +kernel
theorem d_Mo_init_343 : decode b_Mo_init 343 = .ok (.aload_n 0, 1) := by decide +kernel
theorem d_Mo_init_344 : decode b_Mo_init 344 = .ok (.aload_n 0, 1) := by decide +kernel
theorem d_Mo_init_345 : decode b_Mo_init 345 = .ok (.iconst 1, 1) := by decide +kernel
theorem d_Mo_init_346 : decode b_Mo_init 346 = .ok (.newarray .int, 2) := by decide +kernel
theorem d_Mo_init_348 : decode b_Mo_init 348 = .ok (.iconst 0, 1) := by decide +kernel
theorem d_Mo_init_349 : decode b_Mo_init 349 = .ok (.iconst 0, 1) := by decide +kernel
theorem d_Mo_init_350 : decode b_Mo_init 350 = .ok (.invokevirtual 254, 3) := by decide +kernel
theorem d_Mo_init_353 : decode b_Mo_init 353 = .ok (.putfield 258, 3) := by decide +kernel
theorem d_Mo_init_356 : decode b_Mo_init 356 = .ok (.aload_n 0, 1) := by decide +kernel
theorem d_Mo_init_357 : decode b_Mo_init 357 = .ok (.sipush 6002, 3) := by decide +kernel
theorem d_Mo_init_360 : decode b_Mo_init 360 = .ok (.newarray .byte, 2) := by decide +kernel
theorem d_Mo_init_362 : decode b_Mo_init 362 = .ok (.putfield 92, 3) := by decide +kernel
theorem d_Mo_init_365 : decode b_Mo_init 365 = .ok (.aload_n 0, 1) := by decide +kernel
theorem d_Mo_init_366 : decode b_Mo_init 366 = .ok (.sipush 6002, 3) := by decide +kernel
theorem d_Mo_init_369 : decode b_Mo_init 369 = .ok (.newarray .int, 2) := by decide +kernel
theorem d_Mo_init_371 : decode b_Mo_init 371 = .ok (.putfield 98, 3) := by decide +kernel
theorem d_Mo_init_374 : decode b_Mo_init 374 = .ok (.aload_n 0, 1) := by decide +kernel
theorem d_Mo_init_375 : decode b_Mo_init 375 = .ok (.sipush 6002, 3) := by decide +kernel
theorem d_Mo_init_378 : decode b_Mo_init 378 = .ok (.newarray .int, 2) := by decide +kernel
theorem d_Mo_init_380 : decode b_Mo_init 380 = .ok (.putfield 101, 3) := by decide +kernel
theorem d_Mo_init_383 : decode b_Mo_init 383 = .ok (.aload_n 0, 1) := by decide +kernel
theorem d_Mo_init_384 : decode b_Mo_init 384 = .ok (.iconst 4, 1) := by decide +kernel
theorem d_Mo_init_385 : decode b_Mo_init 385 = .ok (.anewarray 261, 3) := by decide +kernel
theorem d_Mo_init_388 : decode b_Mo_init 388 = .ok (.putfield 263, 3) := by decide +kernel
theorem d_Mo_init_391 : decode b_Mo_init 391 = .ok (.aload_n 0, 1) := by decide +kernel
theorem d_Mo_init_392 : decode b_Mo_init 392 = .ok (.new 267, 3) := by decide +kernel
theorem d_Mo_init_395 : decode b_Mo_init 395 = .ok (.dup, 1) := by decide +kernel
theorem d_Mo_init_396 : decode b_Mo_init 396 = .ok (.ldc_w 269, 3) := by decide +kernel
theorem d_Mo_init_399 : decode b_Mo_init 399 = .ok (.invokespecial 271, 3) := by decide +kernel
theorem d_Mo_init_402 : decode b_Mo_init 402 = .ok (.putfield 274, 3) := by decide +kernel
theorem d_Mo_init_405 : decode b_Mo_init 405 = .ok (.aload_n 0, 1) := by decide +kernel
theorem d_Mo_init_406 : decode b_Mo_init 406 = .ok (.bipush 64, 2) := by decide +kernel
theorem d_Mo_init_408 : decode b_Mo_init 408 = .ok (.newarray .int, 2) := by decide +kernel
theorem d_Mo_init_410 : decode b_Mo_init 410 = .ok (.putfield 277, 3) := by decide +kernel
theorem d_Mo_init_413 : decode b_Mo_init 413 = .ok (.aload_n 0, 1) := by decide +kernel
theorem d_Mo_init_414 : decode b_Mo_init 414 = .ok (.bipush 16, 2) := by decide +kernel
theorem d_Mo_init_416 : decode b_Mo_init 416 = .ok (.newarray .int, 2) := by decide +kernel
theorem d_Mo_init_418 : decode b_Mo_init 418 = .ok (.putfield 280, 3) := by decide +kernel
theorem d_Mo_init_421 : decode b_Mo_init 421 = .ok (.aload_n 0, 1) := by decide +kernel
theorem d_Mo_init_422 : decode b_Mo_init 422 = .ok (.bipush 64, 2) := by decide +kernel
theorem d_Mo_init_424 : decode b_Mo_init 424 = .ok (.newarray .int, 2) := by decide +kernel
theorem d_Mo_init_426 : decode b_Mo_init 426 = .ok (.putfield 283, 3) := by decide +kernel
theorem d_Mo_init_429 : decode b_Mo_init 429 = .ok (.aload_n 0, 1) := by decide +kernel
theorem d_Mo_init_430 : decode b_Mo_init 430 = .ok (.bipush 64, 2) := by decide +kernel
theorem d_Mo_init_432 : decode b_Mo_init 432 = .ok (.newarray .int, 2) := by decide +kernel
theorem d_Mo_init_434 : decode b_Mo_init 434 = .ok (.putfield 286, 3) := by decide +kernel
theorem d_Mo_init_437 : decode b_Mo_init 437 = .ok (.aload_n 0, 1) := by decide +kernel
theorem d_Mo_init_438 : decode b_Mo_init 438 = .ok (.bipush 64, 2) := by decide +kernel
theorem d_Mo_init_440 : decode b_Mo_init 440 = .ok (.newarray .int, 2) := by decide +kernel
theorem d_Mo_init_442 : decode b_Mo_init 442 = .ok (.putfield 289, 3) := by decide +kernel
theorem d_Mo_init_445 : decode b_Mo_init 445 = .ok (.aload_n 0, 1) := by decide +kernel
theorem d_Mo_init_446 : decode b_Mo_init 446 = .ok (.bipush 64, 2) := by decide +kernel
theorem d_Mo_init_448 : decode b_Mo_init 448 = .ok (.newarray .int, 2) := by decide +kernel
theorem d_Mo_init_450 : decode b_Mo_init 450 = .ok (.putfield 292, 3) := by decide +kernel
theorem d_Mo_init_453 : decode b_Mo_init 453 = .ok (.aload_n 0, 1) := by decide +kernel
theorem d_Mo_init_454 : decode b_Mo_init 454 = .ok (.bipush 64, 2) := by decide +kernel
theorem d_Mo_init_456 : decode b_Mo_init 456 = .ok (.newarray .boolean, 2) := by decide +kernel
theorem d_Mo_init_458 : decode b_Mo_init 458 = .ok (.putfield 295, 3) := by decide +kernel
theorem d_Mo_init_461 : decode b_Mo_init 461 = .ok (.aload_n 0, 1) := by decide +kernel
theorem d_Mo_init_462 : decode b_Mo_init 462 = .ok (.bipush 8, 2) := by decide +kernel
theorem d_Mo_init_464 : decode b_Mo_init 464 = .ok (.newarray .int, 2) := by decide +kernel
theorem d_Mo_init_466 : decode b_Mo_init 466 = .ok (.putfield 299, 3) := by decide +kernel
theorem d_Mo_init_469 : decode b_Mo_init 469 = .ok (.aload_n 0, 1) := by decide +kernel
theorem d_Mo_init_470 : decode b_Mo_init 470 = .ok (.bipush 51, 2) := by decide +kernel
theorem d_Mo_init_472 : decode b_Mo_init 472 = .ok (.newarray .int, 2) := by decide +kernel
theorem d_Mo_init_474 : decode b_Mo_init 474 = .ok (.putfield 302, 3) := by decide +kernel
theorem d_Mo_init_477 : decode b_Mo_init 477 = .ok (.aload_n 0, 1) := by decide +kernel
theorem d_Mo_init_478 : decode b_Mo_init 478 = .ok (.bipush 20, 2) := by decide +kernel
theorem d_Mo_init_480 : decode b_Mo_init 480 = .ok (.newarray .int, 2) := by decide +kernel
theorem d_Mo_init_482 : decode b_Mo_init 482 = .ok (.putfield 305, 3) := by decide +kernel
theorem d_Mo_init_485 : decode b_Mo_init 485 = .ok (.aload_n 0, 1) := by decide +kernel
theorem d_Mo_init_486 : decode b_Mo_init 486 = .ok (.bipush 28, 2) := by decide +kernel
theorem d_Mo_init_488 : decode b_Mo_init 488 = .ok (.newarray .int, 2) := by decide +kernel
theorem d_Mo_init_490 : decode b_Mo_init 490 = .ok (.putfield 308, 3) := by decide +kernel
theorem d_Mo_init_493 : decode b_Mo_init 493 = .ok (.aload_n 0, 1) := by decide +kernel
theorem d_Mo_init_494 : decode b_Mo_init 494 = .ok (.bipush 10, 2) := by decide +kernel
theorem d_Mo_init_496 : decode b_Mo_init 496 = .ok (.newarray .int, 2) := by decide +kernel
theorem d_Mo_init_498 : decode b_Mo_init 498 = .ok (.putfield 311, 3) := by decide +kernel
theorem d_Mo_init_501 : decode b_Mo_init 501 = .ok (.aload_n 0, 1) := by decide +kernel
theorem d_Mo_init_502 : decode b_Mo_init 502 = .ok (.sipush 6000, 3) := by decide +kernel
theorem d_Mo_init_505 : decode b_Mo_init 505 = .ok (.newarray .byte, 2) := by decide +kernel
theorem d_Mo_init_507 : decode b_Mo_init 507 = .ok (.putfield 314, 3) := by decide +kernel
theorem d_Mo_init_510 : decode b_Mo_init 510 = .ok (.aload_n 0, 1) := by decide +kernel
theorem d_Mo_init_511 : decode b_Mo_init 511 = .ok (.bipush (-2), 2) := by decide +kernel
theorem d_Mo_init_513 : decode b_Mo_init 513 = .ok (.putfield 317, 3) := by decide +kernel
theorem d_Mo_init_516 : decode b_Mo_init 516 = .ok (.aload_n 0, 1) := by decide +kernel
theorem d_Mo_init_517 : decode b_Mo_init 517 = .ok (.bipush 6, 2) := by decide +kernel
theorem d_Mo_init_519 : decode b_Mo_init 519 = .ok (.newarray .int, 2) := by decide +kernel
theorem d_Mo_init_521 : decode b_Mo_init 521 = .ok (.putfield 320, 3) := by decide +kernel
theorem d_Mo_init_524 : decode b_Mo_init 524 = .ok (.aload_n 0, 1) := by decide +kernel
theorem d_Mo_init_525 : decode b_Mo_init 525 = .ok (.sipush 1024, 3) := by decide +kernel
theorem d_Mo_init_528 : decode b_Mo_init 528 = .ok (.newarray .byte, 2) := by decide +kernel
theorem d_Mo_init_530 : decode b_Mo_init 530 = .ok (.putfield 323, 3) := by decide +kernel
theorem d_Mo_init_533 : decode b_Mo_init 533 = .ok (.aload_n 0, 1) := by decide +kernel
theorem d_Mo_init_534 : decode b_Mo_init 534 = .ok (.bipush 81, 2) := by decide +kernel
theorem d_Mo_init_536 : decode b_Mo_init 536 = .ok (.newarray .boolean, 2) := by decide +kernel
theorem d_Mo_init_538 : decode b_Mo_init 538 = .ok (.putfield 326, 3) := by decide +kernel
theorem d_Mo_init_541 : decode b_Mo_init 541 = .ok (.aload_n 0, 1) := by decide +kernel
theorem d_Mo_init_542 : decode b_Mo_init 542 = .ok (.bipush 80, 2) := by decide +kernel
theorem d_Mo_init_544 : decode b_Mo_init 544 = .ok (.newarray .boolean, 2) := by decide +kernel
theorem d_Mo_init_546 : decode b_Mo_init 546 = .ok (.putfield 329, 3) := by decide +kernel
theorem d_Mo_init_549 : decode b_Mo_init 549 = .ok (.aload_n 0, 1) := by decide +kernel
theorem d_Mo_init_550 : decode b_Mo_init 550 = .ok (.bipush 80, 2) := by decide +kernel
theorem d_Mo_init_552 : decode b_Mo_init 552 = .ok (.newarray .int, 2) := by decide +kernel
theorem d_Mo_init_554 : decode b_Mo_init 554 = .ok (.putfield 332, 3) := by decide +kernel
theorem d_Mo_init_557 : decode b_Mo_init 557 = .ok (.aload_n 0, 1) := by decide +kernel
theorem d_Mo_init_558 : decode b_Mo_init 558 = .ok (.sipush 1600, 3) := by decide +kernel
theorem d_Mo_init_561 : decode b_Mo_init 561 = .ok (.newarray .int, 2) := by decide +kernel
theorem d_Mo_init_563 : decode b_Mo_init 563 = .ok (.putfield 335, 3) := by decide +kernel
theorem d_Mo_init_566 : decode b_Mo_init 566 = .ok (.aload_n 0, 1) := by decide +kernel
theorem d_Mo_init_567 : decode b_Mo_init 567 = .ok (.sipush 2240, 3) := by decide +kernel
theorem d_Mo_init_570 : decode b_Mo_init 570 = .ok (.newarray .int, 2) := by decide +kernel
theorem d_Mo_init_572 : decode b_Mo_init 572 = .ok (.putfield 338, 3) := by decide +kernel
theorem d_Mo_init_575 : decode b_Mo_init 575 = .ok (.aload_n 0, 1) := by decide +kernel
theorem d_Mo_init_576 : decode b_Mo_init 576 = .ok (.iconst 1, 1) := by decide +kernel
theorem d_Mo_init_577 : decode b_Mo_init 577 = .ok (.newarray .int, 2) := by decide +kernel
theorem d_Mo_init_579 : decode b_Mo_init 579 = .ok (.putfield 341, 3) := by decide +kernel
theorem d_Mo_init_582 : decode b_Mo_init 582 = .ok (.aload_n 0, 1) := by decide +kernel
theorem d_Mo_init_583 : decode b_Mo_init 583 = .ok (.bipush 20, 2) := by decide +kernel
theorem d_Mo_init_585 : decode b_Mo_init 585 = .ok (.newarray .int, 2) := by decide +kernel
theorem d_Mo_init_587 : decode b_Mo_init 587 = .ok (.putfield 344, 3) := by decide +kernel
theorem d_Mo_init_590 : decode b_Mo_init 590 = .ok (.aload_n 0, 1) := by decide +kernel
theorem d_Mo_init_591 : decode b_Mo_init 591 = .ok (.bipush 28, 2) := by decide +kernel
theorem d_Mo_init_593 : decode b_Mo_init 593 = .ok (.newarray .int, 2) := by decide +kernel
theorem d_Mo_init_595 : decode b_Mo_init 595 = .ok (.putfield 347, 3) := by decide +kernel
theorem d_Mo_init_598 : decode b_Mo_init 598 = .ok (.aload_n 0, 1) := by decide +kernel
theorem d_Mo_init_599 : decode b_Mo_init 599 = .ok (.sipush 612, 3) := by decide +kernel
theorem d_Mo_init_602 : decode b_Mo_init 602 = .ok (.newarray .int, 2) := by decide +kernel
theorem d_Mo_init_604 : decode b_Mo_init 604 = .ok (.putfield 350, 3) := by decide +kernel
theorem d_Mo_init_607 : decode b_Mo_init 607 = .ok (.aload_n 0, 1) := by decide +kernel
theorem d_Mo_init_608 : decode b_Mo_init 608 = .ok (.sipush 612, 3) := by decide +kernel
theorem d_Mo_init_611 : decode b_Mo_init 611 = .ok (.newarray .boolean, 2) := by decide +kernel
theorem d_Mo_init_613 : decode b_Mo_init 613 = .ok (.putfield 353, 3) := by decide +kernel
theorem d_Mo_init_616 : decode b_Mo_init 616 = .ok (.aload_n 0, 1) := by decide +kernel
theorem d_Mo_init_617 : decode b_Mo_init 617 = .ok (.sipush 801, 3) := by decide +kernel
theorem d_Mo_init_620 : decode b_Mo_init 620 = .ok (.newarray .boolean, 2) := by decide +kernel
theorem d_Mo_init_622 : decode b_Mo_init 622 = .ok (.putfield 356, 3) := by decide +kernel
theorem d_Mo_init_625 : decode b_Mo_init 625 = .ok (.aload_n 0, 1) := by decide +kernel
theorem d_Mo_init_626 : decode b_Mo_init 626 = .ok (.sipush 801, 3) := by decide +kernel
theorem d_Mo_init_629 : decode b_Mo_init 629 = .ok (.newarray .int, 2) := by decide +kernel
theorem d_Mo_init_631 : decode b_Mo_init 631 = .ok (.putfield 359, 3) := by decide +kernel
theorem d_Mo_init_634 : decode b_Mo_init 634 = .ok (.aload_n 0, 1) := by decide +kernel
theorem d_Mo_init_635 : decode b_Mo_init 635 = .ok (.sipush 4000, 3) := by decide +kernel
theorem d_Mo_init_638 : decode b_Mo_init 638 = .ok (.newarray .int, 2) := by decide +kernel
theorem d_Mo_init_640 : decode b_Mo_init 640 = .ok (.putfield 362, 3) := by decide +kernel
theorem d_Mo_init_643 : decode b_Mo_init 643 = .ok (.aload_n 0, 1) := by decide +kernel
theorem d_Mo_init_644 : decode b_Mo_init 644 = .ok (.sipush 256, 3) := by decide +kernel
theorem d_Mo_init_647 : decode b_Mo_init 647 = .ok (.newarray .byte, 2) := by decide +kernel
theorem d_Mo_init_649 : decode b_Mo_init 649 = .ok (.putfield 365, 3) := by decide +kernel
theorem d_Mo_init_652 : decode b_Mo_init 652 = .ok (.aload_n 0, 1) := by decide +kernel
theorem d_Mo_init_653 : decode b_Mo_init 653 = .ok (.sipush 256, 3) := by decide +kernel
theorem d_Mo_init_656 : decode b_Mo_init 656 = .ok (.newarray .byte, 2) := by decide +kernel
theorem d_Mo_init_658 : decode b_Mo_init 658 = .ok (.putfield 368, 3) := by decide +kernel
theorem d_Mo_init_661 : decode b_Mo_init 661 = .ok (.aload_n 0, 1) := by decide +kernel
theorem d_Mo_init_662 : decode b_Mo_init 662 = .ok (.ldc_w 371, 3) := by decide +kernel
theorem d_Mo_init_665 : decode b_Mo_init 665 = .ok (.newarray .byte, 2) := by decide +kernel
theorem d_Mo_init_667 : decode b_Mo_init 667 = .ok (.putfield 372, 3) := by decide +kernel
theorem d_Mo_init_670 : decode b_Mo_init 670 = .ok (.aload_n 0, 1) := by decide +kernel
theorem d_Mo_init_671 : decode b_Mo_init 671 = .ok (.bipush 40, 2) := by decide +kernel
theorem d_Mo_init_673 : decode b_Mo_init 673 = .ok (.newarray .int, 2) := by decide +kernel
theorem d_Mo_init_675 : decode b_Mo_init 675 = .ok (.putfield 375, 3) := by decide +kernel
theorem d_Mo_init_678 : decode b_Mo_init 678 = .ok (.aload_n 0, 1) := by decide +kernel
theorem d_Mo_init_679 : decode b_Mo_init 679 = .ok (.bipush 40, 2) := by decide +kernel
theorem d_Mo_init_681 : decode b_Mo_init 681 = .ok (.newarray .boolean, 2) := by decide +kernel
theorem d_Mo_init_683 : decode b_Mo_init 683 = .ok (.putfield 378, 3) := by decide +kernel
theorem d_Mo_init_686 : decode b_Mo_init 686 = .ok (.aload_n 0, 1) := by decide +kernel
theorem d_Mo_init_687 : decode b_Mo_init 687 = .ok (.bipush 40, 2) := by decide +kernel
theorem d_Mo_init_689 : decode b_Mo_init 689 = .ok (.newarray .int, 2) := by decide +kernel
theorem d_Mo_init_691 : decode b_Mo_init 691 = .ok (.putfield 381, 3) := by decide +kernel
theorem d_Mo_init_694 : decode b_Mo_init 694 = .ok (.aload_n 0, 1) := by decide +kernel
theorem d_Mo_init_695 : decode b_Mo_init 695 = .ok (.bipush 40, 2) := by decide +kernel
theorem d_Mo_init_697 : decode b_Mo_init 697 = .ok (.newarray .int, 2) := by decide +kernel
theorem d_Mo_init_699 : decode b_Mo_init 699 = .ok (.putfield 384, 3) := by decide +kernel
theorem d_Mo_init_702 : decode b_Mo_init 702 = .ok (.aload_n 0, 1) := by decide +kernel
theorem d_Mo_init_703 : decode b_Mo_init 703 = .ok (.sipush 2408, 3) := by decide +kernel
theorem d_Mo_init_706 : decode b_Mo_init 706 = .ok (.newarray .byte, 2) := by decide +kernel
theorem d_Mo_init_708 : decode b_Mo_init 708 = .ok (.putfield 387, 3) := by decide +kernel
theorem d_Mo_init_711 : decode b_Mo_init 711 = .ok (.aload_n 0, 1) := by decide +kernel
theorem d_Mo_init_712 : decode b_Mo_init 712 = .ok (.sipush 256, 3) := by decide +kernel
theorem d_Mo_init_715 : decode b_Mo_init 715 = .ok (.newarray .int, 2) := by decide +kernel
theorem d_Mo_init_717 : decode b_Mo_init 717 = .ok (.putfield 390, 3) := by decide +kernel
theorem d_Mo_init_720 : decode b_Mo_init 720 = .ok (.aload_n 0, 1) := by decide +kernel
theorem d_Mo_init_721 : decode b_Mo_init 721 = .ok (.sipush 256, 3) := by decide +kernel
theorem d_Mo_init_724 : decode b_Mo_init 724 = .ok (.newarray .int, 2) := by decide +kernel
theorem d_Mo_init_726 : decode b_Mo_init 726 = .ok (.putfield 393, 3) := by decide +kernel
theorem d_Mo_init_729 : decode b_Mo_init 729 = .ok (.aload_n 0, 1) := by decide +kernel
theorem d_Mo_init_730 : decode b_Mo_init 730 = .ok (.sipush 256, 3) := by decide +kernel
theorem d_Mo_init_733 : decode b_Mo_init 733 = .ok (.newarray .int, 2) := by decide +kernel
theorem d_Mo_init_735 : decode b_Mo_init 735 = .ok (.putfield 396, 3) := by decide +kernel
theorem d_Mo_init_738 : decode b_Mo_init 738 = .ok (.aload_n 0, 1) := by decide +kernel
theorem d_Mo_init_739 : decode b_Mo_init 739 = .ok (.sipush 256, 3) := by decide +kernel
theorem d_Mo_init_742 : decode b_Mo_init 742 = .ok (.newarray .int, 2) := by decide +kernel
theorem d_Mo_init_744 : decode b_Mo_init 744 = .ok (.putfield 399, 3) := by decide +kernel
theorem d_Mo_init_747 : decode b_Mo_init 747 = .ok (.aload_n 0, 1) := by decide +kernel
theorem d_Mo_init_748 : decode b_Mo_init 748 = .ok (.bipush 62, 2) := by decide +kernel
theorem d_Mo_init_750 : decode b_Mo_init 750 = .ok (.newarray .int, 2) := by decide +kernel
theorem d_Mo_init_752 : decode b_Mo_init 752 = .ok (.putfield 402, 3) := by decide +kernel
theorem d_Mo_init_755 : decode b_Mo_init 755 = .ok (.iconst 0, 1) := by decide +kernel
theorem d_Mo_init_756 : decode b_Mo_init 756 = .ok (.istore_n 1, 1) := by decide +kernel
theorem d_Mo_init_757 : decode b_Mo_init 757 = .ok (.iload_n 1, 1) := by decide +kernel
theorem d_Mo_init_758 : decode b_Mo_init 758 = .ok (.iconst 3, 1) := by decide +kernel
theorem d_Mo_init_759 : decode b_Mo_init 759 = .ok (.if_icmp .gt 53, 3) := by decide +kernel
theorem d_Mo_init_762 : decode b_Mo_init 762 = .ok (.aload_n 0, 1) := by decide +kernel
theorem d_Mo_init_763 : decode b_Mo_init 763 = .ok (.getfield 263, 3) := by decide +kernel
theorem d_Mo_init_766 : decode b_Mo_init 766 = .ok (.iload_n 1, 1) := by decide +kernel
theorem d_Mo_init_767 : decode b_Mo_init 767 = .ok (.new 261, 3) := by decide +kernel
theorem d_Mo_init_770 : decode b_Mo_init 770 = .ok (.dup, 1) := by decide +kernel
theorem d_Mo_init_771 : decode b_Mo_init 771 = .ok (.invokespecial 405, 3) := by decide +kernel
theorem d_Mo_init_774 : decode b_Mo_init 774 = .ok (.aastore, 1) := by decide +kernel
theorem d_Mo_init_775 : decode b_Mo_init 775 = .ok (.iconst 0, 1) := by decide +kernel
theorem d_Mo_init_776 : decode b_Mo_init 776 = .ok (.istore_n 2, 1) := by decide +kernel
theorem d_Mo_init_777 : decode b_Mo_init 777 = .ok (.iload_n 2, 1) := by decide +kernel
theorem d_Mo_init_778 : decode b_Mo_init 778 = .ok (.iconst 3, 1) := by decide +kernel
theorem d_Mo_init_779 : decode b_Mo_init 779 = .ok (.if_icmp .ge 27, 3) := by decide +kernel
theorem d_Mo_init_782 : decode b_Mo_init 782 = .ok (.aload_n 0, 1) := by decide +kernel
theorem d_Mo_init_783 : decode b_Mo_init 783 = .ok (.getfield 263, 3) := by decide +kernel
theorem d_Mo_init_786 : decode b_Mo_init 786 = .ok (.iload_n 1, 1) := by decide +kernel
theorem d_Mo_init_787 : decode b_Mo_init 787 = .ok (.aaload, 1) := by decide +kernel
theorem d_Mo_init_788 : decode b_Mo_init 788 = .ok (.getfield 406, 3) := by decide +kernel
theorem d_Mo_init_791 : decode b_Mo_init 791 = .ok (.iload_n 2, 1) := by decide +kernel
theorem d_Mo_init_792 : decode b_Mo_init 792 = .ok (.new 410, 3) := by decide +kernel
theorem d_Mo_init_795 : decode b_Mo_init 795 = .ok (.dup, 1) := by decide +kernel
theorem d_Mo_init_796 : decode b_Mo_init 796 = .ok (.invokespecial 412, 3) := by decide +kernel
theorem d_Mo_init_799 : decode b_Mo_init 799 = .ok (.aastore, 1) := by decide +kernel
theorem d_Mo_init_800 : decode b_Mo_init 800 = .ok (.iinc 2 1, 3) := by decide +kernel
theorem d_Mo_init_803 : decode b_Mo_init 803 = .ok (.goto (-26), 3) := by decide +kernel
theorem d_Mo_init_806 : decode b_Mo_init 806 = .ok (.iinc 1 1, 3) := by decide +kernel
theorem d_Mo_init_809 : decode b_Mo_init 809 = .ok (.goto (-52), 3) := by decide +kernel
theorem d_Mo_init_812 : decode b_Mo_init 812 = .ok (.return_, 1) := by decide +kernel
abbrev rm_Mo_init : Room := { frames := 8, cells := 398, slots := 310546, locals := 146 }
def Zs : List Value := [.null, .null, .null, .null, .int (nI 0), .null, .int (nI 0), .int (nI 0), .int (nI 0), .int (nI 0), .int (nI 0), .int (nI 0), .int (nI 0), .int (nI 0), .int (nI 0), .int (nI 0), .int (nI 0), .int (nI 0), .int (nI 0), .int (nI 0), .int (nI 0), .int (nI 0), .int (nI 0), .int (nI 0), .int (nI 0), .int (nI 0), .int (nI 0), .int (nI 0), .int (nI 0), .int (nI 0), .null, .null, .null, .null, .null, .null, .int (nI 0), .int (nI 0), .int (nI 0), .null, .null, .null, .int (nI 0), .int (nI 0), .null, .null, .null, .int (nI 0), .null, .int (nI 0), .int (nI 0), .int (nI 0), .int (nI 0), .int (nI 0), .int (nI 0), .null, .int (nI 0), .null, .null, .null, .int (nI 0), .null, .null, .null, .int (nI 0), .int (nI 0), .null, .null, .int (nI 0), .long 0, .null, .null, .int (nI 0), .int (nI 0), .int (nI 0), .int (nI 0), .int (nI 0), .int (nI 0), .null, .int (nI 0), .int (nI 0), .int (nI 0), .long 0, .int (nI 0), .null, .int (nI 0), .int (nI 0), .null, .int (nI 0), .int (nI 0), .int (nI 0), .int (nI 0), .int (nI 0), .int (nI 0), .null, .int (nI 0), .null, .null, .null, .null, .null, .int (nI 0), .int (nI 0), .int (nI 0), .null, .null, .null, .null, .null, .int (nI 0), .null, .null, .int (nI 0), .null, .null, .null, .null, .null, .null, .null, .null, .int (nI 0), .null, .int (nI 0), .int (nI 0), .int (nI 0), .null, .null, .null, .null, .null]
abbrev sl_Mo (K V : Nat → Nat) : List SL := [z_Mo_140 (K 140) (V 140), z_Mo_146 (K 146) (V 146), z_Mo_148 (K 148) (V 148), z_Mo_156 (K 156) (V 156), z_Mo_161 (K 161) (V 161), z_Mo_166 (K 166) (V 166), z_Mo_171 (K 171) (V 171), z_Mo_176 (K 176) (V 176), z_Mo_181 (K 181) (V 181), z_Mo_186 (K 186) (V 186), z_Mo_191 (K 191) (V 191), z_Mo_195 (K 195) (V 195), z_Mo_200 (K 200) (V 200), z_Mo_205 (K 205) (V 205), z_Mo_210 (K 210) (V 210), z_Mo_215 (K 215) (V 215), z_Mo_220 (K 220) (V 220), z_Mo_225 (K 225) (V 225), z_Mo_230 (K 230) (V 230), z_Mo_235 (K 235) (V 235), z_Mo_240 (K 240) (V 240), z_Mo_269 (K 269) (V 269)]
theorem sm_Mo_140 (K V : Nat → Nat) : z_Mo_140 (K 140) (V 140) ∈ sl_Mo K V := List.mem_of_getElem? (i := 0) rfl
theorem sm_Mo_146 (K V : Nat → Nat) : z_Mo_146 (K 146) (V 146) ∈ sl_Mo K V := List.mem_of_getElem? (i := 1) rfl
theorem sm_Mo_148 (K V : Nat → Nat) : z_Mo_148 (K 148) (V 148) ∈ sl_Mo K V := List.mem_of_getElem? (i := 2) rfl
theorem sm_Mo_156 (K V : Nat → Nat) : z_Mo_156 (K 156) (V 156) ∈ sl_Mo K V := List.mem_of_getElem? (i := 3) rfl
theorem sm_Mo_161 (K V : Nat → Nat) : z_Mo_161 (K 161) (V 161) ∈ sl_Mo K V := List.mem_of_getElem? (i := 4) rfl
theorem sm_Mo_166 (K V : Nat → Nat) : z_Mo_166 (K 166) (V 166) ∈ sl_Mo K V := List.mem_of_getElem? (i := 5) rfl
theorem sm_Mo_171 (K V : Nat → Nat) : z_Mo_171 (K 171) (V 171) ∈ sl_Mo K V := List.mem_of_getElem? (i := 6) rfl
theorem sm_Mo_176 (K V : Nat → Nat) : z_Mo_176 (K 176) (V 176) ∈ sl_Mo K V := List.mem_of_getElem? (i := 7) rfl
theorem sm_Mo_181 (K V : Nat → Nat) : z_Mo_181 (K 181) (V 181) ∈ sl_Mo K V := List.mem_of_getElem? (i := 8) rfl
theorem sm_Mo_186 (K V : Nat → Nat) : z_Mo_186 (K 186) (V 186) ∈ sl_Mo K V := List.mem_of_getElem? (i := 9) rfl
theorem sm_Mo_191 (K V : Nat → Nat) : z_Mo_191 (K 191) (V 191) ∈ sl_Mo K V := List.mem_of_getElem? (i := 10) rfl
theorem sm_Mo_195 (K V : Nat → Nat) : z_Mo_195 (K 195) (V 195) ∈ sl_Mo K V := List.mem_of_getElem? (i := 11) rfl
theorem sm_Mo_200 (K V : Nat → Nat) : z_Mo_200 (K 200) (V 200) ∈ sl_Mo K V := List.mem_of_getElem? (i := 12) rfl
theorem sm_Mo_205 (K V : Nat → Nat) : z_Mo_205 (K 205) (V 205) ∈ sl_Mo K V := List.mem_of_getElem? (i := 13) rfl
theorem sm_Mo_210 (K V : Nat → Nat) : z_Mo_210 (K 210) (V 210) ∈ sl_Mo K V := List.mem_of_getElem? (i := 14) rfl
theorem sm_Mo_215 (K V : Nat → Nat) : z_Mo_215 (K 215) (V 215) ∈ sl_Mo K V := List.mem_of_getElem? (i := 15) rfl
theorem sm_Mo_220 (K V : Nat → Nat) : z_Mo_220 (K 220) (V 220) ∈ sl_Mo K V := List.mem_of_getElem? (i := 16) rfl
theorem sm_Mo_225 (K V : Nat → Nat) : z_Mo_225 (K 225) (V 225) ∈ sl_Mo K V := List.mem_of_getElem? (i := 17) rfl
theorem sm_Mo_230 (K V : Nat → Nat) : z_Mo_230 (K 230) (V 230) ∈ sl_Mo K V := List.mem_of_getElem? (i := 18) rfl
theorem sm_Mo_235 (K V : Nat → Nat) : z_Mo_235 (K 235) (V 235) ∈ sl_Mo K V := List.mem_of_getElem? (i := 19) rfl
theorem sm_Mo_240 (K V : Nat → Nat) : z_Mo_240 (K 240) (V 240) ∈ sl_Mo K V := List.mem_of_getElem? (i := 20) rfl
theorem sm_Mo_269 (K V : Nat → Nat) : z_Mo_269 (K 269) (V 269) ∈ sl_Mo K V := List.mem_of_getElem? (i := 21) rfl
section MO
variable {p : Program} {l : Launch} {e : Env} {s : State} {m : MethodId} {args : Array Value} {below : List Frame} {meth : Method} {c : Code} {H : Heap} {locs : List Loc} {cells slots : Nat} {Q : State → Prop} {pc : Nat} {ls : Array Slot} {rest : List Value} {A0 : Nat → Prop} {D : va_G} {g : Nat → ClassId} {sl : List SL} {h1 : Nat}
theorem mo_put {index : Nat} {v : Value} {fs : List Value} {X : va_W} (G : GV l p s m args meth c y_Mo_init b_Mo_init 3 none g D sl A0) (hP : va_P D CL ((h1, .inr (14, fs)) :: X) H) (hD : va_D A0 ((h1, .inr (14, fs)) :: X)) (hS : va_S A0 s.heap H locs) (hlen : fs.length = 131) (k : Nat) (hk : k < 131) (hlink : Cond.fieldLink "ClassWorksModel" index "ClassWorksModel" (TMo k).2.1 (TMo k).2.2.1 ∈ lw_ok) (hsame : (TMo k).1 = "ClassWorksModel") (hn : narrow (tMo k) v = v) (hfit : fits (tMo k) v = true) (hdg : decode b_Mo_init pc = .ok (.putfield index, 3))
    (kk : ∀ (fs1 : List Value) (H1 : Heap) (locs1 : List Loc), fs1.length = 131 → fs1[k]? = some v → (∀ j, k ≠ j → fs1[j]? = fs[j]?) → va_P D CL ((h1, .inr (14, fs1)) :: X) H1 → va_D A0 ((h1, .inr (14, fs1)) :: X) → va_S A0 s.heap H1 locs1 → W p l e rm_Mo_init s m args below meth c H1 locs1 cells slots Q (F0 m (pc + 3) ls rest)) : W p l e rm_Mo_init s m args below meth c H locs cells slots Q (F0 m pc ls (v :: .ref h1 :: rest)) := by
  have hkl : k < fs.length := by rw [hlen]; exact hk
  have go : ∀ (H1 : Heap) (locs1 : List Loc), va_P D CL ((h1, .inr (14, fs.set k v)) :: X) H1 → va_D A0 ((h1, .inr (14, fs.set k v)) :: X) → va_S A0 s.heap H1 locs1 → W p l e rm_Mo_init s m args below meth c H1 locs1 cells slots Q (F0 m (pc + 3) ls rest) := fun H1 locs1 hP1 hD1 hS1 => kk (fs.set k v) H1 locs1 (llen_set hlen) (lset_eq hkl) (fun j hj => List.getElem?_set_ne hj) hP1 hD1 hS1
  cases hfin : (TMo k).2.2.2 with
  | false => exact kp (ci := 14) G iMo tMo tMo_ok nMo hP hD hS 0 rfl rfl k hk hlink hsame hfin hn hfit hkl hdg go
  | true => exact kpF (ci := 14) G iMo tMo tMo_ok nMo hP hD hS 0 rfl rfl k hk hlink hsame hfin rfl hsame hn hfit hkl hdg go
/-- a new row, put into a field and kept -/
theorem mo_arrK {atype : ArrayType} {ty : FieldType} {cA : ClassId} {nn index c1 s1 : Nat} {a0 : vp_A} {fs : List Value} {X : va_W} (G : GV l p s m args meth c y_Mo_init b_Mo_init 3 none g D sl A0) (harr : Cond.arrayClass ty ∈ lw_ok) (hty : newarray.typeOf atype = ty) (hra : ∀ x : ClassId, va_RA s x ty → s.vm.findClass ("[" ++ ty.toString) = some x) (t0 : Nat) (ht0 : (TY g)[t0]? = some (cA, ty)) (hP : va_P D CL ((h1, .inr (14, fs)) :: X) H) (hD : va_D A0 ((h1, .inr (14, fs)) :: X)) (hS : va_S A0 s.heap H locs) (ha : ∀ x : ClassId, vp_cell x a0 = arrV x nn (fun _ => defaultValue ty)) (hnn : nn < 2 ^ 31) (hbytes : nn * componentBytes ty ≤ 536870912) (hd1 : decode b_Mo_init pc = .ok (.newarray atype, 2)) (hlen : fs.length = 131) (k : Nat) (hk : k < 131) (hlink : Cond.fieldLink "ClassWorksModel" index "ClassWorksModel" (TMo k).2.1 (TMo k).2.2.1 ∈ lw_ok) (hsame : (TMo k).1 = "ClassWorksModel") (hn : ∀ q : Nat, narrow (tMo k) (.ref q) = .ref q) (hfit : ∀ q : Nat, fits (tMo k) (.ref q) = true) (hd2 : decode b_Mo_init (pc + 2) = .ok (.putfield index, 3)) (hc1 : cells + 1 ≤ c1) (hc2 : c1 ≤ 398) (hs1 : slots + nn ≤ s1) (hs2 : s1 ≤ 310546)
    (kk : ∀ (q : Nat) (fs1 : List Value) (H1 : Heap) (locs1 : List Loc), fs1.length = 131 → fs1[k]? = some (.ref q) → (∀ j, k ≠ j → fs1[j]? = fs[j]?) → va_P D CL ((h1, .inr (14, fs1)) :: (q, .inl (cA, a0)) :: X) H1 → va_D A0 ((h1, .inr (14, fs1)) :: (q, .inl (cA, a0)) :: X) → va_S A0 s.heap H1 locs1 → W p l e rm_Mo_init s m args below meth c H1 locs1 c1 s1 Q (F0 m (pc + 5) ls [])) : W p l e rm_Mo_init s m args below meth c H locs cells slots Q (F0 m pc ls [.int (nI nn), .ref h1]) := by
  refine kNew (N' := nn) (a0 := a0) G harr hty hra t0 ht0 hP hD hS ha (nI_pos hnn) (nI_clamp hnn) hbytes (Nat.le_trans hc1 hc2) (Nat.le_trans hs1 hs2) hd1 (fun q H1 hP1 hD1 hS1 => ?_)
  refine W.widen (k := c1) (n := s1) hc1 hs1 ?_
  exact mo_put G (va_P1 hP1) (va_D1 hD1) hS1 hlen k hk hlink hsame (hn q) (hfit q) hd2 (fun fs1 H2 locs2 g1 g2 g3 hP2 hD2 hS2 => kk q fs1 H2 locs2 g1 g2 g3 hP2 hD2 hS2)
/-- a new row, put into a field and let go -/
theorem mo_arrD {atype : ArrayType} {ty : FieldType} {cA : ClassId} {nn index c1 s1 : Nat} {a0 : vp_A} {fs : List Value} {X : va_W} (G : GV l p s m args meth c y_Mo_init b_Mo_init 3 none g D sl A0) (harr : Cond.arrayClass ty ∈ lw_ok) (hty : newarray.typeOf atype = ty) (hra : ∀ x : ClassId, va_RA s x ty → s.vm.findClass ("[" ++ ty.toString) = some x) (t0 : Nat) (ht0 : (TY g)[t0]? = some (cA, ty)) (hP : va_P D CL ((h1, .inr (14, fs)) :: X) H) (hD : va_D A0 ((h1, .inr (14, fs)) :: X)) (hS : va_S A0 s.heap H locs) (ha : ∀ x : ClassId, vp_cell x a0 = arrV x nn (fun _ => defaultValue ty)) (hnn : nn < 2 ^ 31) (hbytes : nn * componentBytes ty ≤ 536870912) (hd1 : decode b_Mo_init pc = .ok (.newarray atype, 2)) (hlen : fs.length = 131) (k : Nat) (hk : k < 131) (hlink : Cond.fieldLink "ClassWorksModel" index "ClassWorksModel" (TMo k).2.1 (TMo k).2.2.1 ∈ lw_ok) (hsame : (TMo k).1 = "ClassWorksModel") (hn : ∀ q : Nat, narrow (tMo k) (.ref q) = .ref q) (hfit : ∀ q : Nat, fits (tMo k) (.ref q) = true) (hd2 : decode b_Mo_init (pc + 2) = .ok (.putfield index, 3)) (hc1 : cells + 1 ≤ c1) (hc2 : c1 ≤ 398) (hs1 : slots + nn ≤ s1) (hs2 : s1 ≤ 310546)
    (kk : ∀ (q : Nat) (fs1 : List Value) (H1 : Heap) (locs1 : List Loc), fs1.length = 131 → fs1[k]? = some (.ref q) → (∀ j, k ≠ j → fs1[j]? = fs[j]?) → va_P D CL ((h1, .inr (14, fs1)) :: X) H1 → va_D A0 ((h1, .inr (14, fs1)) :: X) → va_S A0 s.heap H1 locs1 → W p l e rm_Mo_init s m args below meth c H1 locs1 c1 s1 Q (F0 m (pc + 5) ls [])) : W p l e rm_Mo_init s m args below meth c H locs cells slots Q (F0 m pc ls [.int (nI nn), .ref h1]) :=
  mo_arrK G harr hty hra t0 ht0 hP hD hS ha hnn hbytes hd1 hlen k hk hlink hsame hn hfit hd2 hc1 hc2 hs1 hs2 (fun q fs1 H1 locs1 g1 g2 g3 hP1 hD1 hS1 => kk q fs1 H1 locs1 g1 g2 g3 (va_P2 hP1) (va_D2 hD1) hS1)
abbrev mk_w (g : Nat → ClassId) (nb nz nx nf kr : Nat) (fb fz fn fh fk : Nat → Int32) : va_W := [(nb, .inl (g 1, 6144, .inl fb)), (nz, .inl (g 1, 512, .inl fz)), (nx, .inl (g 0, 512, .inl fn)), (nf, .inl (g 0, 4096, .inl fh)), (kr, .inl (g 1, 16, .inl fk))]
def mk_f (nb nz nx nf kr kq : Nat) (fs : List Value) : Prop := fs.length = 131 ∧ fs[0]? = some (.ref nb) ∧ fs[1]? = some (.ref nz) ∧ fs[2]? = some (.ref nx) ∧ fs[3]? = some (.ref nf) ∧ fs[4]? = some (.int (nI kq)) ∧ fs[5]? = some (.ref kr)
theorem q2580 : Cond.code y_Mo_key b_Mo_key 3 (some .int) ∈ lw_ok := lw_okmem (List.mem_of_getElem? (i := 2580) (by decide +kernel)) rfl
theorem q2579 : Cond.instanceMethod y_Mo_key ∈ lw_ok := lw_okmem (List.mem_of_getElem? (i := 2579) (by decide +kernel)) rfl
theorem q168 : Cond.selects y_Mo_key.cls y_Mo_key y_Mo_key ∈ lw_ok := lw_okmem (List.mem_of_getElem? (i := 168) (by decide +kernel)) rfl
theorem w_Mo_key : CWv y_Mo_key b_Mo_key 3 (some .int) 1 ∧ Cond.instanceMethod y_Mo_key ∈ lw_ok ∧ Cond.selects y_Mo_key.cls y_Mo_key y_Mo_key ∈ lw_ok := ⟨⟨q2580, q348, by decide +kernel, by decide +kernel, by decide +kernel⟩, q2579, q168⟩
theorem q2577 : Cond.methodLink "ClassWorksModel" 142 y_Mo_key ∈ lw_ok := lw_okmem (List.mem_of_getElem? (i := 2577) (by decide +kernel)) rfl
theorem mo_key {nb nz nx nf kr kq idx index : Nat} {fs : List Value} {fb fz fn fh fk : Nat → Int32} {tx : String} (G : GV l p s m args meth c y_Mo_init b_Mo_init 3 none g D sl A0) (hP : va_P D CL ((h1, .inr (14, fs)) :: mk_w g nb nz nx nf kr fb fz fn fh fk) H) (hD : va_D A0 ((h1, .inr (14, fs)) :: mk_w g nb nz nx nf kr fb fz fn fh fk)) (hS : va_S A0 s.heap H locs) (hl : lv_has ls 3 [(0, .ref h1)]) (hf : mk_f nb nz nx nf kr kq fs) (hI : MI kq fn fh) (x : SL) (hx : x ∈ sl) (hR : vk_R "ClassWorksModel" idx tx (sk x) s) (nq : Nat) (hxl : (sb x).length ≤ 12) (hkq : kq < 512) (hnq : nq = 1) (k : Nat) (hk : k < 131) (hk5 : 5 < k) (hlink : Cond.fieldLink "ClassWorksModel" index "ClassWorksModel" (TMo k).2.1 (TMo k).2.2.1 ∈ lw_ok) (hsame : (TMo k).1 = "ClassWorksModel") (hn : ∀ r : Int32, narrow (tMo k) (.int r) = .int r) (hfit : ∀ r : Int32, fits (tMo k) (.int r) = true) (hc : cells ≤ 398) (hs : slots ≤ 310546) (d0 : decode b_Mo_init pc = .ok (.aload_n 0, 1)) (d1 : decode b_Mo_init (pc + 1) = .ok (.aload_n 0, 1)) (d2 : decode b_Mo_init (pc + 2) = .ok (.ldc idx, 2)) (d4 : decode b_Mo_init (pc + 4) = .ok (.invokevirtual 142, 3)) (d7 : decode b_Mo_init (pc + 7) = .ok (.putfield index, 3))
    (kk : ∀ (r : Int32) (kq1 : Nat) (fs1 : List Value) (fb1 fz1 fn1 fh1 fk1 : Nat → Int32) (H1 : Heap) (locs1 : List Loc), mk_f nb nz nx nf kr kq1 fs1 → kq1 ≤ kq + nq → MI kq1 fn1 fh1 → fs1[k]? = some (.int r) → (∀ j, j ≠ 4 → k ≠ j → fs1[j]? = fs[j]?) → va_P D CL ((h1, .inr (14, fs1)) :: mk_w g nb nz nx nf kr fb1 fz1 fn1 fh1 fk1) H1 → va_D A0 ((h1, .inr (14, fs1)) :: mk_w g nb nz nx nf kr fb1 fz1 fn1 fh1 fk1) → va_S A0 s.heap H1 locs1 → W p l e rm_Mo_init s m args below meth c H1 locs1 cells slots Q (F0 m (pc + 10) ls [])) : W p l e rm_Mo_init s m args below meth c H locs cells slots Q (F0 m pc ls []) := by
  obtain ⟨glen, g0, g1, g2, g3, g4, g5⟩ := hf
  refine lv_aload_n G.1 G.2.1 d0 rfl (lv_at hl 0 rfl) ?_
  refine lv_aload_n G.1 G.2.1 d1 rfl (lv_at hl 0 rfl) ?_
  refine va_ldcS G.1 G.2.1 G.2.2.2.2.2.2.1 hR d2 ?_
  refine kEi (wr := []) G (kV (As := [.ref (sk x)]) (rest := [.ref h1]) G hP hD hS [0, 1, 2, 3, 4, 5] rfl rfl (c_Mo_key l D g h1 fs nb nz nx nf kq kr fb fz fn fh fk x H.size glen g0 g1 g2 g3 g4 g5 hI hkq hxl) w_Mo_key q2577 rfl rfl ⟨Nat.le_of_ble_eq_true rfl, Nat.le_of_ble_eq_true rfl⟩ (fun y hy => by rw [List.mem_singleton] at hy; rw [hy]; exact hx) 0 (ci := 14) rfl rfl rfl hl.1 rfl (Nat.le_of_ble_eq_true rfl) rfl ⟨hc, hs⟩ d4) hP hD hS [0, 1, 2, 3, 4, 5] [] rfl rfl rfl rfl (fun r u H1 locs1 hw hP1 hD1 hS1 hzH => ?_)
  obtain ⟨kq1, fb1, fz1, fn1, fh1, fk1⟩ := u
  have hw : kq1 ≤ kq + 1 ∧ MI kq1 fn1 fh1 := hw
  refine mo_put (fs := fs.set 4 (.int (nI kq1))) (X := mk_w g nb nz nx nf kr fb1 fz1 fn1 fh1 fk1) G hP1 hD1 hS1 (llen_set glen) k hk hlink hsame (hn r) (hfit r) d7 (fun fs1 H2 locs2 e1 e2 e3 hP2 hD2 hS2 => ?_)
  exact kk r kq1 fs1 fb1 fz1 fn1 fh1 fk1 H2 locs2 ⟨e1, (e3 0 (by omega)).trans (lset_ne (by decide) g0), (e3 1 (by omega)).trans (lset_ne (by decide) g1), (e3 2 (by omega)).trans (lset_ne (by decide) g2), (e3 3 (by omega)).trans (lset_ne (by decide) g3), (e3 4 (by omega)).trans (lset_eq (by rw [glen]; decide)), (e3 5 (by omega)).trans (lset_ne (by decide) g5)⟩ (by rw [hnq]; exact hw.1) hw.2 e2 (fun j h4 hj => (e3 j hj).trans (List.getElem?_set_ne (fun h => h4 h.symm))) hP2 hD2 hS2
theorem q2604 : Cond.code y_Mo_keys b_Mo_keys 7 (some .int) ∈ lw_ok := lw_okmem (List.mem_of_getElem? (i := 2604) (by decide +kernel)) rfl
theorem q2603 : Cond.instanceMethod y_Mo_keys ∈ lw_ok := lw_okmem (List.mem_of_getElem? (i := 2603) (by decide +kernel)) rfl
theorem q171 : Cond.selects y_Mo_keys.cls y_Mo_keys y_Mo_keys ∈ lw_ok := lw_okmem (List.mem_of_getElem? (i := 171) (by decide +kernel)) rfl
theorem w_Mo_keys : CWv y_Mo_keys b_Mo_keys 7 (some .int) 1 ∧ Cond.instanceMethod y_Mo_keys ∈ lw_ok ∧ Cond.selects y_Mo_keys.cls y_Mo_keys y_Mo_keys ∈ lw_ok := ⟨⟨q2604, q348, by decide +kernel, by decide +kernel, by decide +kernel⟩, q2603, q171⟩
theorem q2601 : Cond.methodLink "ClassWorksModel" 150 y_Mo_keys ∈ lw_ok := lw_okmem (List.mem_of_getElem? (i := 2601) (by decide +kernel)) rfl
theorem mo_keys {nb nz nx nf kr kq idx index : Nat} {fs : List Value} {fb fz fn fh fk : Nat → Int32} {tx : String} (G : GV l p s m args meth c y_Mo_init b_Mo_init 3 none g D sl A0) (hP : va_P D CL ((h1, .inr (14, fs)) :: mk_w g nb nz nx nf kr fb fz fn fh fk) H) (hD : va_D A0 ((h1, .inr (14, fs)) :: mk_w g nb nz nx nf kr fb fz fn fh fk)) (hS : va_S A0 s.heap H locs) (hl : lv_has ls 3 [(0, .ref h1)]) (hf : mk_f nb nz nx nf kr kq fs) (hI : MI kq fn fh) (x : SL) (hx : x ∈ sl) (hR : vk_R "ClassWorksModel" idx tx (sk x) s) (nq : Nat) (hnq : cbl (sb x) (sb x).length = nq) (hkq : kq + nq ≤ 512) (hxl : (sb x).length < 2 ^ 29) (hrl : ∀ j, j ≤ (sb x).length → rl (sb x) j ≤ 12) (k : Nat) (hk : k < 131) (hk5 : 5 < k) (hlink : Cond.fieldLink "ClassWorksModel" index "ClassWorksModel" (TMo k).2.1 (TMo k).2.2.1 ∈ lw_ok) (hsame : (TMo k).1 = "ClassWorksModel") (hn : ∀ r : Int32, narrow (tMo k) (.int r) = .int r) (hfit : ∀ r : Int32, fits (tMo k) (.int r) = true) (hc : cells ≤ 398) (hs : slots ≤ 310546) (d0 : decode b_Mo_init pc = .ok (.aload_n 0, 1)) (d1 : decode b_Mo_init (pc + 1) = .ok (.aload_n 0, 1)) (d2 : decode b_Mo_init (pc + 2) = .ok (.ldc idx, 2)) (d4 : decode b_Mo_init (pc + 4) = .ok (.invokevirtual 150, 3)) (d7 : decode b_Mo_init (pc + 7) = .ok (.putfield index, 3))
    (kk : ∀ (r : Int32) (kq1 : Nat) (fs1 : List Value) (fb1 fz1 fn1 fh1 fk1 : Nat → Int32) (H1 : Heap) (locs1 : List Loc), mk_f nb nz nx nf kr kq1 fs1 → kq1 ≤ kq + nq → MI kq1 fn1 fh1 → fs1[k]? = some (.int r) → (∀ j, j ≠ 4 → k ≠ j → fs1[j]? = fs[j]?) → va_P D CL ((h1, .inr (14, fs1)) :: mk_w g nb nz nx nf kr fb1 fz1 fn1 fh1 fk1) H1 → va_D A0 ((h1, .inr (14, fs1)) :: mk_w g nb nz nx nf kr fb1 fz1 fn1 fh1 fk1) → va_S A0 s.heap H1 locs1 → W p l e rm_Mo_init s m args below meth c H1 locs1 cells slots Q (F0 m (pc + 10) ls [])) : W p l e rm_Mo_init s m args below meth c H locs cells slots Q (F0 m pc ls []) := by
  obtain ⟨glen, g0, g1, g2, g3, g4, g5⟩ := hf
  refine lv_aload_n G.1 G.2.1 d0 rfl (lv_at hl 0 rfl) ?_
  refine lv_aload_n G.1 G.2.1 d1 rfl (lv_at hl 0 rfl) ?_
  refine va_ldcS G.1 G.2.1 G.2.2.2.2.2.2.1 hR d2 ?_
  refine kEi (wr := []) G (kV (As := [.ref (sk x)]) (rest := [.ref h1]) G hP hD hS [0, 1, 2, 3, 4, 5] rfl rfl (c_Mo_keys l D g h1 fs nb nz nx nf kq kr fb fz fn fh fk x H.size glen g0 g1 g2 g3 g4 g5 hI (by rw [hnq]; exact hkq) hxl hrl) w_Mo_keys q2601 rfl rfl ⟨Nat.le_of_ble_eq_true rfl, Nat.le_of_ble_eq_true rfl⟩ (fun y hy => by rw [List.mem_singleton] at hy; rw [hy]; exact hx) 0 (ci := 14) rfl rfl rfl hl.1 rfl (Nat.le_of_ble_eq_true rfl) rfl ⟨hc, hs⟩ d4) hP hD hS [0, 1, 2, 3, 4, 5] [] rfl rfl rfl rfl (fun r u H1 locs1 hw hP1 hD1 hS1 hzH => ?_)
  obtain ⟨kq1, fb1, fz1, fn1, fh1, fk1⟩ := u
  have hw : kq1 ≤ kq + cbl (sb x) (sb x).length ∧ MI kq1 fn1 fh1 := hw
  refine mo_put (fs := fs.set 4 (.int (nI kq1))) (X := mk_w g nb nz nx nf kr fb1 fz1 fn1 fh1 fk1) G hP1 hD1 hS1 (llen_set glen) k hk hlink hsame (hn r) (hfit r) d7 (fun fs1 H2 locs2 e1 e2 e3 hP2 hD2 hS2 => ?_)
  exact kk r kq1 fs1 fb1 fz1 fn1 fh1 fk1 H2 locs2 ⟨e1, (e3 0 (by omega)).trans (lset_ne (by decide) g0), (e3 1 (by omega)).trans (lset_ne (by decide) g1), (e3 2 (by omega)).trans (lset_ne (by decide) g2), (e3 3 (by omega)).trans (lset_ne (by decide) g3), (e3 4 (by omega)).trans (lset_eq (by rw [glen]; decide)), (e3 5 (by omega)).trans (lset_ne (by decide) g5)⟩ (by rw [← hnq]; exact hw.1) hw.2 e2 (fun j h4 hj => (e3 j hj).trans (List.getElem?_set_ne (fun h => h4 h.symm))) hP2 hD2 hS2
end MO
