set_option maxHeartbeats 4000000 in
set_option maxRecDepth 100000 in
theorem lB_letter {p : Program} {l : Launch} {e : Env} {s : State} {m : MethodId} {below : List Frame} {meth : Method} {c : Code} {H : Heap} {locs : List Loc} {Q : State → Prop} {ls : Array Slot} {D : va_G} {cI : ClassId} {a a2 : Nat → Nat} {b L : Nat} {xs : Nat → Int32} {kk kv : Nat → Nat} {V U : sV} {i : Nat} (GG : lG p s m meth c b L xs D cI kk kv) (Z : lW D cI (lA s) a a2 V U s.heap H locs) (hI : lI V U) (hi : i + 4 ≤ L) (hl : lv_has ls 4 (lLs b a a2 i))
    (kk2 : ∀ (r : Int32) (V1 : sV) (x : Int32) (U1 : sV) (H1 : Heap) (locs1 : List Loc), q_letter V (xs (i + 1)) r V1 → q_m_letter U (xs (i + 1)) x U1 → lW D cI (lA s) a a2 V1 U1 s.heap H1 locs1 → W p l e room_1 s m #[Value.ref b] below meth c H1 locs1 69 6105 Q (F0 m 885 ls [])) : W p l e room_1 s m #[Value.ref b] below meth c H locs 69 6105 Q (F0 m 172 ls []) := by
  obtain ⟨G, hX, hbl, hE, hL⟩ := id GG
  obtain ⟨hx, hb, -⟩ := id G
  have z1 := Z.1
  have z2 := Z.2.1
  refine lv_aload_n hx hb dL_law_172 rfl (lv_at hl 2 rfl) ?_
  refine lArg (k := 1) GG Z.2.2.2.2.2.2.2 hl (by omega) (by decide) dL_law_173 dL_law_174 dL_law_175 dL_law_176 dL_law_177 ?_
  refine lcX (ci := 8) (As := [.int (xs (i + 1))]) (rest := []) G (fun _ h => h) Z (k_letter (z1) V (xs (i + 1))) iy_X9_letter ml_L_13 rfl rfl rfl rfl hl.1 (Nat.le_of_ble_eq_true rfl) (Nat.le_of_ble_eq_true rfl) (Nat.le_of_ble_eq_true rfl) dL_law_178 ⟨Nat.le_of_ble_eq_true rfl, Nat.le_of_ble_eq_true rfl⟩ (fun r V1 H locs q1 Z => ?_)
  refine lv_pop hx hb dL_law_181 rfl ?_
  refine lv_aload_n hx hb dL_law_182 rfl (lv_at hl 1 rfl) ?_
  refine lArg (k := 1) GG Z.2.2.2.2.2.2.2 hl (by omega) (by decide) dL_law_183 dL_law_184 dL_law_185 dL_law_186 dL_law_187 ?_
  refine lcM (ci := 9) (As := [.int (xs (i + 1))]) (rest := []) G (fun _ h => h) Z (k_m_letter (z2) U (xs (i + 1)) hI.1) iy_X10_letter ml_L_17 rfl rfl rfl rfl hl.1 (Nat.le_of_ble_eq_true rfl) (Nat.le_of_ble_eq_true rfl) (Nat.le_of_ble_eq_true rfl) dL_law_188 ⟨Nat.le_of_ble_eq_true rfl, Nat.le_of_ble_eq_true rfl⟩ (fun x U1 H locs q2 Z => ?_)
  refine lv_pop hx hb dL_law_191 rfl ?_
  refine lv_goto (tgt := 885) hx hb dL_law_192 (by decide) ?_
  exact kk2 r V1 x U1 H locs q1 q2 Z

set_option maxHeartbeats 4000000 in
set_option maxRecDepth 100000 in
theorem lB_house {p : Program} {l : Launch} {e : Env} {s : State} {m : MethodId} {below : List Frame} {meth : Method} {c : Code} {H : Heap} {locs : List Loc} {Q : State → Prop} {ls : Array Slot} {D : va_G} {cI : ClassId} {a a2 : Nat → Nat} {b L : Nat} {xs : Nat → Int32} {kk kv : Nat → Nat} {V U : sV} {i : Nat} (GG : lG p s m meth c b L xs D cI kk kv) (Z : lW D cI (lA s) a a2 V U s.heap H locs) (hI : lI V U) (hi : i + 4 ≤ L) (hl : lv_has ls 4 (lLs b a a2 i))
    (kk2 : ∀ (r : Int32) (V1 : sV) (x : Int32) (U1 : sV) (H1 : Heap) (locs1 : List Loc), q_house V  r V1 → q_m_house U  x U1 → lW D cI (lA s) a a2 V1 U1 s.heap H1 locs1 → W p l e room_1 s m #[Value.ref b] below meth c H1 locs1 69 6105 Q (F0 m 885 ls [])) : W p l e room_1 s m #[Value.ref b] below meth c H locs 69 6105 Q (F0 m 195 ls []) := by
  obtain ⟨G, hX, hbl, hE, hL⟩ := id GG
  obtain ⟨hx, hb, -⟩ := id G
  have z1 := Z.1
  have z2 := Z.2.1
  refine lv_aload_n hx hb dL_law_195 rfl (lv_at hl 2 rfl) ?_
  refine lkX (ci := 8) (As := []) (rest := []) G (fun _ h => h) Z hE (k_house (kk := kk) (kv := kv) (z1) V ) iy_X9_house ml_L_18 rfl rfl rfl rfl hl.1 (Nat.le_of_ble_eq_true rfl) (Nat.le_of_ble_eq_true rfl) (Nat.le_of_ble_eq_true rfl) dL_law_196 ⟨Nat.le_of_ble_eq_true rfl, Nat.le_of_ble_eq_true rfl⟩ (fun r V1 H locs q1 Z => ?_)
  refine lv_pop hx hb dL_law_199 rfl ?_
  refine lv_aload_n hx hb dL_law_200 rfl (lv_at hl 1 rfl) ?_
  refine lkM (ci := 9) (As := []) (rest := []) G (fun _ h => h) Z hE (k_m_house (kk := kk) (kv := kv) (z2) U  hI.1) iy_X10_house ml_L_22 rfl rfl rfl rfl hl.1 (Nat.le_of_ble_eq_true rfl) (Nat.le_of_ble_eq_true rfl) (Nat.le_of_ble_eq_true rfl) dL_law_201 ⟨Nat.le_of_ble_eq_true rfl, Nat.le_of_ble_eq_true rfl⟩ (fun x U1 H locs q2 Z => ?_)
  refine lv_pop hx hb dL_law_204 rfl ?_
  refine lv_goto (tgt := 885) hx hb dL_law_205 (by decide) ?_
  exact kk2 r V1 x U1 H locs q1 q2 Z

set_option maxHeartbeats 4000000 in
set_option maxRecDepth 100000 in
theorem lB_hole {p : Program} {l : Launch} {e : Env} {s : State} {m : MethodId} {below : List Frame} {meth : Method} {c : Code} {H : Heap} {locs : List Loc} {Q : State → Prop} {ls : Array Slot} {D : va_G} {cI : ClassId} {a a2 : Nat → Nat} {b L : Nat} {xs : Nat → Int32} {kk kv : Nat → Nat} {V U : sV} {i : Nat} (GG : lG p s m meth c b L xs D cI kk kv) (Z : lW D cI (lA s) a a2 V U s.heap H locs) (hI : lI V U) (hi : i + 4 ≤ L) (hl : lv_has ls 4 (lLs b a a2 i))
    (kk2 : ∀ (r : Int32) (V1 : sV) (x : Int32) (U1 : sV) (H1 : Heap) (locs1 : List Loc), q_hole V (xs (i + 1)) (xs (i + 2)) r V1 → q_m_hole U (xs (i + 1)) (xs (i + 2)) x U1 → lW D cI (lA s) a a2 V1 U1 s.heap H1 locs1 → W p l e room_1 s m #[Value.ref b] below meth c H1 locs1 69 6105 Q (F0 m 885 ls [])) : W p l e room_1 s m #[Value.ref b] below meth c H locs 69 6105 Q (F0 m 208 ls []) := by
  obtain ⟨G, hX, hbl, hE, hL⟩ := id GG
  obtain ⟨hx, hb, -⟩ := id G
  have z1 := Z.1
  have z2 := Z.2.1
  refine lv_aload_n hx hb dL_law_208 rfl (lv_at hl 2 rfl) ?_
  refine lArg (k := 1) GG Z.2.2.2.2.2.2.2 hl (by omega) (by decide) dL_law_209 dL_law_210 dL_law_211 dL_law_212 dL_law_213 ?_
  refine lArg (k := 2) GG Z.2.2.2.2.2.2.2 hl (by omega) (by decide) dL_law_214 dL_law_215 dL_law_216 dL_law_217 dL_law_218 ?_
  refine lcX (ci := 8) (As := [.int (xs (i + 1)), .int (xs (i + 2))]) (rest := []) G (fun _ h => h) Z (k_hole (z1) V (xs (i + 1)) (xs (i + 2))) iy_X9_hole ml_L_23 rfl rfl rfl rfl hl.1 (Nat.le_of_ble_eq_true rfl) (Nat.le_of_ble_eq_true rfl) (Nat.le_of_ble_eq_true rfl) dL_law_219 ⟨Nat.le_of_ble_eq_true rfl, Nat.le_of_ble_eq_true rfl⟩ (fun r V1 H locs q1 Z => ?_)
  refine lv_pop hx hb dL_law_222 rfl ?_
  refine lv_aload_n hx hb dL_law_223 rfl (lv_at hl 1 rfl) ?_
  refine lArg (k := 1) GG Z.2.2.2.2.2.2.2 hl (by omega) (by decide) dL_law_224 dL_law_225 dL_law_226 dL_law_227 dL_law_228 ?_
  refine lArg (k := 2) GG Z.2.2.2.2.2.2.2 hl (by omega) (by decide) dL_law_229 dL_law_230 dL_law_231 dL_law_232 dL_law_233 ?_
  refine lcM (ci := 9) (As := [.int (xs (i + 1)), .int (xs (i + 2))]) (rest := []) G (fun _ h => h) Z (k_m_hole (z2) U (xs (i + 1)) (xs (i + 2)) hI.1) iy_X10_hole ml_L_27 rfl rfl rfl rfl hl.1 (Nat.le_of_ble_eq_true rfl) (Nat.le_of_ble_eq_true rfl) (Nat.le_of_ble_eq_true rfl) dL_law_234 ⟨Nat.le_of_ble_eq_true rfl, Nat.le_of_ble_eq_true rfl⟩ (fun x U1 H locs q2 Z => ?_)
  refine lv_pop hx hb dL_law_237 rfl ?_
  refine lv_goto (tgt := 885) hx hb dL_law_238 (by decide) ?_
  exact kk2 r V1 x U1 H locs q1 q2 Z

set_option maxHeartbeats 4000000 in
set_option maxRecDepth 100000 in
theorem lB_weather {p : Program} {l : Launch} {e : Env} {s : State} {m : MethodId} {below : List Frame} {meth : Method} {c : Code} {H : Heap} {locs : List Loc} {Q : State → Prop} {ls : Array Slot} {D : va_G} {cI : ClassId} {a a2 : Nat → Nat} {b L : Nat} {xs : Nat → Int32} {kk kv : Nat → Nat} {V U : sV} {i : Nat} (GG : lG p s m meth c b L xs D cI kk kv) (Z : lW D cI (lA s) a a2 V U s.heap H locs) (hI : lI V U) (hi : i + 4 ≤ L) (hl : lv_has ls 4 (lLs b a a2 i))
    (kk2 : ∀ (r : Int32) (V1 : sV) (x : Int32) (U1 : sV) (H1 : Heap) (locs1 : List Loc), q_weather V (xs (i + 1)) (xs (i + 2)) r V1 → q_m_weather U (xs (i + 1)) (xs (i + 2)) x U1 → lW D cI (lA s) a a2 V1 U1 s.heap H1 locs1 → W p l e room_1 s m #[Value.ref b] below meth c H1 locs1 69 6105 Q (F0 m 885 ls [])) : W p l e room_1 s m #[Value.ref b] below meth c H locs 69 6105 Q (F0 m 241 ls []) := by
  obtain ⟨G, hX, hbl, hE, hL⟩ := id GG
  obtain ⟨hx, hb, -⟩ := id G
  have z1 := Z.1
  have z2 := Z.2.1
  refine lv_aload_n hx hb dL_law_241 rfl (lv_at hl 2 rfl) ?_
  refine lArg (k := 1) GG Z.2.2.2.2.2.2.2 hl (by omega) (by decide) dL_law_242 dL_law_243 dL_law_244 dL_law_245 dL_law_246 ?_
  refine lArg (k := 2) GG Z.2.2.2.2.2.2.2 hl (by omega) (by decide) dL_law_247 dL_law_248 dL_law_249 dL_law_250 dL_law_251 ?_
  refine lcX (ci := 8) (As := [.int (xs (i + 1)), .int (xs (i + 2))]) (rest := []) G (fun _ h => h) Z (k_weather (z1) V (xs (i + 1)) (xs (i + 2))) iy_X9_weather ml_L_28 rfl rfl rfl rfl hl.1 (Nat.le_of_ble_eq_true rfl) (Nat.le_of_ble_eq_true rfl) (Nat.le_of_ble_eq_true rfl) dL_law_252 ⟨Nat.le_of_ble_eq_true rfl, Nat.le_of_ble_eq_true rfl⟩ (fun r V1 H locs q1 Z => ?_)
  refine lv_pop hx hb dL_law_255 rfl ?_
  refine lv_aload_n hx hb dL_law_256 rfl (lv_at hl 1 rfl) ?_
  refine lArg (k := 1) GG Z.2.2.2.2.2.2.2 hl (by omega) (by decide) dL_law_257 dL_law_258 dL_law_259 dL_law_260 dL_law_261 ?_
  refine lArg (k := 2) GG Z.2.2.2.2.2.2.2 hl (by omega) (by decide) dL_law_262 dL_law_263 dL_law_264 dL_law_265 dL_law_266 ?_
  refine lcM (ci := 9) (As := [.int (xs (i + 1)), .int (xs (i + 2))]) (rest := []) G (fun _ h => h) Z (k_m_weather (z2) U (xs (i + 1)) (xs (i + 2)) hI.1) iy_X10_weather ml_L_31 rfl rfl rfl rfl hl.1 (Nat.le_of_ble_eq_true rfl) (Nat.le_of_ble_eq_true rfl) (Nat.le_of_ble_eq_true rfl) dL_law_267 ⟨Nat.le_of_ble_eq_true rfl, Nat.le_of_ble_eq_true rfl⟩ (fun x U1 H locs q2 Z => ?_)
  refine lv_pop hx hb dL_law_270 rfl ?_
  refine lv_goto (tgt := 885) hx hb dL_law_271 (by decide) ?_
  exact kk2 r V1 x U1 H locs q1 q2 Z

set_option maxHeartbeats 4000000 in
set_option maxRecDepth 100000 in
theorem lB_set {p : Program} {l : Launch} {e : Env} {s : State} {m : MethodId} {below : List Frame} {meth : Method} {c : Code} {H : Heap} {locs : List Loc} {Q : State → Prop} {ls : Array Slot} {D : va_G} {cI : ClassId} {a a2 : Nat → Nat} {b L : Nat} {xs : Nat → Int32} {kk kv : Nat → Nat} {V U : sV} {i : Nat} (GG : lG p s m meth c b L xs D cI kk kv) (Z : lW D cI (lA s) a a2 V U s.heap H locs) (hI : lI V U) (hi : i + 4 ≤ L) (hl : lv_has ls 4 (lLs b a a2 i)) (heq : ∀ r V1 x U1, q_set V (xs (i + 1)) (xs (i + 2)) r V1 → q_m_set U (xs (i + 1)) (xs (i + 2)) x U1 → r = x)
    (kk2 : ∀ (r : Int32) (V1 : sV) (x : Int32) (U1 : sV) (H1 : Heap) (locs1 : List Loc), q_set V (xs (i + 1)) (xs (i + 2)) r V1 → q_m_set U (xs (i + 1)) (xs (i + 2)) x U1 → lW D cI (lA s) a a2 V1 U1 s.heap H1 locs1 → W p l e room_1 s m #[Value.ref b] below meth c H1 locs1 69 6105 Q (F0 m 885 ls [])) : W p l e room_1 s m #[Value.ref b] below meth c H locs 69 6105 Q (F0 m 274 ls []) := by
  obtain ⟨G, hX, hbl, hE, hL⟩ := id GG
  obtain ⟨hx, hb, -⟩ := id G
  have z1 := Z.1
  have z2 := Z.2.1
  refine lv_aload_n hx hb dL_law_274 rfl (lv_at hl 2 rfl) ?_
  refine lArg (k := 1) GG Z.2.2.2.2.2.2.2 hl (by omega) (by decide) dL_law_275 dL_law_276 dL_law_277 dL_law_278 dL_law_279 ?_
  refine lArg (k := 2) GG Z.2.2.2.2.2.2.2 hl (by omega) (by decide) dL_law_280 dL_law_281 dL_law_282 dL_law_283 dL_law_284 ?_
  refine lcX (ci := 8) (As := [.int (xs (i + 1)), .int (xs (i + 2))]) (rest := []) G (fun _ h => h) Z (k_set (z1) V (xs (i + 1)) (xs (i + 2))) iy_X9_set ml_L_32 rfl rfl rfl rfl hl.1 (Nat.le_of_ble_eq_true rfl) (Nat.le_of_ble_eq_true rfl) (Nat.le_of_ble_eq_true rfl) dL_law_285 ⟨Nat.le_of_ble_eq_true rfl, Nat.le_of_ble_eq_true rfl⟩ (fun r V1 H locs q1 Z => ?_)
  refine lv_aload_n hx hb dL_law_288 rfl (lv_at hl 1 rfl) ?_
  refine lArg (k := 1) GG Z.2.2.2.2.2.2.2 hl (by omega) (by decide) dL_law_289 dL_law_290 dL_law_291 dL_law_292 dL_law_293 ?_
  refine lArg (k := 2) GG Z.2.2.2.2.2.2.2 hl (by omega) (by decide) dL_law_294 dL_law_295 dL_law_296 dL_law_297 dL_law_298 ?_
  refine lcM (ci := 9) (As := [.int (xs (i + 1)), .int (xs (i + 2))]) (rest := [.int r]) G (fun _ h => h) Z (k_m_set (z2) U (xs (i + 1)) (xs (i + 2)) hI.1) iy_X10_set ml_L_35 rfl rfl rfl rfl hl.1 (Nat.le_of_ble_eq_true rfl) (Nat.le_of_ble_eq_true rfl) (Nat.le_of_ble_eq_true rfl) dL_law_299 ⟨Nat.le_of_ble_eq_true rfl, Nat.le_of_ble_eq_true rfl⟩ (fun x U1 H locs q2 Z => ?_)
  refine lv_icmp_eq (tgt := 885) hx hb dL_law_302 (by decide) (fun _ => ?_) (fun cc => absurd (heq r V1 x U1 q1 q2) cc)
  exact kk2 r V1 x U1 H locs q1 q2 Z

set_option maxHeartbeats 4000000 in
set_option maxRecDepth 100000 in
theorem lB_fan {p : Program} {l : Launch} {e : Env} {s : State} {m : MethodId} {below : List Frame} {meth : Method} {c : Code} {H : Heap} {locs : List Loc} {Q : State → Prop} {ls : Array Slot} {D : va_G} {cI : ClassId} {a a2 : Nat → Nat} {b L : Nat} {xs : Nat → Int32} {kk kv : Nat → Nat} {V U : sV} {i : Nat} (GG : lG p s m meth c b L xs D cI kk kv) (Z : lW D cI (lA s) a a2 V U s.heap H locs) (hI : lI V U) (hi : i + 4 ≤ L) (hl : lv_has ls 4 (lLs b a a2 i))
    (kk2 : ∀ (r : Int32) (V1 : sV) (x : Int32) (U1 : sV) (H1 : Heap) (locs1 : List Loc), q_fan V (xs (i + 1)) r V1 → q_m_fan U (xs (i + 1)) x U1 → lW D cI (lA s) a a2 V1 U1 s.heap H1 locs1 → W p l e room_1 s m #[Value.ref b] below meth c H1 locs1 69 6105 Q (F0 m 885 ls [])) : W p l e room_1 s m #[Value.ref b] below meth c H locs 69 6105 Q (F0 m 307 ls []) := by
  obtain ⟨G, hX, hbl, hE, hL⟩ := id GG
  obtain ⟨hx, hb, -⟩ := id G
  have z1 := Z.1
  have z2 := Z.2.1
  refine lv_aload_n hx hb dL_law_307 rfl (lv_at hl 2 rfl) ?_
  refine lArg (k := 1) GG Z.2.2.2.2.2.2.2 hl (by omega) (by decide) dL_law_308 dL_law_309 dL_law_310 dL_law_311 dL_law_312 ?_
  refine lcX (ci := 8) (As := [.int (xs (i + 1))]) (rest := []) G (fun _ h => h) Z (k_fan (z1) V (xs (i + 1))) iy_X9_fan ml_L_36 rfl rfl rfl rfl hl.1 (Nat.le_of_ble_eq_true rfl) (Nat.le_of_ble_eq_true rfl) (Nat.le_of_ble_eq_true rfl) dL_law_313 ⟨Nat.le_of_ble_eq_true rfl, Nat.le_of_ble_eq_true rfl⟩ (fun r V1 H locs q1 Z => ?_)
  refine lv_pop hx hb dL_law_316 rfl ?_
  refine lv_aload_n hx hb dL_law_317 rfl (lv_at hl 1 rfl) ?_
  refine lArg (k := 1) GG Z.2.2.2.2.2.2.2 hl (by omega) (by decide) dL_law_318 dL_law_319 dL_law_320 dL_law_321 dL_law_322 ?_
  refine lcM (ci := 9) (As := [.int (xs (i + 1))]) (rest := []) G (fun _ h => h) Z (k_m_fan (z2) U (xs (i + 1)) hI.1) iy_X10_fan ml_L_39 rfl rfl rfl rfl hl.1 (Nat.le_of_ble_eq_true rfl) (Nat.le_of_ble_eq_true rfl) (Nat.le_of_ble_eq_true rfl) dL_law_323 ⟨Nat.le_of_ble_eq_true rfl, Nat.le_of_ble_eq_true rfl⟩ (fun x U1 H locs q2 Z => ?_)
  refine lv_pop hx hb dL_law_326 rfl ?_
  refine lv_goto (tgt := 885) hx hb dL_law_327 (by decide) ?_
  exact kk2 r V1 x U1 H locs q1 q2 Z

set_option maxHeartbeats 4000000 in
set_option maxRecDepth 100000 in
theorem lB_now {p : Program} {l : Launch} {e : Env} {s : State} {m : MethodId} {below : List Frame} {meth : Method} {c : Code} {H : Heap} {locs : List Loc} {Q : State → Prop} {ls : Array Slot} {D : va_G} {cI : ClassId} {a a2 : Nat → Nat} {b L : Nat} {xs : Nat → Int32} {kk kv : Nat → Nat} {V U : sV} {i : Nat} (GG : lG p s m meth c b L xs D cI kk kv) (Z : lW D cI (lA s) a a2 V U s.heap H locs) (hI : lI V U) (hi : i + 4 ≤ L) (hl : lv_has ls 4 (lLs b a a2 i))
    (kk2 : ∀ (r : Int32) (V1 : sV) (x : Int32) (U1 : sV) (H1 : Heap) (locs1 : List Loc), q_now V (xs (i + 1)) r V1 → q_m_now U (xs (i + 1)) x U1 → lW D cI (lA s) a a2 V1 U1 s.heap H1 locs1 → W p l e room_1 s m #[Value.ref b] below meth c H1 locs1 69 6105 Q (F0 m 885 ls [])) : W p l e room_1 s m #[Value.ref b] below meth c H locs 69 6105 Q (F0 m 330 ls []) := by
  obtain ⟨G, hX, hbl, hE, hL⟩ := id GG
  obtain ⟨hx, hb, -⟩ := id G
  have z1 := Z.1
  have z2 := Z.2.1
  refine lv_aload_n hx hb dL_law_330 rfl (lv_at hl 2 rfl) ?_
  refine lArg (k := 1) GG Z.2.2.2.2.2.2.2 hl (by omega) (by decide) dL_law_331 dL_law_332 dL_law_333 dL_law_334 dL_law_335 ?_
  refine lcX (ci := 8) (As := [.int (xs (i + 1))]) (rest := []) G (fun _ h => h) Z (k_now (z1) V (xs (i + 1))) iy_X9_now ml_L_40 rfl rfl rfl rfl hl.1 (Nat.le_of_ble_eq_true rfl) (Nat.le_of_ble_eq_true rfl) (Nat.le_of_ble_eq_true rfl) dL_law_336 ⟨Nat.le_of_ble_eq_true rfl, Nat.le_of_ble_eq_true rfl⟩ (fun r V1 H locs q1 Z => ?_)
  refine lv_pop hx hb dL_law_339 rfl ?_
  refine lv_aload_n hx hb dL_law_340 rfl (lv_at hl 1 rfl) ?_
  refine lArg (k := 1) GG Z.2.2.2.2.2.2.2 hl (by omega) (by decide) dL_law_341 dL_law_342 dL_law_343 dL_law_344 dL_law_345 ?_
  refine lcM (ci := 9) (As := [.int (xs (i + 1))]) (rest := []) G (fun _ h => h) Z (k_m_now (z2) U (xs (i + 1)) hI.1) iy_X10_now ml_L_43 rfl rfl rfl rfl hl.1 (Nat.le_of_ble_eq_true rfl) (Nat.le_of_ble_eq_true rfl) (Nat.le_of_ble_eq_true rfl) dL_law_346 ⟨Nat.le_of_ble_eq_true rfl, Nat.le_of_ble_eq_true rfl⟩ (fun x U1 H locs q2 Z => ?_)
  refine lv_pop hx hb dL_law_349 rfl ?_
  refine lv_goto (tgt := 885) hx hb dL_law_350 (by decide) ?_
  exact kk2 r V1 x U1 H locs q1 q2 Z

set_option maxHeartbeats 4000000 in
set_option maxRecDepth 100000 in
theorem lB_size {p : Program} {l : Launch} {e : Env} {s : State} {m : MethodId} {below : List Frame} {meth : Method} {c : Code} {H : Heap} {locs : List Loc} {Q : State → Prop} {ls : Array Slot} {D : va_G} {cI : ClassId} {a a2 : Nat → Nat} {b L : Nat} {xs : Nat → Int32} {kk kv : Nat → Nat} {V U : sV} {i : Nat} (GG : lG p s m meth c b L xs D cI kk kv) (Z : lW D cI (lA s) a a2 V U s.heap H locs) (hI : lI V U) (hi : i + 4 ≤ L) (hl : lv_has ls 4 (lLs b a a2 i))
    (kk2 : ∀ (r : Int32) (V1 : sV) (x : Int32) (U1 : sV) (H1 : Heap) (locs1 : List Loc), q_size V (xs (i + 1)) (xs (i + 2)) r V1 → q_m_size U (xs (i + 1)) (xs (i + 2)) x U1 → lW D cI (lA s) a a2 V1 U1 s.heap H1 locs1 → W p l e room_1 s m #[Value.ref b] below meth c H1 locs1 69 6105 Q (F0 m 885 ls [])) : W p l e room_1 s m #[Value.ref b] below meth c H locs 69 6105 Q (F0 m 353 ls []) := by
  obtain ⟨G, hX, hbl, hE, hL⟩ := id GG
  obtain ⟨hx, hb, -⟩ := id G
  have z1 := Z.1
  have z2 := Z.2.1
  refine lv_aload_n hx hb dL_law_353 rfl (lv_at hl 2 rfl) ?_
  refine lArg (k := 1) GG Z.2.2.2.2.2.2.2 hl (by omega) (by decide) dL_law_354 dL_law_355 dL_law_356 dL_law_357 dL_law_358 ?_
  refine lArg (k := 2) GG Z.2.2.2.2.2.2.2 hl (by omega) (by decide) dL_law_359 dL_law_360 dL_law_361 dL_law_362 dL_law_363 ?_
  refine lcX (ci := 8) (As := [.int (xs (i + 1)), .int (xs (i + 2))]) (rest := []) G (fun _ h => h) Z (k_size (z1) V (xs (i + 1)) (xs (i + 2))) iy_X9_size ml_L_44 rfl rfl rfl rfl hl.1 (Nat.le_of_ble_eq_true rfl) (Nat.le_of_ble_eq_true rfl) (Nat.le_of_ble_eq_true rfl) dL_law_364 ⟨Nat.le_of_ble_eq_true rfl, Nat.le_of_ble_eq_true rfl⟩ (fun r V1 H locs q1 Z => ?_)
  refine lv_pop hx hb dL_law_367 rfl ?_
  refine lv_aload_n hx hb dL_law_368 rfl (lv_at hl 1 rfl) ?_
  refine lArg (k := 1) GG Z.2.2.2.2.2.2.2 hl (by omega) (by decide) dL_law_369 dL_law_370 dL_law_371 dL_law_372 dL_law_373 ?_
  refine lArg (k := 2) GG Z.2.2.2.2.2.2.2 hl (by omega) (by decide) dL_law_374 dL_law_375 dL_law_376 dL_law_377 dL_law_378 ?_
  refine lcM (ci := 9) (As := [.int (xs (i + 1)), .int (xs (i + 2))]) (rest := []) G (fun _ h => h) Z (k_m_size (z2) U (xs (i + 1)) (xs (i + 2)) hI.1) iy_X10_size ml_L_47 rfl rfl rfl rfl hl.1 (Nat.le_of_ble_eq_true rfl) (Nat.le_of_ble_eq_true rfl) (Nat.le_of_ble_eq_true rfl) dL_law_379 ⟨Nat.le_of_ble_eq_true rfl, Nat.le_of_ble_eq_true rfl⟩ (fun x U1 H locs q2 Z => ?_)
  refine lv_pop hx hb dL_law_382 rfl ?_
  refine lv_goto (tgt := 885) hx hb dL_law_383 (by decide) ?_
  exact kk2 r V1 x U1 H locs q1 q2 Z

set_option maxHeartbeats 4000000 in
set_option maxRecDepth 100000 in
theorem lB_outside {p : Program} {l : Launch} {e : Env} {s : State} {m : MethodId} {below : List Frame} {meth : Method} {c : Code} {H : Heap} {locs : List Loc} {Q : State → Prop} {ls : Array Slot} {D : va_G} {cI : ClassId} {a a2 : Nat → Nat} {b L : Nat} {xs : Nat → Int32} {kk kv : Nat → Nat} {V U : sV} {i : Nat} (GG : lG p s m meth c b L xs D cI kk kv) (Z : lW D cI (lA s) a a2 V U s.heap H locs) (hI : lI V U) (hi : i + 4 ≤ L) (hl : lv_has ls 4 (lLs b a a2 i))
    (kk2 : ∀ (r : Int32) (V1 : sV) (x : Int32) (U1 : sV) (H1 : Heap) (locs1 : List Loc), q_outside V (xs (i + 1)) r V1 → q_m_outside U (xs (i + 1)) x U1 → lW D cI (lA s) a a2 V1 U1 s.heap H1 locs1 → W p l e room_1 s m #[Value.ref b] below meth c H1 locs1 69 6105 Q (F0 m 885 ls [])) : W p l e room_1 s m #[Value.ref b] below meth c H locs 69 6105 Q (F0 m 386 ls []) := by
  obtain ⟨G, hX, hbl, hE, hL⟩ := id GG
  obtain ⟨hx, hb, -⟩ := id G
  have z1 := Z.1
  have z2 := Z.2.1
  refine lv_aload_n hx hb dL_law_386 rfl (lv_at hl 2 rfl) ?_
  refine lArg (k := 1) GG Z.2.2.2.2.2.2.2 hl (by omega) (by decide) dL_law_387 dL_law_388 dL_law_389 dL_law_390 dL_law_391 ?_
  refine lcX (ci := 8) (As := [.int (xs (i + 1))]) (rest := []) G (fun _ h => h) Z (k_outside (z1) V (xs (i + 1))) iy_X9_outside ml_L_48 rfl rfl rfl rfl hl.1 (Nat.le_of_ble_eq_true rfl) (Nat.le_of_ble_eq_true rfl) (Nat.le_of_ble_eq_true rfl) dL_law_392 ⟨Nat.le_of_ble_eq_true rfl, Nat.le_of_ble_eq_true rfl⟩ (fun r V1 H locs q1 Z => ?_)
  refine lv_pop hx hb dL_law_395 rfl ?_
  refine lv_aload_n hx hb dL_law_396 rfl (lv_at hl 1 rfl) ?_
  refine lArg (k := 1) GG Z.2.2.2.2.2.2.2 hl (by omega) (by decide) dL_law_397 dL_law_398 dL_law_399 dL_law_400 dL_law_401 ?_
  refine lcM (ci := 9) (As := [.int (xs (i + 1))]) (rest := []) G (fun _ h => h) Z (k_m_outside (z2) U (xs (i + 1)) hI.1) iy_X10_outside ml_L_51 rfl rfl rfl rfl hl.1 (Nat.le_of_ble_eq_true rfl) (Nat.le_of_ble_eq_true rfl) (Nat.le_of_ble_eq_true rfl) dL_law_402 ⟨Nat.le_of_ble_eq_true rfl, Nat.le_of_ble_eq_true rfl⟩ (fun x U1 H locs q2 Z => ?_)
  refine lv_pop hx hb dL_law_405 rfl ?_
  refine lv_goto (tgt := 885) hx hb dL_law_406 (by decide) ?_
  exact kk2 r V1 x U1 H locs q1 q2 Z

set_option maxHeartbeats 4000000 in
set_option maxRecDepth 100000 in
theorem lB_push {p : Program} {l : Launch} {e : Env} {s : State} {m : MethodId} {below : List Frame} {meth : Method} {c : Code} {H : Heap} {locs : List Loc} {Q : State → Prop} {ls : Array Slot} {D : va_G} {cI : ClassId} {a a2 : Nat → Nat} {b L : Nat} {xs : Nat → Int32} {kk kv : Nat → Nat} {V U : sV} {i : Nat} (GG : lG p s m meth c b L xs D cI kk kv) (Z : lW D cI (lA s) a a2 V U s.heap H locs) (hI : lI V U) (hi : i + 4 ≤ L) (hl : lv_has ls 4 (lLs b a a2 i))
    (kk2 : ∀ (r : Int32) (V1 : sV) (x : Int32) (U1 : sV) (H1 : Heap) (locs1 : List Loc), q_push V (xs (i + 1)) r V1 → q_m_push U (xs (i + 1)) x U1 → lW D cI (lA s) a a2 V1 U1 s.heap H1 locs1 → W p l e room_1 s m #[Value.ref b] below meth c H1 locs1 69 6105 Q (F0 m 885 ls [])) : W p l e room_1 s m #[Value.ref b] below meth c H locs 69 6105 Q (F0 m 409 ls []) := by
  obtain ⟨G, hX, hbl, hE, hL⟩ := id GG
  obtain ⟨hx, hb, -⟩ := id G
  have z1 := Z.1
  have z2 := Z.2.1
  refine lv_aload_n hx hb dL_law_409 rfl (lv_at hl 2 rfl) ?_
  refine lArg (k := 1) GG Z.2.2.2.2.2.2.2 hl (by omega) (by decide) dL_law_410 dL_law_411 dL_law_412 dL_law_413 dL_law_414 ?_
  refine lcX (ci := 8) (As := [.int (xs (i + 1))]) (rest := []) G (fun _ h => h) Z (k_push (z1) V (xs (i + 1))) iy_X9_push ml_L_52 rfl rfl rfl rfl hl.1 (Nat.le_of_ble_eq_true rfl) (Nat.le_of_ble_eq_true rfl) (Nat.le_of_ble_eq_true rfl) dL_law_415 ⟨Nat.le_of_ble_eq_true rfl, Nat.le_of_ble_eq_true rfl⟩ (fun r V1 H locs q1 Z => ?_)
  refine lv_pop hx hb dL_law_418 rfl ?_
  refine lv_aload_n hx hb dL_law_419 rfl (lv_at hl 1 rfl) ?_
  refine lArg (k := 1) GG Z.2.2.2.2.2.2.2 hl (by omega) (by decide) dL_law_420 dL_law_421 dL_law_422 dL_law_423 dL_law_424 ?_
  refine lcM (ci := 9) (As := [.int (xs (i + 1))]) (rest := []) G (fun _ h => h) Z (k_m_push (z2) U (xs (i + 1)) hI.1) iy_X10_push ml_L_55 rfl rfl rfl rfl hl.1 (Nat.le_of_ble_eq_true rfl) (Nat.le_of_ble_eq_true rfl) (Nat.le_of_ble_eq_true rfl) dL_law_425 ⟨Nat.le_of_ble_eq_true rfl, Nat.le_of_ble_eq_true rfl⟩ (fun x U1 H locs q2 Z => ?_)
  refine lv_pop hx hb dL_law_428 rfl ?_
  refine lv_goto (tgt := 885) hx hb dL_law_429 (by decide) ?_
  exact kk2 r V1 x U1 H locs q1 q2 Z

set_option maxHeartbeats 4000000 in
set_option maxRecDepth 100000 in
theorem lB_flow {p : Program} {l : Launch} {e : Env} {s : State} {m : MethodId} {below : List Frame} {meth : Method} {c : Code} {H : Heap} {locs : List Loc} {Q : State → Prop} {ls : Array Slot} {D : va_G} {cI : ClassId} {a a2 : Nat → Nat} {b L : Nat} {xs : Nat → Int32} {kk kv : Nat → Nat} {V U : sV} {i : Nat} (GG : lG p s m meth c b L xs D cI kk kv) (Z : lW D cI (lA s) a a2 V U s.heap H locs) (hI : lI V U) (hi : i + 4 ≤ L) (hl : lv_has ls 4 (lLs b a a2 i))
    (kk2 : ∀ (r : Int32) (V1 : sV) (x : Int32) (U1 : sV) (H1 : Heap) (locs1 : List Loc), q_flowP V (xs (i + 1)) r V1 → q_m_flow U (xs (i + 1)) x U1 → lW D cI (lA s) a a2 V1 U1 s.heap H1 locs1 → W p l e room_1 s m #[Value.ref b] below meth c H1 locs1 69 6105 Q (F0 m 885 ls [])) : W p l e room_1 s m #[Value.ref b] below meth c H locs 69 6105 Q (F0 m 432 ls []) := by
  obtain ⟨G, hX, hbl, hE, hL⟩ := id GG
  obtain ⟨hx, hb, -⟩ := id G
  have z1 := Z.1
  have z2 := Z.2.1
  refine lv_aload_n hx hb dL_law_432 rfl (lv_at hl 2 rfl) ?_
  refine lArg (k := 1) GG Z.2.2.2.2.2.2.2 hl (by omega) (by decide) dL_law_433 dL_law_434 dL_law_435 dL_law_436 dL_law_437 ?_
  refine lcX (ci := 8) (As := [.int (xs (i + 1))]) (rest := []) G (fun _ h => h) Z (k_flowP (z1) V (xs (i + 1))) iy_X9_flow ml_L_56 rfl rfl rfl rfl hl.1 (Nat.le_of_ble_eq_true rfl) (Nat.le_of_ble_eq_true rfl) (Nat.le_of_ble_eq_true rfl) dL_law_438 ⟨Nat.le_of_ble_eq_true rfl, Nat.le_of_ble_eq_true rfl⟩ (fun r V1 H locs q1 Z => ?_)
  refine lv_pop hx hb dL_law_441 rfl ?_
  refine lv_aload_n hx hb dL_law_442 rfl (lv_at hl 1 rfl) ?_
  refine lArg (k := 1) GG Z.2.2.2.2.2.2.2 hl (by omega) (by decide) dL_law_443 dL_law_444 dL_law_445 dL_law_446 dL_law_447 ?_
  refine lcM (ci := 9) (As := [.int (xs (i + 1))]) (rest := []) G (fun _ h => h) Z (k_m_flow (z2) U (xs (i + 1)) hI.1) iy_X10_flow ml_L_59 rfl rfl rfl rfl hl.1 (Nat.le_of_ble_eq_true rfl) (Nat.le_of_ble_eq_true rfl) (Nat.le_of_ble_eq_true rfl) dL_law_448 ⟨Nat.le_of_ble_eq_true rfl, Nat.le_of_ble_eq_true rfl⟩ (fun x U1 H locs q2 Z => ?_)
  refine lv_pop hx hb dL_law_451 rfl ?_
  refine lv_goto (tgt := 885) hx hb dL_law_452 (by decide) ?_
  exact kk2 r V1 x U1 H locs q1 q2 Z

set_option maxHeartbeats 4000000 in
set_option maxRecDepth 100000 in
theorem lB_lean {p : Program} {l : Launch} {e : Env} {s : State} {m : MethodId} {below : List Frame} {meth : Method} {c : Code} {H : Heap} {locs : List Loc} {Q : State → Prop} {ls : Array Slot} {D : va_G} {cI : ClassId} {a a2 : Nat → Nat} {b L : Nat} {xs : Nat → Int32} {kk kv : Nat → Nat} {V U : sV} {i : Nat} (GG : lG p s m meth c b L xs D cI kk kv) (Z : lW D cI (lA s) a a2 V U s.heap H locs) (hI : lI V U) (hi : i + 4 ≤ L) (hl : lv_has ls 4 (lLs b a a2 i))
    (kk2 : ∀ (r : Int32) (V1 : sV) (x : Int32) (U1 : sV) (H1 : Heap) (locs1 : List Loc), q_lean V (xs (i + 1)) r V1 → q_m_lean U (xs (i + 1)) x U1 → lW D cI (lA s) a a2 V1 U1 s.heap H1 locs1 → W p l e room_1 s m #[Value.ref b] below meth c H1 locs1 69 6105 Q (F0 m 885 ls [])) : W p l e room_1 s m #[Value.ref b] below meth c H locs 69 6105 Q (F0 m 455 ls []) := by
  obtain ⟨G, hX, hbl, hE, hL⟩ := id GG
  obtain ⟨hx, hb, -⟩ := id G
  have z1 := Z.1
  have z2 := Z.2.1
  refine lv_aload_n hx hb dL_law_455 rfl (lv_at hl 2 rfl) ?_
  refine lArg (k := 1) GG Z.2.2.2.2.2.2.2 hl (by omega) (by decide) dL_law_456 dL_law_457 dL_law_458 dL_law_459 dL_law_460 ?_
  refine lcX (ci := 8) (As := [.int (xs (i + 1))]) (rest := []) G (fun _ h => h) Z (k_lean (z1) V (xs (i + 1))) iy_X9_lean ml_L_60 rfl rfl rfl rfl hl.1 (Nat.le_of_ble_eq_true rfl) (Nat.le_of_ble_eq_true rfl) (Nat.le_of_ble_eq_true rfl) dL_law_461 ⟨Nat.le_of_ble_eq_true rfl, Nat.le_of_ble_eq_true rfl⟩ (fun r V1 H locs q1 Z => ?_)
  refine lv_pop hx hb dL_law_464 rfl ?_
  refine lv_aload_n hx hb dL_law_465 rfl (lv_at hl 1 rfl) ?_
  refine lArg (k := 1) GG Z.2.2.2.2.2.2.2 hl (by omega) (by decide) dL_law_466 dL_law_467 dL_law_468 dL_law_469 dL_law_470 ?_
  refine lcM (ci := 9) (As := [.int (xs (i + 1))]) (rest := []) G (fun _ h => h) Z (k_m_lean (z2) U (xs (i + 1)) hI.1) iy_X10_lean ml_L_63 rfl rfl rfl rfl hl.1 (Nat.le_of_ble_eq_true rfl) (Nat.le_of_ble_eq_true rfl) (Nat.le_of_ble_eq_true rfl) dL_law_471 ⟨Nat.le_of_ble_eq_true rfl, Nat.le_of_ble_eq_true rfl⟩ (fun x U1 H locs q2 Z => ?_)
  refine lv_pop hx hb dL_law_474 rfl ?_
  refine lv_goto (tgt := 885) hx hb dL_law_475 (by decide) ?_
  exact kk2 r V1 x U1 H locs q1 q2 Z

set_option maxHeartbeats 4000000 in
set_option maxRecDepth 100000 in
theorem lB_coal {p : Program} {l : Launch} {e : Env} {s : State} {m : MethodId} {below : List Frame} {meth : Method} {c : Code} {H : Heap} {locs : List Loc} {Q : State → Prop} {ls : Array Slot} {D : va_G} {cI : ClassId} {a a2 : Nat → Nat} {b L : Nat} {xs : Nat → Int32} {kk kv : Nat → Nat} {V U : sV} {i : Nat} (GG : lG p s m meth c b L xs D cI kk kv) (Z : lW D cI (lA s) a a2 V U s.heap H locs) (hI : lI V U) (hi : i + 4 ≤ L) (hl : lv_has ls 4 (lLs b a a2 i))
    (kk2 : ∀ (r : Int32) (V1 : sV) (x : Int32) (U1 : sV) (H1 : Heap) (locs1 : List Loc), q_coal V  r V1 → q_m_coal U  x U1 → lW D cI (lA s) a a2 V1 U1 s.heap H1 locs1 → W p l e room_1 s m #[Value.ref b] below meth c H1 locs1 69 6105 Q (F0 m 885 ls [])) : W p l e room_1 s m #[Value.ref b] below meth c H locs 69 6105 Q (F0 m 478 ls []) := by
  obtain ⟨G, hX, hbl, hE, hL⟩ := id GG
  obtain ⟨hx, hb, -⟩ := id G
  have z1 := Z.1
  have z2 := Z.2.1
  refine lv_aload_n hx hb dL_law_478 rfl (lv_at hl 2 rfl) ?_
  refine lcX (ci := 8) (As := []) (rest := []) G (fun _ h => h) Z (k_coal (z1) V ) iy_X9_coal ml_L_64 rfl rfl rfl rfl hl.1 (Nat.le_of_ble_eq_true rfl) (Nat.le_of_ble_eq_true rfl) (Nat.le_of_ble_eq_true rfl) dL_law_479 ⟨Nat.le_of_ble_eq_true rfl, Nat.le_of_ble_eq_true rfl⟩ (fun r V1 H locs q1 Z => ?_)
  refine lv_pop hx hb dL_law_482 rfl ?_
  refine lv_aload_n hx hb dL_law_483 rfl (lv_at hl 1 rfl) ?_
  refine lcM (ci := 9) (As := []) (rest := []) G (fun _ h => h) Z (k_m_coal (z2) U  hI.1) iy_X10_coal ml_L_67 rfl rfl rfl rfl hl.1 (Nat.le_of_ble_eq_true rfl) (Nat.le_of_ble_eq_true rfl) (Nat.le_of_ble_eq_true rfl) dL_law_484 ⟨Nat.le_of_ble_eq_true rfl, Nat.le_of_ble_eq_true rfl⟩ (fun x U1 H locs q2 Z => ?_)
  refine lv_pop hx hb dL_law_487 rfl ?_
  refine lv_goto (tgt := 885) hx hb dL_law_488 (by decide) ?_
  exact kk2 r V1 x U1 H locs q1 q2 Z

set_option maxHeartbeats 4000000 in
set_option maxRecDepth 100000 in
theorem lB_smokes {p : Program} {l : Launch} {e : Env} {s : State} {m : MethodId} {below : List Frame} {meth : Method} {c : Code} {H : Heap} {locs : List Loc} {Q : State → Prop} {ls : Array Slot} {D : va_G} {cI : ClassId} {a a2 : Nat → Nat} {b L : Nat} {xs : Nat → Int32} {kk kv : Nat → Nat} {V U : sV} {i : Nat} (GG : lG p s m meth c b L xs D cI kk kv) (Z : lW D cI (lA s) a a2 V U s.heap H locs) (hI : lI V U) (hi : i + 4 ≤ L) (hl : lv_has ls 4 (lLs b a a2 i))
    (kk2 : ∀ (r : Int32) (V1 : sV) (x : Int32) (U1 : sV) (H1 : Heap) (locs1 : List Loc), q_smokes V  r V1 → q_m_smokes U  x U1 → lW D cI (lA s) a a2 V1 U1 s.heap H1 locs1 → W p l e room_1 s m #[Value.ref b] below meth c H1 locs1 69 6105 Q (F0 m 885 ls [])) : W p l e room_1 s m #[Value.ref b] below meth c H locs 69 6105 Q (F0 m 491 ls []) := by
  obtain ⟨G, hX, hbl, hE, hL⟩ := id GG
  obtain ⟨hx, hb, -⟩ := id G
  have z1 := Z.1
  have z2 := Z.2.1
  refine lv_aload_n hx hb dL_law_491 rfl (lv_at hl 2 rfl) ?_
  refine lcX (ci := 8) (As := []) (rest := []) G (fun _ h => h) Z (k_smokes (z1) V ) iy_X9_smokes ml_L_68 rfl rfl rfl rfl hl.1 (Nat.le_of_ble_eq_true rfl) (Nat.le_of_ble_eq_true rfl) (Nat.le_of_ble_eq_true rfl) dL_law_492 ⟨Nat.le_of_ble_eq_true rfl, Nat.le_of_ble_eq_true rfl⟩ (fun r V1 H locs q1 Z => ?_)
  refine lv_pop hx hb dL_law_495 rfl ?_
  refine lv_aload_n hx hb dL_law_496 rfl (lv_at hl 1 rfl) ?_
  refine lcM (ci := 9) (As := []) (rest := []) G (fun _ h => h) Z (k_m_smokes (z2) U  hI.1) iy_X10_smokes ml_L_71 rfl rfl rfl rfl hl.1 (Nat.le_of_ble_eq_true rfl) (Nat.le_of_ble_eq_true rfl) (Nat.le_of_ble_eq_true rfl) dL_law_497 ⟨Nat.le_of_ble_eq_true rfl, Nat.le_of_ble_eq_true rfl⟩ (fun x U1 H locs q2 Z => ?_)
  refine lv_pop hx hb dL_law_500 rfl ?_
  refine lv_goto (tgt := 885) hx hb dL_law_501 (by decide) ?_
  exact kk2 r V1 x U1 H locs q1 q2 Z

set_option maxHeartbeats 4000000 in
set_option maxRecDepth 100000 in
theorem lB_stopped {p : Program} {l : Launch} {e : Env} {s : State} {m : MethodId} {below : List Frame} {meth : Method} {c : Code} {H : Heap} {locs : List Loc} {Q : State → Prop} {ls : Array Slot} {D : va_G} {cI : ClassId} {a a2 : Nat → Nat} {b L : Nat} {xs : Nat → Int32} {kk kv : Nat → Nat} {V U : sV} {i : Nat} (GG : lG p s m meth c b L xs D cI kk kv) (Z : lW D cI (lA s) a a2 V U s.heap H locs) (hI : lI V U) (hi : i + 4 ≤ L) (hl : lv_has ls 4 (lLs b a a2 i))
    (kk2 : ∀ (r : Int32) (V1 : sV) (x : Int32) (U1 : sV) (H1 : Heap) (locs1 : List Loc), q_stopped V (xs (i + 1)) r V1 → q_m_stopped U (xs (i + 1)) x U1 → lW D cI (lA s) a a2 V1 U1 s.heap H1 locs1 → W p l e room_1 s m #[Value.ref b] below meth c H1 locs1 69 6105 Q (F0 m 885 ls [])) : W p l e room_1 s m #[Value.ref b] below meth c H locs 69 6105 Q (F0 m 504 ls []) := by
  obtain ⟨G, hX, hbl, hE, hL⟩ := id GG
  obtain ⟨hx, hb, -⟩ := id G
  have z1 := Z.1
  have z2 := Z.2.1
  refine lv_aload_n hx hb dL_law_504 rfl (lv_at hl 2 rfl) ?_
  refine lArg (k := 1) GG Z.2.2.2.2.2.2.2 hl (by omega) (by decide) dL_law_505 dL_law_506 dL_law_507 dL_law_508 dL_law_509 ?_
  refine lcX (ci := 8) (As := [.int (xs (i + 1))]) (rest := []) G (fun _ h => h) Z (k_stopped (z1) V (xs (i + 1))) iy_X9_stopped ml_L_72 rfl rfl rfl rfl hl.1 (Nat.le_of_ble_eq_true rfl) (Nat.le_of_ble_eq_true rfl) (Nat.le_of_ble_eq_true rfl) dL_law_510 ⟨Nat.le_of_ble_eq_true rfl, Nat.le_of_ble_eq_true rfl⟩ (fun r V1 H locs q1 Z => ?_)
  refine lv_pop hx hb dL_law_513 rfl ?_
  refine lv_aload_n hx hb dL_law_514 rfl (lv_at hl 1 rfl) ?_
  refine lArg (k := 1) GG Z.2.2.2.2.2.2.2 hl (by omega) (by decide) dL_law_515 dL_law_516 dL_law_517 dL_law_518 dL_law_519 ?_
  refine lcM (ci := 9) (As := [.int (xs (i + 1))]) (rest := []) G (fun _ h => h) Z (k_m_stopped (z2) U (xs (i + 1)) hI.1) iy_X10_stopped ml_L_75 rfl rfl rfl rfl hl.1 (Nat.le_of_ble_eq_true rfl) (Nat.le_of_ble_eq_true rfl) (Nat.le_of_ble_eq_true rfl) dL_law_520 ⟨Nat.le_of_ble_eq_true rfl, Nat.le_of_ble_eq_true rfl⟩ (fun x U1 H locs q2 Z => ?_)
  refine lv_pop hx hb dL_law_523 rfl ?_
  refine lv_goto (tgt := 885) hx hb dL_law_524 (by decide) ?_
  exact kk2 r V1 x U1 H locs q1 q2 Z

set_option maxHeartbeats 4000000 in
set_option maxRecDepth 100000 in
theorem lB_best {p : Program} {l : Launch} {e : Env} {s : State} {m : MethodId} {below : List Frame} {meth : Method} {c : Code} {H : Heap} {locs : List Loc} {Q : State → Prop} {ls : Array Slot} {D : va_G} {cI : ClassId} {a a2 : Nat → Nat} {b L : Nat} {xs : Nat → Int32} {kk kv : Nat → Nat} {V U : sV} {i : Nat} (GG : lG p s m meth c b L xs D cI kk kv) (Z : lW D cI (lA s) a a2 V U s.heap H locs) (hI : lI V U) (hi : i + 4 ≤ L) (hl : lv_has ls 4 (lLs b a a2 i))
    (kk2 : ∀ (r : Int32) (V1 : sV) (x : Int32) (U1 : sV) (H1 : Heap) (locs1 : List Loc), q_best V (xs (i + 1)) (xs (i + 2)) r V1 → q_m_best U (xs (i + 1)) (xs (i + 2)) x U1 → lW D cI (lA s) a a2 V1 U1 s.heap H1 locs1 → W p l e room_1 s m #[Value.ref b] below meth c H1 locs1 69 6105 Q (F0 m 885 ls [])) : W p l e room_1 s m #[Value.ref b] below meth c H locs 69 6105 Q (F0 m 527 ls []) := by
  obtain ⟨G, hX, hbl, hE, hL⟩ := id GG
  obtain ⟨hx, hb, -⟩ := id G
  have z1 := Z.1
  have z2 := Z.2.1
  refine lv_aload_n hx hb dL_law_527 rfl (lv_at hl 2 rfl) ?_
  refine lArg (k := 1) GG Z.2.2.2.2.2.2.2 hl (by omega) (by decide) dL_law_528 dL_law_529 dL_law_530 dL_law_531 dL_law_532 ?_
  refine lArg (k := 2) GG Z.2.2.2.2.2.2.2 hl (by omega) (by decide) dL_law_533 dL_law_534 dL_law_535 dL_law_536 dL_law_537 ?_
  refine lcX (ci := 8) (As := [.int (xs (i + 1)), .int (xs (i + 2))]) (rest := []) G (fun _ h => h) Z (k_best (z1) V (xs (i + 1)) (xs (i + 2))) iy_X9_best ml_L_76 rfl rfl rfl rfl hl.1 (Nat.le_of_ble_eq_true rfl) (Nat.le_of_ble_eq_true rfl) (Nat.le_of_ble_eq_true rfl) dL_law_538 ⟨Nat.le_of_ble_eq_true rfl, Nat.le_of_ble_eq_true rfl⟩ (fun r V1 H locs q1 Z => ?_)
  refine lv_pop hx hb dL_law_541 rfl ?_
  refine lv_aload_n hx hb dL_law_542 rfl (lv_at hl 1 rfl) ?_
  refine lArg (k := 1) GG Z.2.2.2.2.2.2.2 hl (by omega) (by decide) dL_law_543 dL_law_544 dL_law_545 dL_law_546 dL_law_547 ?_
  refine lArg (k := 2) GG Z.2.2.2.2.2.2.2 hl (by omega) (by decide) dL_law_548 dL_law_549 dL_law_550 dL_law_551 dL_law_552 ?_
  refine lcM (ci := 9) (As := [.int (xs (i + 1)), .int (xs (i + 2))]) (rest := []) G (fun _ h => h) Z (k_m_best (z2) U (xs (i + 1)) (xs (i + 2)) hI.1) iy_X10_best ml_L_79 rfl rfl rfl rfl hl.1 (Nat.le_of_ble_eq_true rfl) (Nat.le_of_ble_eq_true rfl) (Nat.le_of_ble_eq_true rfl) dL_law_553 ⟨Nat.le_of_ble_eq_true rfl, Nat.le_of_ble_eq_true rfl⟩ (fun x U1 H locs q2 Z => ?_)
  refine lv_pop hx hb dL_law_556 rfl ?_
  refine lv_goto (tgt := 885) hx hb dL_law_557 (by decide) ?_
  exact kk2 r V1 x U1 H locs q1 q2 Z

set_option maxHeartbeats 4000000 in
set_option maxRecDepth 100000 in
theorem lB_pairs {p : Program} {l : Launch} {e : Env} {s : State} {m : MethodId} {below : List Frame} {meth : Method} {c : Code} {H : Heap} {locs : List Loc} {Q : State → Prop} {ls : Array Slot} {D : va_G} {cI : ClassId} {a a2 : Nat → Nat} {b L : Nat} {xs : Nat → Int32} {kk kv : Nat → Nat} {V U : sV} {i : Nat} (GG : lG p s m meth c b L xs D cI kk kv) (Z : lW D cI (lA s) a a2 V U s.heap H locs) (hI : lI V U) (hi : i + 4 ≤ L) (hl : lv_has ls 4 (lLs b a a2 i))
    (kk2 : ∀ (r : Int32) (V1 : sV) (x : Int32) (U1 : sV) (H1 : Heap) (locs1 : List Loc), q_pairs V (xs (i + 1)) r V1 → q_m_pairs U (xs (i + 1)) x U1 → lW D cI (lA s) a a2 V1 U1 s.heap H1 locs1 → W p l e room_1 s m #[Value.ref b] below meth c H1 locs1 69 6105 Q (F0 m 885 ls [])) : W p l e room_1 s m #[Value.ref b] below meth c H locs 69 6105 Q (F0 m 560 ls []) := by
  obtain ⟨G, hX, hbl, hE, hL⟩ := id GG
  obtain ⟨hx, hb, -⟩ := id G
  have z1 := Z.1
  have z2 := Z.2.1
  refine lv_aload_n hx hb dL_law_560 rfl (lv_at hl 2 rfl) ?_
  refine lArg (k := 1) GG Z.2.2.2.2.2.2.2 hl (by omega) (by decide) dL_law_561 dL_law_562 dL_law_563 dL_law_564 dL_law_565 ?_
  refine lcX (ci := 8) (As := [.int (xs (i + 1))]) (rest := []) G (fun _ h => h) Z (k_pairs (z1) V (xs (i + 1))) iy_X9_pairs ml_L_80 rfl rfl rfl rfl hl.1 (Nat.le_of_ble_eq_true rfl) (Nat.le_of_ble_eq_true rfl) (Nat.le_of_ble_eq_true rfl) dL_law_566 ⟨Nat.le_of_ble_eq_true rfl, Nat.le_of_ble_eq_true rfl⟩ (fun r V1 H locs q1 Z => ?_)
  refine lv_pop hx hb dL_law_569 rfl ?_
  refine lv_aload_n hx hb dL_law_570 rfl (lv_at hl 1 rfl) ?_
  refine lArg (k := 1) GG Z.2.2.2.2.2.2.2 hl (by omega) (by decide) dL_law_571 dL_law_572 dL_law_573 dL_law_574 dL_law_575 ?_
  refine lcM (ci := 9) (As := [.int (xs (i + 1))]) (rest := []) G (fun _ h => h) Z (k_m_pairs (z2) U (xs (i + 1)) hI.1) iy_X10_pairs ml_L_83 rfl rfl rfl rfl hl.1 (Nat.le_of_ble_eq_true rfl) (Nat.le_of_ble_eq_true rfl) (Nat.le_of_ble_eq_true rfl) dL_law_576 ⟨Nat.le_of_ble_eq_true rfl, Nat.le_of_ble_eq_true rfl⟩ (fun x U1 H locs q2 Z => ?_)
  refine lv_pop hx hb dL_law_579 rfl ?_
  refine lv_goto (tgt := 885) hx hb dL_law_580 (by decide) ?_
  exact kk2 r V1 x U1 H locs q1 q2 Z

set_option maxHeartbeats 4000000 in
set_option maxRecDepth 100000 in
theorem lB_shut {p : Program} {l : Launch} {e : Env} {s : State} {m : MethodId} {below : List Frame} {meth : Method} {c : Code} {H : Heap} {locs : List Loc} {Q : State → Prop} {ls : Array Slot} {D : va_G} {cI : ClassId} {a a2 : Nat → Nat} {b L : Nat} {xs : Nat → Int32} {kk kv : Nat → Nat} {V U : sV} {i : Nat} (GG : lG p s m meth c b L xs D cI kk kv) (Z : lW D cI (lA s) a a2 V U s.heap H locs) (hI : lI V U) (hi : i + 4 ≤ L) (hl : lv_has ls 4 (lLs b a a2 i))
    (kk2 : ∀ (r : Int32) (V1 : sV) (x : Int32) (U1 : sV) (H1 : Heap) (locs1 : List Loc), q_shut V (xs (i + 1)) (xs (i + 2)) r V1 → q_m_shut U (xs (i + 1)) (xs (i + 2)) x U1 → lW D cI (lA s) a a2 V1 U1 s.heap H1 locs1 → W p l e room_1 s m #[Value.ref b] below meth c H1 locs1 69 6105 Q (F0 m 885 ls [])) : W p l e room_1 s m #[Value.ref b] below meth c H locs 69 6105 Q (F0 m 583 ls []) := by
  obtain ⟨G, hX, hbl, hE, hL⟩ := id GG
  obtain ⟨hx, hb, -⟩ := id G
  have z1 := Z.1
  have z2 := Z.2.1
  refine lv_aload_n hx hb dL_law_583 rfl (lv_at hl 2 rfl) ?_
  refine lArg (k := 1) GG Z.2.2.2.2.2.2.2 hl (by omega) (by decide) dL_law_584 dL_law_585 dL_law_586 dL_law_587 dL_law_588 ?_
  refine lArg (k := 2) GG Z.2.2.2.2.2.2.2 hl (by omega) (by decide) dL_law_589 dL_law_590 dL_law_591 dL_law_592 dL_law_593 ?_
  refine lcX (ci := 8) (As := [.int (xs (i + 1)), .int (xs (i + 2))]) (rest := []) G (fun _ h => h) Z (k_shut (z1) V (xs (i + 1)) (xs (i + 2))) iy_X9_shut ml_L_84 rfl rfl rfl rfl hl.1 (Nat.le_of_ble_eq_true rfl) (Nat.le_of_ble_eq_true rfl) (Nat.le_of_ble_eq_true rfl) dL_law_594 ⟨Nat.le_of_ble_eq_true rfl, Nat.le_of_ble_eq_true rfl⟩ (fun r V1 H locs q1 Z => ?_)
  refine lv_pop hx hb dL_law_597 rfl ?_
  refine lv_aload_n hx hb dL_law_598 rfl (lv_at hl 1 rfl) ?_
  refine lArg (k := 1) GG Z.2.2.2.2.2.2.2 hl (by omega) (by decide) dL_law_599 dL_law_600 dL_law_601 dL_law_602 dL_law_603 ?_
  refine lArg (k := 2) GG Z.2.2.2.2.2.2.2 hl (by omega) (by decide) dL_law_604 dL_law_605 dL_law_606 dL_law_607 dL_law_608 ?_
  refine lcM (ci := 9) (As := [.int (xs (i + 1)), .int (xs (i + 2))]) (rest := []) G (fun _ h => h) Z (k_m_shut (z2) U (xs (i + 1)) (xs (i + 2)) hI.1) iy_X10_shut ml_L_87 rfl rfl rfl rfl hl.1 (Nat.le_of_ble_eq_true rfl) (Nat.le_of_ble_eq_true rfl) (Nat.le_of_ble_eq_true rfl) dL_law_609 ⟨Nat.le_of_ble_eq_true rfl, Nat.le_of_ble_eq_true rfl⟩ (fun x U1 H locs q2 Z => ?_)
  refine lv_pop hx hb dL_law_612 rfl ?_
  refine lv_goto (tgt := 885) hx hb dL_law_613 (by decide) ?_
  exact kk2 r V1 x U1 H locs q1 q2 Z

set_option maxHeartbeats 4000000 in
set_option maxRecDepth 100000 in
theorem lB_chair {p : Program} {l : Launch} {e : Env} {s : State} {m : MethodId} {below : List Frame} {meth : Method} {c : Code} {H : Heap} {locs : List Loc} {Q : State → Prop} {ls : Array Slot} {D : va_G} {cI : ClassId} {a a2 : Nat → Nat} {b L : Nat} {xs : Nat → Int32} {kk kv : Nat → Nat} {V U : sV} {i : Nat} (GG : lG p s m meth c b L xs D cI kk kv) (Z : lW D cI (lA s) a a2 V U s.heap H locs) (hI : lI V U) (hi : i + 4 ≤ L) (hl : lv_has ls 4 (lLs b a a2 i))
    (kk2 : ∀ (r : Int32) (V1 : sV) (x : Int32) (U1 : sV) (H1 : Heap) (locs1 : List Loc), q_chair V  r V1 → q_m_chair U  x U1 → lW D cI (lA s) a a2 V1 U1 s.heap H1 locs1 → W p l e room_1 s m #[Value.ref b] below meth c H1 locs1 69 6105 Q (F0 m 885 ls [])) : W p l e room_1 s m #[Value.ref b] below meth c H locs 69 6105 Q (F0 m 616 ls []) := by
  obtain ⟨G, hX, hbl, hE, hL⟩ := id GG
  obtain ⟨hx, hb, -⟩ := id G
  have z1 := Z.1
  have z2 := Z.2.1
  refine lv_aload_n hx hb dL_law_616 rfl (lv_at hl 2 rfl) ?_
  refine lcX (ci := 8) (As := []) (rest := []) G (fun _ h => h) Z (k_chair (z1) V ) iy_X9_chair ml_L_88 rfl rfl rfl rfl hl.1 (Nat.le_of_ble_eq_true rfl) (Nat.le_of_ble_eq_true rfl) (Nat.le_of_ble_eq_true rfl) dL_law_617 ⟨Nat.le_of_ble_eq_true rfl, Nat.le_of_ble_eq_true rfl⟩ (fun r V1 H locs q1 Z => ?_)
  refine lv_pop hx hb dL_law_620 rfl ?_
  refine lv_aload_n hx hb dL_law_621 rfl (lv_at hl 1 rfl) ?_
  refine lcM (ci := 9) (As := []) (rest := []) G (fun _ h => h) Z (k_m_chair (z2) U  hI.1) iy_X10_chair ml_L_91 rfl rfl rfl rfl hl.1 (Nat.le_of_ble_eq_true rfl) (Nat.le_of_ble_eq_true rfl) (Nat.le_of_ble_eq_true rfl) dL_law_622 ⟨Nat.le_of_ble_eq_true rfl, Nat.le_of_ble_eq_true rfl⟩ (fun x U1 H locs q2 Z => ?_)
  refine lv_pop hx hb dL_law_625 rfl ?_
  refine lv_goto (tgt := 885) hx hb dL_law_626 (by decide) ?_
  exact kk2 r V1 x U1 H locs q1 q2 Z

set_option maxHeartbeats 4000000 in
set_option maxRecDepth 100000 in
theorem lB_finger {p : Program} {l : Launch} {e : Env} {s : State} {m : MethodId} {below : List Frame} {meth : Method} {c : Code} {H : Heap} {locs : List Loc} {Q : State → Prop} {ls : Array Slot} {D : va_G} {cI : ClassId} {a a2 : Nat → Nat} {b L : Nat} {xs : Nat → Int32} {kk kv : Nat → Nat} {V U : sV} {i : Nat} (GG : lG p s m meth c b L xs D cI kk kv) (Z : lW D cI (lA s) a a2 V U s.heap H locs) (hI : lI V U) (hi : i + 4 ≤ L) (hl : lv_has ls 4 (lLs b a a2 i))
    (kk2 : ∀ (r : Int32) (V1 : sV) (x : Int32) (U1 : sV) (H1 : Heap) (locs1 : List Loc), q_finger V  r V1 → q_m_finger U  x U1 → lW D cI (lA s) a a2 V1 U1 s.heap H1 locs1 → W p l e room_1 s m #[Value.ref b] below meth c H1 locs1 69 6105 Q (F0 m 885 ls [])) : W p l e room_1 s m #[Value.ref b] below meth c H locs 69 6105 Q (F0 m 629 ls []) := by
  obtain ⟨G, hX, hbl, hE, hL⟩ := id GG
  obtain ⟨hx, hb, -⟩ := id G
  have z1 := Z.1
  have z2 := Z.2.1
  refine lv_aload_n hx hb dL_law_629 rfl (lv_at hl 2 rfl) ?_
  refine lcX (ci := 8) (As := []) (rest := []) G (fun _ h => h) Z (k_finger (z1) V ) iy_X9_finger ml_L_92 rfl rfl rfl rfl hl.1 (Nat.le_of_ble_eq_true rfl) (Nat.le_of_ble_eq_true rfl) (Nat.le_of_ble_eq_true rfl) dL_law_630 ⟨Nat.le_of_ble_eq_true rfl, Nat.le_of_ble_eq_true rfl⟩ (fun r V1 H locs q1 Z => ?_)
  refine lv_pop hx hb dL_law_633 rfl ?_
  refine lv_aload_n hx hb dL_law_634 rfl (lv_at hl 1 rfl) ?_
  refine lcM (ci := 9) (As := []) (rest := []) G (fun _ h => h) Z (k_m_finger (z2) U  hI.1) iy_X10_finger ml_L_95 rfl rfl rfl rfl hl.1 (Nat.le_of_ble_eq_true rfl) (Nat.le_of_ble_eq_true rfl) (Nat.le_of_ble_eq_true rfl) dL_law_635 ⟨Nat.le_of_ble_eq_true rfl, Nat.le_of_ble_eq_true rfl⟩ (fun x U1 H locs q2 Z => ?_)
  refine lv_pop hx hb dL_law_638 rfl ?_
  refine lv_goto (tgt := 885) hx hb dL_law_639 (by decide) ?_
  exact kk2 r V1 x U1 H locs q1 q2 Z

set_option maxHeartbeats 4000000 in
set_option maxRecDepth 100000 in
theorem lB_number {p : Program} {l : Launch} {e : Env} {s : State} {m : MethodId} {below : List Frame} {meth : Method} {c : Code} {H : Heap} {locs : List Loc} {Q : State → Prop} {ls : Array Slot} {D : va_G} {cI : ClassId} {a a2 : Nat → Nat} {b L : Nat} {xs : Nat → Int32} {kk kv : Nat → Nat} {V U : sV} {i : Nat} (GG : lG p s m meth c b L xs D cI kk kv) (Z : lW D cI (lA s) a a2 V U s.heap H locs) (hI : lI V U) (hi : i + 4 ≤ L) (hl : lv_has ls 4 (lLs b a a2 i))
    (kk2 : ∀ (r : Int32) (V1 : sV) (x : Int32) (U1 : sV) (H1 : Heap) (locs1 : List Loc), q_number V (xs (i + 1)) r V1 → q_m_numberP U (xs (i + 1)) x U1 → lW D cI (lA s) a a2 V1 U1 s.heap H1 locs1 → W p l e room_1 s m #[Value.ref b] below meth c H1 locs1 69 6105 Q (F0 m 885 ls [])) : W p l e room_1 s m #[Value.ref b] below meth c H locs 69 6105 Q (F0 m 642 ls []) := by
  obtain ⟨G, hX, hbl, hE, hL⟩ := id GG
  obtain ⟨hx, hb, -⟩ := id G
  have z1 := Z.1
  have z2 := Z.2.1
  refine lv_aload_n hx hb dL_law_642 rfl (lv_at hl 2 rfl) ?_
  refine lArg (k := 1) GG Z.2.2.2.2.2.2.2 hl (by omega) (by decide) dL_law_643 dL_law_644 dL_law_645 dL_law_646 dL_law_647 ?_
  refine lcX (ci := 8) (As := [.int (xs (i + 1))]) (rest := []) G (fun _ h => h) Z (k_number (z1) V (xs (i + 1))) iy_X9_number ml_L_96 rfl rfl rfl rfl hl.1 (Nat.le_of_ble_eq_true rfl) (Nat.le_of_ble_eq_true rfl) (Nat.le_of_ble_eq_true rfl) dL_law_648 ⟨Nat.le_of_ble_eq_true rfl, Nat.le_of_ble_eq_true rfl⟩ (fun r V1 H locs q1 Z => ?_)
  refine lv_pop hx hb dL_law_651 rfl ?_
  refine lv_aload_n hx hb dL_law_652 rfl (lv_at hl 1 rfl) ?_
  refine lArg (k := 1) GG Z.2.2.2.2.2.2.2 hl (by omega) (by decide) dL_law_653 dL_law_654 dL_law_655 dL_law_656 dL_law_657 ?_
  refine lcM (ci := 9) (As := [.int (xs (i + 1))]) (rest := []) G (fun _ h => h) Z (k_m_numberP (z2) U (xs (i + 1)) hI.1) iy_X10_number_ ml_L_99 rfl rfl rfl rfl hl.1 (Nat.le_of_ble_eq_true rfl) (Nat.le_of_ble_eq_true rfl) (Nat.le_of_ble_eq_true rfl) dL_law_658 ⟨Nat.le_of_ble_eq_true rfl, Nat.le_of_ble_eq_true rfl⟩ (fun x U1 H locs q2 Z => ?_)
  refine lv_pop hx hb dL_law_661 rfl ?_
  refine lv_goto (tgt := 885) hx hb dL_law_662 (by decide) ?_
  exact kk2 r V1 x U1 H locs q1 q2 Z

set_option maxHeartbeats 4000000 in
set_option maxRecDepth 100000 in
theorem lB_winter {p : Program} {l : Launch} {e : Env} {s : State} {m : MethodId} {below : List Frame} {meth : Method} {c : Code} {H : Heap} {locs : List Loc} {Q : State → Prop} {ls : Array Slot} {D : va_G} {cI : ClassId} {a a2 : Nat → Nat} {b L : Nat} {xs : Nat → Int32} {kk kv : Nat → Nat} {V U : sV} {i : Nat} (GG : lG p s m meth c b L xs D cI kk kv) (Z : lW D cI (lA s) a a2 V U s.heap H locs) (hI : lI V U) (hi : i + 4 ≤ L) (hl : lv_has ls 4 (lLs b a a2 i))
    (kk2 : ∀ (r : Int32) (V1 : sV) (x : Int32) (U1 : sV) (H1 : Heap) (locs1 : List Loc), q_winter V  r V1 → q_m_winter U  x U1 → lW D cI (lA s) a a2 V1 U1 s.heap H1 locs1 → W p l e room_1 s m #[Value.ref b] below meth c H1 locs1 69 6105 Q (F0 m 885 ls [])) : W p l e room_1 s m #[Value.ref b] below meth c H locs 69 6105 Q (F0 m 665 ls []) := by
  obtain ⟨G, hX, hbl, hE, hL⟩ := id GG
  obtain ⟨hx, hb, -⟩ := id G
  have z1 := Z.1
  have z2 := Z.2.1
  refine lv_aload_n hx hb dL_law_665 rfl (lv_at hl 2 rfl) ?_
  refine lcX (ci := 8) (As := []) (rest := []) G (fun _ h => h) Z (k_winter (z1) V ) iy_X9_winter ml_L_100 rfl rfl rfl rfl hl.1 (Nat.le_of_ble_eq_true rfl) (Nat.le_of_ble_eq_true rfl) (Nat.le_of_ble_eq_true rfl) dL_law_666 ⟨Nat.le_of_ble_eq_true rfl, Nat.le_of_ble_eq_true rfl⟩ (fun r V1 H locs q1 Z => ?_)
  refine lv_pop hx hb dL_law_669 rfl ?_
  refine lv_aload_n hx hb dL_law_670 rfl (lv_at hl 1 rfl) ?_
  refine lcM (ci := 9) (As := []) (rest := []) G (fun _ h => h) Z (k_m_winter (z2) U  hI.1) iy_X10_winter ml_L_103 rfl rfl rfl rfl hl.1 (Nat.le_of_ble_eq_true rfl) (Nat.le_of_ble_eq_true rfl) (Nat.le_of_ble_eq_true rfl) dL_law_671 ⟨Nat.le_of_ble_eq_true rfl, Nat.le_of_ble_eq_true rfl⟩ (fun x U1 H locs q2 Z => ?_)
  refine lv_pop hx hb dL_law_674 rfl ?_
  refine lv_goto (tgt := 885) hx hb dL_law_675 (by decide) ?_
  exact kk2 r V1 x U1 H locs q1 q2 Z

set_option maxHeartbeats 4000000 in
set_option maxRecDepth 100000 in
theorem lB_turnsAbout {p : Program} {l : Launch} {e : Env} {s : State} {m : MethodId} {below : List Frame} {meth : Method} {c : Code} {H : Heap} {locs : List Loc} {Q : State → Prop} {ls : Array Slot} {D : va_G} {cI : ClassId} {a a2 : Nat → Nat} {b L : Nat} {xs : Nat → Int32} {kk kv : Nat → Nat} {V U : sV} {i : Nat} (GG : lG p s m meth c b L xs D cI kk kv) (Z : lW D cI (lA s) a a2 V U s.heap H locs) (hI : lI V U) (hi : i + 4 ≤ L) (hl : lv_has ls 4 (lLs b a a2 i))
    (kk2 : ∀ (r : Int32) (V1 : sV) (x : Int32) (U1 : sV) (H1 : Heap) (locs1 : List Loc), q_turnsAbout V  r V1 → q_m_turnsAbout U  x U1 → lW D cI (lA s) a a2 V1 U1 s.heap H1 locs1 → W p l e room_1 s m #[Value.ref b] below meth c H1 locs1 69 6105 Q (F0 m 885 ls [])) : W p l e room_1 s m #[Value.ref b] below meth c H locs 69 6105 Q (F0 m 678 ls []) := by
  obtain ⟨G, hX, hbl, hE, hL⟩ := id GG
  obtain ⟨hx, hb, -⟩ := id G
  have z1 := Z.1
  have z2 := Z.2.1
  refine lv_aload_n hx hb dL_law_678 rfl (lv_at hl 2 rfl) ?_
  refine lcX (ci := 8) (As := []) (rest := []) G (fun _ h => h) Z (k_turnsAbout (z1) V ) iy_X9_turnsAbout ml_L_104 rfl rfl rfl rfl hl.1 (Nat.le_of_ble_eq_true rfl) (Nat.le_of_ble_eq_true rfl) (Nat.le_of_ble_eq_true rfl) dL_law_679 ⟨Nat.le_of_ble_eq_true rfl, Nat.le_of_ble_eq_true rfl⟩ (fun r V1 H locs q1 Z => ?_)
  refine lv_pop hx hb dL_law_682 rfl ?_
  refine lv_aload_n hx hb dL_law_683 rfl (lv_at hl 1 rfl) ?_
  refine lcM (ci := 9) (As := []) (rest := []) G (fun _ h => h) Z (k_m_turnsAbout (z2) U  hI.1) iy_X10_turnsAbout ml_L_107 rfl rfl rfl rfl hl.1 (Nat.le_of_ble_eq_true rfl) (Nat.le_of_ble_eq_true rfl) (Nat.le_of_ble_eq_true rfl) dL_law_684 ⟨Nat.le_of_ble_eq_true rfl, Nat.le_of_ble_eq_true rfl⟩ (fun x U1 H locs q2 Z => ?_)
  refine lv_pop hx hb dL_law_687 rfl ?_
  refine lv_goto (tgt := 885) hx hb dL_law_688 (by decide) ?_
  exact kk2 r V1 x U1 H locs q1 q2 Z

set_option maxHeartbeats 4000000 in
set_option maxRecDepth 100000 in
theorem lB_sizes {p : Program} {l : Launch} {e : Env} {s : State} {m : MethodId} {below : List Frame} {meth : Method} {c : Code} {H : Heap} {locs : List Loc} {Q : State → Prop} {ls : Array Slot} {D : va_G} {cI : ClassId} {a a2 : Nat → Nat} {b L : Nat} {xs : Nat → Int32} {kk kv : Nat → Nat} {V U : sV} {i : Nat} (GG : lG p s m meth c b L xs D cI kk kv) (Z : lW D cI (lA s) a a2 V U s.heap H locs) (hI : lI V U) (hi : i + 4 ≤ L) (hl : lv_has ls 4 (lLs b a a2 i))
    (kk2 : ∀ (r : Int32) (V1 : sV) (x : Int32) (U1 : sV) (H1 : Heap) (locs1 : List Loc), q_sizes V (xs (i + 1)) (xs (i + 2)) (xs (i + 3)) r V1 → q_m_sizes U (xs (i + 1)) (xs (i + 2)) (xs (i + 3)) x U1 → lW D cI (lA s) a a2 V1 U1 s.heap H1 locs1 → W p l e room_1 s m #[Value.ref b] below meth c H1 locs1 69 6105 Q (F0 m 885 ls [])) : W p l e room_1 s m #[Value.ref b] below meth c H locs 69 6105 Q (F0 m 691 ls []) := by
  obtain ⟨G, hX, hbl, hE, hL⟩ := id GG
  obtain ⟨hx, hb, -⟩ := id G
  have z1 := Z.1
  have z2 := Z.2.1
  refine lv_aload_n hx hb dL_law_691 rfl (lv_at hl 2 rfl) ?_
  refine lArg (k := 1) GG Z.2.2.2.2.2.2.2 hl (by omega) (by decide) dL_law_692 dL_law_693 dL_law_694 dL_law_695 dL_law_696 ?_
  refine lArg (k := 2) GG Z.2.2.2.2.2.2.2 hl (by omega) (by decide) dL_law_697 dL_law_698 dL_law_699 dL_law_700 dL_law_701 ?_
  refine lArg (k := 3) GG Z.2.2.2.2.2.2.2 hl (by omega) (by decide) dL_law_702 dL_law_703 dL_law_704 dL_law_705 dL_law_706 ?_
  refine lcX (ci := 8) (As := [.int (xs (i + 1)), .int (xs (i + 2)), .int (xs (i + 3))]) (rest := []) G (fun _ h => h) Z (k_sizes (z1) V (xs (i + 1)) (xs (i + 2)) (xs (i + 3))) iy_X9_sizes ml_L_108 rfl rfl rfl rfl hl.1 (Nat.le_of_ble_eq_true rfl) (Nat.le_of_ble_eq_true rfl) (Nat.le_of_ble_eq_true rfl) dL_law_707 ⟨Nat.le_of_ble_eq_true rfl, Nat.le_of_ble_eq_true rfl⟩ (fun r V1 H locs q1 Z => ?_)
  refine lv_pop hx hb dL_law_710 rfl ?_
  refine lv_aload_n hx hb dL_law_711 rfl (lv_at hl 1 rfl) ?_
  refine lArg (k := 1) GG Z.2.2.2.2.2.2.2 hl (by omega) (by decide) dL_law_712 dL_law_713 dL_law_714 dL_law_715 dL_law_716 ?_
  refine lArg (k := 2) GG Z.2.2.2.2.2.2.2 hl (by omega) (by decide) dL_law_717 dL_law_718 dL_law_719 dL_law_720 dL_law_721 ?_
  refine lArg (k := 3) GG Z.2.2.2.2.2.2.2 hl (by omega) (by decide) dL_law_722 dL_law_723 dL_law_724 dL_law_725 dL_law_726 ?_
  refine lcM (ci := 9) (As := [.int (xs (i + 1)), .int (xs (i + 2)), .int (xs (i + 3))]) (rest := []) G (fun _ h => h) Z (k_m_sizes (z2) U (xs (i + 1)) (xs (i + 2)) (xs (i + 3)) hI.1) iy_X10_sizes ml_L_112 rfl rfl rfl rfl hl.1 (Nat.le_of_ble_eq_true rfl) (Nat.le_of_ble_eq_true rfl) (Nat.le_of_ble_eq_true rfl) dL_law_727 ⟨Nat.le_of_ble_eq_true rfl, Nat.le_of_ble_eq_true rfl⟩ (fun x U1 H locs q2 Z => ?_)
  refine lv_pop hx hb dL_law_730 rfl ?_
  refine lv_goto (tgt := 885) hx hb dL_law_731 (by decide) ?_
  exact kk2 r V1 x U1 H locs q1 q2 Z

set_option maxHeartbeats 4000000 in
set_option maxRecDepth 100000 in
theorem lB_hidden {p : Program} {l : Launch} {e : Env} {s : State} {m : MethodId} {below : List Frame} {meth : Method} {c : Code} {H : Heap} {locs : List Loc} {Q : State → Prop} {ls : Array Slot} {D : va_G} {cI : ClassId} {a a2 : Nat → Nat} {b L : Nat} {xs : Nat → Int32} {kk kv : Nat → Nat} {V U : sV} {i : Nat} (GG : lG p s m meth c b L xs D cI kk kv) (Z : lW D cI (lA s) a a2 V U s.heap H locs) (hI : lI V U) (hi : i + 4 ≤ L) (hl : lv_has ls 4 (lLs b a a2 i))
    (kk2 : ∀ (r : Int32) (V1 : sV) (x : Int32) (U1 : sV) (H1 : Heap) (locs1 : List Loc), q_hidden V (xs (i + 1)) (xs (i + 2)) r V1 → q_m_hidden U (xs (i + 1)) (xs (i + 2)) x U1 → lW D cI (lA s) a a2 V1 U1 s.heap H1 locs1 → W p l e room_1 s m #[Value.ref b] below meth c H1 locs1 69 6105 Q (F0 m 885 ls [])) : W p l e room_1 s m #[Value.ref b] below meth c H locs 69 6105 Q (F0 m 734 ls []) := by
  obtain ⟨G, hX, hbl, hE, hL⟩ := id GG
  obtain ⟨hx, hb, -⟩ := id G
  have z1 := Z.1
  have z2 := Z.2.1
  refine lv_aload_n hx hb dL_law_734 rfl (lv_at hl 2 rfl) ?_
  refine lArg (k := 1) GG Z.2.2.2.2.2.2.2 hl (by omega) (by decide) dL_law_735 dL_law_736 dL_law_737 dL_law_738 dL_law_739 ?_
  refine lArg (k := 2) GG Z.2.2.2.2.2.2.2 hl (by omega) (by decide) dL_law_740 dL_law_741 dL_law_742 dL_law_743 dL_law_744 ?_
  refine lcX (ci := 8) (As := [.int (xs (i + 1)), .int (xs (i + 2))]) (rest := []) G (fun _ h => h) Z (k_hidden (z1) V (xs (i + 1)) (xs (i + 2))) iy_X9_hidden ml_L_113 rfl rfl rfl rfl hl.1 (Nat.le_of_ble_eq_true rfl) (Nat.le_of_ble_eq_true rfl) (Nat.le_of_ble_eq_true rfl) dL_law_745 ⟨Nat.le_of_ble_eq_true rfl, Nat.le_of_ble_eq_true rfl⟩ (fun r V1 H locs q1 Z => ?_)
  refine lv_pop hx hb dL_law_748 rfl ?_
  refine lv_aload_n hx hb dL_law_749 rfl (lv_at hl 1 rfl) ?_
  refine lArg (k := 1) GG Z.2.2.2.2.2.2.2 hl (by omega) (by decide) dL_law_750 dL_law_751 dL_law_752 dL_law_753 dL_law_754 ?_
  refine lArg (k := 2) GG Z.2.2.2.2.2.2.2 hl (by omega) (by decide) dL_law_755 dL_law_756 dL_law_757 dL_law_758 dL_law_759 ?_
  refine lcM (ci := 9) (As := [.int (xs (i + 1)), .int (xs (i + 2))]) (rest := []) G (fun _ h => h) Z (k_m_hidden (z2) U (xs (i + 1)) (xs (i + 2)) hI.1) iy_X10_hidden ml_L_116 rfl rfl rfl rfl hl.1 (Nat.le_of_ble_eq_true rfl) (Nat.le_of_ble_eq_true rfl) (Nat.le_of_ble_eq_true rfl) dL_law_760 ⟨Nat.le_of_ble_eq_true rfl, Nat.le_of_ble_eq_true rfl⟩ (fun x U1 H locs q2 Z => ?_)
  refine lv_pop hx hb dL_law_763 rfl ?_
  refine lv_goto (tgt := 885) hx hb dL_law_764 (by decide) ?_
  exact kk2 r V1 x U1 H locs q1 q2 Z

set_option maxHeartbeats 4000000 in
set_option maxRecDepth 100000 in
theorem lB_days {p : Program} {l : Launch} {e : Env} {s : State} {m : MethodId} {below : List Frame} {meth : Method} {c : Code} {H : Heap} {locs : List Loc} {Q : State → Prop} {ls : Array Slot} {D : va_G} {cI : ClassId} {a a2 : Nat → Nat} {b L : Nat} {xs : Nat → Int32} {kk kv : Nat → Nat} {V U : sV} {i : Nat} (GG : lG p s m meth c b L xs D cI kk kv) (Z : lW D cI (lA s) a a2 V U s.heap H locs) (hI : lI V U) (hi : i + 4 ≤ L) (hl : lv_has ls 4 (lLs b a a2 i))
    (kk2 : ∀ (r : Int32) (V1 : sV) (x : Int32) (U1 : sV) (H1 : Heap) (locs1 : List Loc), q_days V (xs (i + 1)) (xs (i + 2)) r V1 → q_m_days U (xs (i + 1)) (xs (i + 2)) x U1 → lW D cI (lA s) a a2 V1 U1 s.heap H1 locs1 → W p l e room_1 s m #[Value.ref b] below meth c H1 locs1 69 6105 Q (F0 m 885 ls [])) : W p l e room_1 s m #[Value.ref b] below meth c H locs 69 6105 Q (F0 m 767 ls []) := by
  obtain ⟨G, hX, hbl, hE, hL⟩ := id GG
  obtain ⟨hx, hb, -⟩ := id G
  have z1 := Z.1
  have z2 := Z.2.1
  refine lv_aload_n hx hb dL_law_767 rfl (lv_at hl 2 rfl) ?_
  refine lArg (k := 1) GG Z.2.2.2.2.2.2.2 hl (by omega) (by decide) dL_law_768 dL_law_769 dL_law_770 dL_law_771 dL_law_772 ?_
  refine lArg (k := 2) GG Z.2.2.2.2.2.2.2 hl (by omega) (by decide) dL_law_773 dL_law_774 dL_law_775 dL_law_776 dL_law_777 ?_
  refine lcX (ci := 8) (As := [.int (xs (i + 1)), .int (xs (i + 2))]) (rest := []) G (fun _ h => h) Z (k_days (z1) V (xs (i + 1)) (xs (i + 2))) iy_X9_days ml_L_117 rfl rfl rfl rfl hl.1 (Nat.le_of_ble_eq_true rfl) (Nat.le_of_ble_eq_true rfl) (Nat.le_of_ble_eq_true rfl) dL_law_778 ⟨Nat.le_of_ble_eq_true rfl, Nat.le_of_ble_eq_true rfl⟩ (fun r V1 H locs q1 Z => ?_)
  refine lv_pop hx hb dL_law_781 rfl ?_
  refine lv_aload_n hx hb dL_law_782 rfl (lv_at hl 1 rfl) ?_
  refine lArg (k := 1) GG Z.2.2.2.2.2.2.2 hl (by omega) (by decide) dL_law_783 dL_law_784 dL_law_785 dL_law_786 dL_law_787 ?_
  refine lArg (k := 2) GG Z.2.2.2.2.2.2.2 hl (by omega) (by decide) dL_law_788 dL_law_789 dL_law_790 dL_law_791 dL_law_792 ?_
  refine lcM (ci := 9) (As := [.int (xs (i + 1)), .int (xs (i + 2))]) (rest := []) G (fun _ h => h) Z (k_m_days (z2) U (xs (i + 1)) (xs (i + 2)) hI.1) iy_X10_days ml_L_120 rfl rfl rfl rfl hl.1 (Nat.le_of_ble_eq_true rfl) (Nat.le_of_ble_eq_true rfl) (Nat.le_of_ble_eq_true rfl) dL_law_793 ⟨Nat.le_of_ble_eq_true rfl, Nat.le_of_ble_eq_true rfl⟩ (fun x U1 H locs q2 Z => ?_)
  refine lv_pop hx hb dL_law_796 rfl ?_
  refine lv_goto (tgt := 885) hx hb dL_law_797 (by decide) ?_
  exact kk2 r V1 x U1 H locs q1 q2 Z

set_option maxHeartbeats 4000000 in
set_option maxRecDepth 100000 in
theorem lB_row {p : Program} {l : Launch} {e : Env} {s : State} {m : MethodId} {below : List Frame} {meth : Method} {c : Code} {H : Heap} {locs : List Loc} {Q : State → Prop} {ls : Array Slot} {D : va_G} {cI : ClassId} {a a2 : Nat → Nat} {b L : Nat} {xs : Nat → Int32} {kk kv : Nat → Nat} {V U : sV} {i : Nat} (GG : lG p s m meth c b L xs D cI kk kv) (Z : lW D cI (lA s) a a2 V U s.heap H locs) (hI : lI V U) (hi : i + 4 ≤ L) (hl : lv_has ls 4 (lLs b a a2 i))
    (kk2 : ∀ (r : Int32) (V1 : sV) (x : Int32) (U1 : sV) (H1 : Heap) (locs1 : List Loc), q_row V (xs (i + 1)) r V1 → q_m_row U (xs (i + 1)) x U1 → lW D cI (lA s) a a2 V1 U1 s.heap H1 locs1 → W p l e room_1 s m #[Value.ref b] below meth c H1 locs1 69 6105 Q (F0 m 885 ls [])) : W p l e room_1 s m #[Value.ref b] below meth c H locs 69 6105 Q (F0 m 800 ls []) := by
  obtain ⟨G, hX, hbl, hE, hL⟩ := id GG
  obtain ⟨hx, hb, -⟩ := id G
  have z1 := Z.1
  have z2 := Z.2.1
  refine lv_aload_n hx hb dL_law_800 rfl (lv_at hl 2 rfl) ?_
  refine lArg (k := 1) GG Z.2.2.2.2.2.2.2 hl (by omega) (by decide) dL_law_801 dL_law_802 dL_law_803 dL_law_804 dL_law_805 ?_
  refine lcX (ci := 8) (As := [.int (xs (i + 1))]) (rest := []) G (fun _ h => h) Z (k_row (z1) V (xs (i + 1))) iy_X9_row ml_L_121 rfl rfl rfl rfl hl.1 (Nat.le_of_ble_eq_true rfl) (Nat.le_of_ble_eq_true rfl) (Nat.le_of_ble_eq_true rfl) dL_law_806 ⟨Nat.le_of_ble_eq_true rfl, Nat.le_of_ble_eq_true rfl⟩ (fun r V1 H locs q1 Z => ?_)
  refine lv_pop hx hb dL_law_809 rfl ?_
  refine lv_aload_n hx hb dL_law_810 rfl (lv_at hl 1 rfl) ?_
  refine lArg (k := 1) GG Z.2.2.2.2.2.2.2 hl (by omega) (by decide) dL_law_811 dL_law_812 dL_law_813 dL_law_814 dL_law_815 ?_
  refine lcM (ci := 9) (As := [.int (xs (i + 1))]) (rest := []) G (fun _ h => h) Z (k_m_row (z2) U (xs (i + 1)) hI.1) iy_X10_row ml_L_124 rfl rfl rfl rfl hl.1 (Nat.le_of_ble_eq_true rfl) (Nat.le_of_ble_eq_true rfl) (Nat.le_of_ble_eq_true rfl) dL_law_816 ⟨Nat.le_of_ble_eq_true rfl, Nat.le_of_ble_eq_true rfl⟩ (fun x U1 H locs q2 Z => ?_)
  refine lv_pop hx hb dL_law_819 rfl ?_
  refine lv_goto (tgt := 885) hx hb dL_law_820 (by decide) ?_
  exact kk2 r V1 x U1 H locs q1 q2 Z

set_option maxHeartbeats 4000000 in
set_option maxRecDepth 100000 in
theorem lB_judge {p : Program} {l : Launch} {e : Env} {s : State} {m : MethodId} {below : List Frame} {meth : Method} {c : Code} {H : Heap} {locs : List Loc} {Q : State → Prop} {ls : Array Slot} {D : va_G} {cI : ClassId} {a a2 : Nat → Nat} {b L : Nat} {xs : Nat → Int32} {kk kv : Nat → Nat} {V U : sV} {i : Nat} (GG : lG p s m meth c b L xs D cI kk kv) (Z : lW D cI (lA s) a a2 V U s.heap H locs) (hI : lI V U) (hi : i + 4 ≤ L) (hl : lv_has ls 4 (lLs b a a2 i))
    (kk2 : ∀ (r : Int32) (V1 : sV) (x : Int32) (U1 : sV) (H1 : Heap) (locs1 : List Loc), q_judge V  r V1 → q_m_judge U  x U1 → lW D cI (lA s) a a2 V1 U1 s.heap H1 locs1 → W p l e room_1 s m #[Value.ref b] below meth c H1 locs1 69 6105 Q (F0 m 885 ls [])) : W p l e room_1 s m #[Value.ref b] below meth c H locs 69 6105 Q (F0 m 823 ls []) := by
  obtain ⟨G, hX, hbl, hE, hL⟩ := id GG
  obtain ⟨hx, hb, -⟩ := id G
  have z1 := Z.1
  have z2 := Z.2.1
  refine lv_aload_n hx hb dL_law_823 rfl (lv_at hl 2 rfl) ?_
  refine lcX (ci := 8) (As := []) (rest := []) G (fun _ h => h) Z (k_judge (z1) V ) iy_X9_judge ml_L_125 rfl rfl rfl rfl hl.1 (Nat.le_of_ble_eq_true rfl) (Nat.le_of_ble_eq_true rfl) (Nat.le_of_ble_eq_true rfl) dL_law_824 ⟨Nat.le_of_ble_eq_true rfl, Nat.le_of_ble_eq_true rfl⟩ (fun r V1 H locs q1 Z => ?_)
  refine lv_pop hx hb dL_law_827 rfl ?_
  refine lv_aload_n hx hb dL_law_828 rfl (lv_at hl 1 rfl) ?_
  refine lcM (ci := 9) (As := []) (rest := []) G (fun _ h => h) Z (k_m_judge (z2) U  hI.1) iy_X10_judge ml_L_128 rfl rfl rfl rfl hl.1 (Nat.le_of_ble_eq_true rfl) (Nat.le_of_ble_eq_true rfl) (Nat.le_of_ble_eq_true rfl) dL_law_829 ⟨Nat.le_of_ble_eq_true rfl, Nat.le_of_ble_eq_true rfl⟩ (fun x U1 H locs q2 Z => ?_)
  refine lv_pop hx hb dL_law_832 rfl ?_
  refine lv_goto (tgt := 885) hx hb dL_law_833 (by decide) ?_
  exact kk2 r V1 x U1 H locs q1 q2 Z

set_option maxHeartbeats 4000000 in
set_option maxRecDepth 100000 in
theorem lB_image {p : Program} {l : Launch} {e : Env} {s : State} {m : MethodId} {below : List Frame} {meth : Method} {c : Code} {H : Heap} {locs : List Loc} {Q : State → Prop} {ls : Array Slot} {D : va_G} {cI : ClassId} {a a2 : Nat → Nat} {b L : Nat} {xs : Nat → Int32} {kk kv : Nat → Nat} {V U : sV} {i : Nat} (GG : lG p s m meth c b L xs D cI kk kv) (Z : lW D cI (lA s) a a2 V U s.heap H locs) (hI : lI V U) (hi : i + 4 ≤ L) (hl : lv_has ls 4 (lLs b a a2 i))
    (kk2 : ∀ (r : Int32) (V1 : sV) (x : Int32) (U1 : sV) (H1 : Heap) (locs1 : List Loc), q_image V  r V1 → q_m_image U  x U1 → lW D cI (lA s) a a2 V1 U1 s.heap H1 locs1 → W p l e room_1 s m #[Value.ref b] below meth c H1 locs1 69 6105 Q (F0 m 885 ls [])) : W p l e room_1 s m #[Value.ref b] below meth c H locs 69 6105 Q (F0 m 836 ls []) := by
  obtain ⟨G, hX, hbl, hE, hL⟩ := id GG
  obtain ⟨hx, hb, -⟩ := id G
  have z1 := Z.1
  have z2 := Z.2.1
  refine lv_aload_n hx hb dL_law_836 rfl (lv_at hl 2 rfl) ?_
  refine lcX (ci := 8) (As := []) (rest := []) G (fun _ h => h) Z (k_image (z1) V ) iy_X9_image ml_L_129 rfl rfl rfl rfl hl.1 (Nat.le_of_ble_eq_true rfl) (Nat.le_of_ble_eq_true rfl) (Nat.le_of_ble_eq_true rfl) dL_law_837 ⟨Nat.le_of_ble_eq_true rfl, Nat.le_of_ble_eq_true rfl⟩ (fun r V1 H locs q1 Z => ?_)
  refine lv_pop hx hb dL_law_840 rfl ?_
  refine lv_aload_n hx hb dL_law_841 rfl (lv_at hl 1 rfl) ?_
  refine lcM (ci := 9) (As := []) (rest := []) G (fun _ h => h) Z (k_m_image (z2) U  hI.1) iy_X10_image ml_L_132 rfl rfl rfl rfl hl.1 (Nat.le_of_ble_eq_true rfl) (Nat.le_of_ble_eq_true rfl) (Nat.le_of_ble_eq_true rfl) dL_law_842 ⟨Nat.le_of_ble_eq_true rfl, Nat.le_of_ble_eq_true rfl⟩ (fun x U1 H locs q2 Z => ?_)
  refine lv_pop hx hb dL_law_845 rfl ?_
  refine lv_goto (tgt := 885) hx hb dL_law_846 (by decide) ?_
  exact kk2 r V1 x U1 H locs q1 q2 Z

set_option maxHeartbeats 4000000 in
set_option maxRecDepth 100000 in
theorem lB_on {p : Program} {l : Launch} {e : Env} {s : State} {m : MethodId} {below : List Frame} {meth : Method} {c : Code} {H : Heap} {locs : List Loc} {Q : State → Prop} {ls : Array Slot} {D : va_G} {cI : ClassId} {a a2 : Nat → Nat} {b L : Nat} {xs : Nat → Int32} {kk kv : Nat → Nat} {V U : sV} {i : Nat} (GG : lG p s m meth c b L xs D cI kk kv) (Z : lW D cI (lA s) a a2 V U s.heap H locs) (hI : lI V U) (hi : i + 4 ≤ L) (hl : lv_has ls 4 (lLs b a a2 i))
    (kk2 : ∀ (r : Int32) (V1 : sV) (x : Int32) (U1 : sV) (H1 : Heap) (locs1 : List Loc), q_on V  r V1 → q_m_on U  x U1 → lW D cI (lA s) a a2 V1 U1 s.heap H1 locs1 → W p l e room_1 s m #[Value.ref b] below meth c H1 locs1 69 6105 Q (F0 m 885 ls [])) : W p l e room_1 s m #[Value.ref b] below meth c H locs 69 6105 Q (F0 m 849 ls []) := by
  obtain ⟨G, hX, hbl, hE, hL⟩ := id GG
  obtain ⟨hx, hb, -⟩ := id G
  have z1 := Z.1
  have z2 := Z.2.1
  refine lv_aload_n hx hb dL_law_849 rfl (lv_at hl 2 rfl) ?_
  refine lcX (ci := 8) (As := []) (rest := []) G (fun _ h => h) Z (k_on (z1) V ) iy_X9_on ml_L_133 rfl rfl rfl rfl hl.1 (Nat.le_of_ble_eq_true rfl) (Nat.le_of_ble_eq_true rfl) (Nat.le_of_ble_eq_true rfl) dL_law_850 ⟨Nat.le_of_ble_eq_true rfl, Nat.le_of_ble_eq_true rfl⟩ (fun r V1 H locs q1 Z => ?_)
  refine lv_pop hx hb dL_law_853 rfl ?_
  refine lv_aload_n hx hb dL_law_854 rfl (lv_at hl 1 rfl) ?_
  refine lcM (ci := 9) (As := []) (rest := []) G (fun _ h => h) Z (k_m_on (z2) U  hI.1) iy_X10_on ml_L_136 rfl rfl rfl rfl hl.1 (Nat.le_of_ble_eq_true rfl) (Nat.le_of_ble_eq_true rfl) (Nat.le_of_ble_eq_true rfl) dL_law_855 ⟨Nat.le_of_ble_eq_true rfl, Nat.le_of_ble_eq_true rfl⟩ (fun x U1 H locs q2 Z => ?_)
  refine lv_pop hx hb dL_law_858 rfl ?_
  refine lv_goto (tgt := 885) hx hb dL_law_859 (by decide) ?_
  exact kk2 r V1 x U1 H locs q1 q2 Z

set_option maxHeartbeats 4000000 in
set_option maxRecDepth 100000 in
theorem lB_count {p : Program} {l : Launch} {e : Env} {s : State} {m : MethodId} {below : List Frame} {meth : Method} {c : Code} {H : Heap} {locs : List Loc} {Q : State → Prop} {ls : Array Slot} {D : va_G} {cI : ClassId} {a a2 : Nat → Nat} {b L : Nat} {xs : Nat → Int32} {kk kv : Nat → Nat} {V U : sV} {i : Nat} (GG : lG p s m meth c b L xs D cI kk kv) (Z : lW D cI (lA s) a a2 V U s.heap H locs) (hI : lI V U) (hi : i + 4 ≤ L) (hl : lv_has ls 4 (lLs b a a2 i))
    (kk2 : ∀ (r : Int32) (V1 : sV) (x : Int32) (U1 : sV) (H1 : Heap) (locs1 : List Loc), q_count V (xs (i + 1)) r V1 → q_m_count U (xs (i + 1)) x U1 → lW D cI (lA s) a a2 V1 U1 s.heap H1 locs1 → W p l e room_1 s m #[Value.ref b] below meth c H1 locs1 69 6105 Q (F0 m 885 ls [])) : W p l e room_1 s m #[Value.ref b] below meth c H locs 69 6105 Q (F0 m 862 ls []) := by
  obtain ⟨G, hX, hbl, hE, hL⟩ := id GG
  obtain ⟨hx, hb, -⟩ := id G
  have z1 := Z.1
  have z2 := Z.2.1
  refine lv_aload_n hx hb dL_law_862 rfl (lv_at hl 2 rfl) ?_
  refine lArg (k := 1) GG Z.2.2.2.2.2.2.2 hl (by omega) (by decide) dL_law_863 dL_law_864 dL_law_865 dL_law_866 dL_law_867 ?_
  refine lcX (ci := 8) (As := [.int (xs (i + 1))]) (rest := []) G (fun _ h => h) Z (k_count (z1) V (xs (i + 1))) iy_X9_count ml_L_137 rfl rfl rfl rfl hl.1 (Nat.le_of_ble_eq_true rfl) (Nat.le_of_ble_eq_true rfl) (Nat.le_of_ble_eq_true rfl) dL_law_868 ⟨Nat.le_of_ble_eq_true rfl, Nat.le_of_ble_eq_true rfl⟩ (fun r V1 H locs q1 Z => ?_)
  refine lv_pop hx hb dL_law_871 rfl ?_
  refine lv_aload_n hx hb dL_law_872 rfl (lv_at hl 1 rfl) ?_
  refine lArg (k := 1) GG Z.2.2.2.2.2.2.2 hl (by omega) (by decide) dL_law_873 dL_law_874 dL_law_875 dL_law_876 dL_law_877 ?_
  refine lcM (ci := 9) (As := [.int (xs (i + 1))]) (rest := []) G (fun _ h => h) Z (k_m_count (z2) U (xs (i + 1)) hI.1) iy_X10_count ml_L_140 rfl rfl rfl rfl hl.1 (Nat.le_of_ble_eq_true rfl) (Nat.le_of_ble_eq_true rfl) (Nat.le_of_ble_eq_true rfl) dL_law_878 ⟨Nat.le_of_ble_eq_true rfl, Nat.le_of_ble_eq_true rfl⟩ (fun x U1 H locs q2 Z => ?_)
  refine lv_pop hx hb dL_law_881 rfl ?_
  refine lv_goto (tgt := 885) hx hb dL_law_882 (by decide) ?_
  exact kk2 r V1 x U1 H locs q1 q2 Z
