def q_m_statement (V : sV) : Int32 → sV → Prop := fun x V1 => mS V V1 ∧ (0 ≤ x.toInt → (V 0 22).toInt < (V1 0 22).toInt) ∧ (x.toInt = 2 → (V1 16 1).toInt < 7 ∧ (V1 16 3).toInt ≤ 9)
set_option maxRecDepth 100000 in
set_option maxHeartbeats 4000000 in
theorem k_m_statement {l : Launch} {D : va_G} {cI : ClassId} {a : Nat → Nat} {kk kv : Nat → Nat} (ha : sInj SM a) (V : sV) (hm : mI V) (hat : mA V) : sMK l D cI SM a V kk kv yX10_statement cX10_statement 2 .int 4 [.ref (a 0)] (q_m_statement V) := by
  refine sMKof ha (by decide +kernel) (Nat.le_of_ble_eq_true rfl) ?_
  intro p e s m below meth c ls G X hE hl
  obtain ⟨hx, hb, hml, hown, hts, hlocks, hr, hK⟩ := id G
  have hl : lv_has ls 2 [(0, .ref (a 0))] := hl
  obtain ⟨mf0, mf1, mf3, mf11, mf14, mf15⟩ := hm.1
  have hs0 : mS V V := mS.rf hm hat
  refine lv_aload_n hx hb dX10_statement_0 rfl (lv_at hl 0 rfl) ?_
  refine lv_bipush (v := 110) hx hb dX10_statement_1 (by decide) ?_
  refine scI (ci := 9) (As := [.int 110]) (rest := []) G X (k_m_is ha V 110 (by assumption) (by assumption) (by decide)) iy_X10_is ml_X10_86 rfl rfl rfl rfl hl.1 (by decide) (by decide) (Nat.le_of_ble_eq_true rfl) dX10_statement_3 (fun y3 V3 H locs p3 X => ?_)
  have hs3 : mS V V3 := (hs0).tr p3.1
  have hm3 := hs3.1
  have ha3 : mA V3 := hs3.a hat
  have l3 := p3.1.2.2.2.1
  have b3 := p3.2.2
  refine sZeq (tgt := 33) hx hb (rfl : Int32.toInt y3 = _) dX10_statement_6 (by decide) (fun c6 => ?_) (fun c6 => ?_)
  · skip
    refine lv_aload_n hx hb dX10_statement_33 rfl (lv_at hl 0 rfl) ?_
    refine lv_bipush (v := 100) hx hb dX10_statement_34 (by decide) ?_
    refine scI (ci := 9) (As := [.int 100]) (rest := []) G X (k_m_is ha V3 100 (by assumption) (by assumption) (by decide)) iy_X10_is ml_X10_86 rfl rfl rfl rfl hl.1 (by decide) (by decide) (Nat.le_of_ble_eq_true rfl) dX10_statement_36 (fun y36 V36 H locs p36 X => ?_)
    have hs36 : mS V V36 := (hs3).tr p36.1
    have hm36 := hs36.1
    have ha36 : mA V36 := hs36.a hat
    have l36 := p36.1.2.2.2.1
    have b36 := p36.2.2
    refine sZeq (tgt := 84) hx hb (rfl : Int32.toInt y36 = _) dX10_statement_39 (by decide) (fun c39 => ?_) (fun c39 => ?_)
    · skip
      refine lv_aload_n hx hb dX10_statement_84 rfl (lv_at hl 0 rfl) ?_
      refine lv_bipush (v := 119) hx hb dX10_statement_85 (by decide) ?_
      refine scI (ci := 9) (As := [.int 119]) (rest := []) G X (k_m_is ha V36 119 (by assumption) (by assumption) (by decide)) iy_X10_is ml_X10_86 rfl rfl rfl rfl hl.1 (by decide) (by decide) (Nat.le_of_ble_eq_true rfl) dX10_statement_87 (fun y87 V87 H locs p87 X => ?_)
      have hs87 : mS V V87 := (hs36).tr p87.1
      have hm87 := hs87.1
      have ha87 : mA V87 := hs87.a hat
      have l87 := p87.1.2.2.2.1
      have b87 := p87.2.2
      refine sZeq (tgt := 153) hx hb (rfl : Int32.toInt y87 = _) dX10_statement_90 (by decide) (fun c90 => ?_) (fun c90 => ?_)
      · skip
        refine lv_aload_n hx hb dX10_statement_153 rfl (lv_at hl 0 rfl) ?_
        refine lv_bipush (v := 104) hx hb dX10_statement_154 (by decide) ?_
        refine scI (ci := 9) (As := [.int 104]) (rest := []) G X (k_m_is ha V87 104 (by assumption) (by assumption) (by decide)) iy_X10_is ml_X10_86 rfl rfl rfl rfl hl.1 (by decide) (by decide) (Nat.le_of_ble_eq_true rfl) dX10_statement_156 (fun y156 V156 H locs p156 X => ?_)
        have hs156 : mS V V156 := (hs87).tr p156.1
        have hm156 := hs156.1
        have ha156 : mA V156 := hs156.a hat
        have l156 := p156.1.2.2.2.1
        have b156 := p156.2.2
        refine sZeq (tgt := 171) hx hb (rfl : Int32.toInt y156 = _) dX10_statement_159 (by decide) (fun c159 => ?_) (fun c159 => ?_)
        · skip
          refine lv_iconst (v := (-1)) hx hb dX10_statement_171 (by decide) ?_
          exact srI G X (rfl) dX10_statement_172 (by first | exact ⟨hs165, fun h => absurd h (by decide), fun h => absurd h (by decide)⟩ | exact ⟨hs156, fun h => absurd h (by decide), fun h => absurd h (by decide)⟩)
        · skip
          refine lv_aload_n hx hb dX10_statement_162 rfl (lv_at hl 0 rfl) ?_
          refine lv_iconst (v := 0) hx hb dX10_statement_163 (by decide) ?_
          refine lv_iconst (v := 1) hx hb dX10_statement_164 (by decide) ?_
          refine scI (ci := 9) (As := [.int 0, .int 1]) (rest := []) G X (k_m_number2 ha V156 0 1 (by assumption) (by assumption) (by decide) (by decide) (by decide)) iy_X10_number ml_X10_90 rfl rfl rfl rfl hl.1 (by decide) (by decide) (Nat.le_of_ble_eq_true rfl) dX10_statement_165 (fun y165 V165 H locs p165 X => ?_)
          have hs165 : mS V V165 := (hs156).tr p165.1
          have hm165 := hs165.1
          have ha165 : mA V165 := hs165.a hat
          have l165 := p165.1.2.2.2.1
          refine sZne (tgt := 173) hx hb (rfl : Int32.toInt y165 = _) dX10_statement_168 (by decide) (fun c168 => ?_) (fun c168 => ?_)
          · skip
            refine lv_aload_n hx hb dX10_statement_173 rfl (lv_at hl 0 rfl) ?_
            refine scI (ci := 9) (As := []) (rest := []) G X (k_m_sign ha V165 (by assumption) (by assumption)) iy_X10_sign ml_X10_78 rfl rfl rfl rfl hl.1 (by decide) (by decide) (Nat.le_of_ble_eq_true rfl) dX10_statement_174 (fun y174 V174 H locs p174 X => ?_)
            obtain ⟨p174, z174⟩ := p174
            subst V174
            have L193 : ∀ (y : Int32) (H : Heap) (locs : List Loc) (ls : Array Slot), (y.toInt < 7 ∧ (0 ≤ y.toInt → (V165 0 22).toInt < (V165 0 1).toInt)) → sWS D cI SM a V165 s.heap H locs → lv_has ls 2 [(0, .ref (a 0))] → W p l e (rmD 4) s m ([.ref (a 0)] : List Value).toArray below meth c H locs 0 0 (MQ below (va_Qi (q_m_statement V) (fun V1 t => va_P D vwCl (sWd cI SM a V1) t.heap) (sA SM a s.heap.size)) ([.ref (a 0)] : List Value).toArray s 0 0 (sA SM a s.heap.size)) (F0 m 193 ls [.int y]) := by
                intro y H locs ls hy X hl
                refine lv_istore_n (lv' := [(1, .int y), (0, .ref (a 0))]) hx hb dX10_statement_193 rfl hl (by decide) rfl (fun ls hl => ?_)
                refine lv_iload_n hx hb dX10_statement_194 rfl (lv_at hl 0 rfl) ?_
                refine sZge (tgt := 200) hx hb (rfl : Int32.toInt y = _) dX10_statement_195 (by decide) (fun c195 => ?_) (fun c195 => ?_)
                · skip
                  refine lv_aload_n hx hb dX10_statement_200 rfl (lv_at hl 1 rfl) ?_
                  refine sgR G X 0 23 rfl rfl fl_X10_55 dX10_statement_201 ?_
                  refine lv_iconst (v := 1) hx hb dX10_statement_204 (by decide) ?_
                  refine lv_iload_n hx hb dX10_statement_205 rfl (lv_at hl 0 rfl) ?_
                  refine sst G X 16 rfl (i32_in (by decide) (by decide)) dX10_statement_206 (fun H locs X => ?_)
                  have X : sWS D cI SM a (sUp V165 16 (upd (V165 16) 1 y)) s.heap H locs := X
                  refine lv_aload_n hx hb dX10_statement_207 rfl (lv_at hl 1 rfl) ?_
                  refine lv_dup hx hb dX10_statement_208 rfl ?_
                  refine sgI G X 0 22 rfl rfl fl_X10_75 dX10_statement_209 ?_
                  refine sTop (y := V165 0 22) rfl ?_
                  refine lv_iconst (v := 1) hx hb dX10_statement_212 (by decide) ?_
                  refine lv_iadd hx hb dX10_statement_213 ?_
                  refine lv_topi (fun x213 e213 => ?_)
                  refine spI G X 0 22 rfl rfl fp_X10_75 dX10_statement_214 (fun H locs X => ?_)
                  obtain ⟨E, eE⟩ : ∃ Yq : sV, Yq = (sUp (sUp V165 16 (upd (V165 16) 1 y)) 0 (upd ((sUp V165 16 (upd (V165 16) 1 y)) 0) 22 x213)) := ⟨_, rfl⟩
                  rw [← eE] at X
                  have qE1 : E 16 1 = y := by rw [eE]; rfl
                  have hsE : mS V E := by rw [eE]; exact (hs165.num (k := 1) (v := y) (by omega)).step (hy.2 (by omega)) e213
                  have hmE := hsE.1
                  have haE : mA E := hsE.a hat
                  have lE : (V165 0 22).toInt ≤ (E 0 22).toInt := by rw [eE, sUp_s, upd_s, i32_i e213 (by have := hy.2 (by omega); have := i32_hi (V165 0 1); omega)]; omega
                  refine lv_aload_n hx hb dX10_statement_217 rfl (lv_at hl 1 rfl) ?_
                  refine lv_iconst (v := 2) hx hb dX10_statement_218 (by decide) ?_
                  refine lv_iconst (v := 1) hx hb dX10_statement_219 (by decide) ?_
                  refine scI (ci := 9) (As := [.int 2, .int 1]) (rest := []) G X (k_m_number2 ha E 2 1 (by assumption) (by assumption) (by decide) (by decide) (by decide)) iy_X10_number ml_X10_90 rfl rfl rfl rfl hl.1 (by decide) (by decide) (Nat.le_of_ble_eq_true rfl) dX10_statement_220 (fun y220 V220 H locs p220 X => ?_)
                  have hs220 : mS V V220 := (hsE).tr p220.1
                  have hm220 := hs220.1
                  have ha220 : mA V220 := hs220.a hat
                  have l220 := p220.1.2.2.2.1
                  refine sZeq (tgt := 275) hx hb (rfl : Int32.toInt y220 = _) dX10_statement_223 (by decide) (fun c223 => ?_) (fun c223 => ?_)
                  · skip
                    refine lv_iconst (v := (-1)) hx hb dX10_statement_275 (by decide) ?_
                    exact srI G X (rfl) dX10_statement_276 (by 
                        first
                        | exact ⟨hs265, fun _ => by omega, fun _ => qf⟩
                        | exact ⟨hs265, fun h => absurd h (by decide), fun h => absurd h (by decide)⟩ | exact ⟨hs256, fun h => absurd h (by decide), fun h => absurd h (by decide)⟩ | exact ⟨hs247, fun h => absurd h (by decide), fun h => absurd h (by decide)⟩ | exact ⟨hs238, fun h => absurd h (by decide), fun h => absurd h (by decide)⟩ | exact ⟨hs229, fun h => absurd h (by decide), fun h => absurd h (by decide)⟩ | exact ⟨hs220, fun h => absurd h (by decide), fun h => absurd h (by decide)⟩)
                  · skip
                    refine lv_aload_n hx hb dX10_statement_226 rfl (lv_at hl 1 rfl) ?_
                    refine lv_iconst (v := 3) hx hb dX10_statement_227 (by decide) ?_
                    refine lv_iconst (v := 1) hx hb dX10_statement_228 (by decide) ?_
                    refine scI (ci := 9) (As := [.int 3, .int 1]) (rest := []) G X (k_m_number2 ha V220 3 1 (by assumption) (by assumption) (by decide) (by decide) (by decide)) iy_X10_number ml_X10_90 rfl rfl rfl rfl hl.1 (by decide) (by decide) (Nat.le_of_ble_eq_true rfl) dX10_statement_229 (fun y229 V229 H locs p229 X => ?_)
                    have hs229 : mS V V229 := (hs220).tr p229.1
                    have hm229 := hs229.1
                    have ha229 : mA V229 := hs229.a hat
                    have l229 := p229.1.2.2.2.1
                    refine sZeq (tgt := 275) hx hb (rfl : Int32.toInt y229 = _) dX10_statement_232 (by decide) (fun c232 => ?_) (fun c232 => ?_)
                    · skip
                      refine lv_iconst (v := (-1)) hx hb dX10_statement_275 (by decide) ?_
                      exact srI G X (rfl) dX10_statement_276 (by 
                          first
                          | exact ⟨hs265, fun _ => by omega, fun _ => qf⟩
                          | exact ⟨hs265, fun h => absurd h (by decide), fun h => absurd h (by decide)⟩ | exact ⟨hs256, fun h => absurd h (by decide), fun h => absurd h (by decide)⟩ | exact ⟨hs247, fun h => absurd h (by decide), fun h => absurd h (by decide)⟩ | exact ⟨hs238, fun h => absurd h (by decide), fun h => absurd h (by decide)⟩ | exact ⟨hs229, fun h => absurd h (by decide), fun h => absurd h (by decide)⟩ | exact ⟨hs220, fun h => absurd h (by decide), fun h => absurd h (by decide)⟩)
                    · skip
                      refine lv_aload_n hx hb dX10_statement_235 rfl (lv_at hl 1 rfl) ?_
                      refine lv_iconst (v := 4) hx hb dX10_statement_236 (by decide) ?_
                      refine lv_iconst (v := 1) hx hb dX10_statement_237 (by decide) ?_
                      refine scI (ci := 9) (As := [.int 4, .int 1]) (rest := []) G X (k_m_number2 ha V229 4 1 (by assumption) (by assumption) (by decide) (by decide) (by decide)) iy_X10_number ml_X10_90 rfl rfl rfl rfl hl.1 (by decide) (by decide) (Nat.le_of_ble_eq_true rfl) dX10_statement_238 (fun y238 V238 H locs p238 X => ?_)
                      have hs238 : mS V V238 := (hs229).tr p238.1
                      have hm238 := hs238.1
                      have ha238 : mA V238 := hs238.a hat
                      have l238 := p238.1.2.2.2.1
                      refine sZeq (tgt := 275) hx hb (rfl : Int32.toInt y238 = _) dX10_statement_241 (by decide) (fun c241 => ?_) (fun c241 => ?_)
                      · skip
                        refine lv_iconst (v := (-1)) hx hb dX10_statement_275 (by decide) ?_
                        exact srI G X (rfl) dX10_statement_276 (by 
                            first
                            | exact ⟨hs265, fun _ => by omega, fun _ => qf⟩
                            | exact ⟨hs265, fun h => absurd h (by decide), fun h => absurd h (by decide)⟩ | exact ⟨hs256, fun h => absurd h (by decide), fun h => absurd h (by decide)⟩ | exact ⟨hs247, fun h => absurd h (by decide), fun h => absurd h (by decide)⟩ | exact ⟨hs238, fun h => absurd h (by decide), fun h => absurd h (by decide)⟩ | exact ⟨hs229, fun h => absurd h (by decide), fun h => absurd h (by decide)⟩ | exact ⟨hs220, fun h => absurd h (by decide), fun h => absurd h (by decide)⟩)
                      · skip
                        refine lv_aload_n hx hb dX10_statement_244 rfl (lv_at hl 1 rfl) ?_
                        refine lv_bipush (v := 44) hx hb dX10_statement_245 (by decide) ?_
                        refine scI (ci := 9) (As := [.int 44]) (rest := []) G X (k_m_is ha V238 44 (by assumption) (by assumption) (by decide)) iy_X10_is ml_X10_86 rfl rfl rfl rfl hl.1 (by decide) (by decide) (Nat.le_of_ble_eq_true rfl) dX10_statement_247 (fun y247 V247 H locs p247 X => ?_)
                        have hs247 : mS V V247 := (hs238).tr p247.1
                        have hm247 := hs247.1
                        have ha247 : mA V247 := hs247.a hat
                        have l247 := p247.1.2.2.2.1
                        refine sZeq (tgt := 275) hx hb (rfl : Int32.toInt y247 = _) dX10_statement_250 (by decide) (fun c250 => ?_) (fun c250 => ?_)
                        · skip
                          refine lv_iconst (v := (-1)) hx hb dX10_statement_275 (by decide) ?_
                          exact srI G X (rfl) dX10_statement_276 (by 
                              first
                              | exact ⟨hs265, fun _ => by omega, fun _ => qf⟩
                              | exact ⟨hs265, fun h => absurd h (by decide), fun h => absurd h (by decide)⟩ | exact ⟨hs256, fun h => absurd h (by decide), fun h => absurd h (by decide)⟩ | exact ⟨hs247, fun h => absurd h (by decide), fun h => absurd h (by decide)⟩ | exact ⟨hs238, fun h => absurd h (by decide), fun h => absurd h (by decide)⟩ | exact ⟨hs229, fun h => absurd h (by decide), fun h => absurd h (by decide)⟩ | exact ⟨hs220, fun h => absurd h (by decide), fun h => absurd h (by decide)⟩)
                        · skip
                          refine lv_aload_n hx hb dX10_statement_253 rfl (lv_at hl 1 rfl) ?_
                          refine lv_iconst (v := 5) hx hb dX10_statement_254 (by decide) ?_
                          refine lv_iconst (v := 2) hx hb dX10_statement_255 (by decide) ?_
                          refine scI (ci := 9) (As := [.int 5, .int 2]) (rest := []) G X (k_m_number2 ha V247 5 2 (by assumption) (by assumption) (by decide) (by decide) (by decide)) iy_X10_number ml_X10_90 rfl rfl rfl rfl hl.1 (by decide) (by decide) (Nat.le_of_ble_eq_true rfl) dX10_statement_256 (fun y256 V256 H locs p256 X => ?_)
                          have hs256 : mS V V256 := (hs247).tr p256.1
                          have hm256 := hs256.1
                          have ha256 : mA V256 := hs256.a hat
                          have l256 := p256.1.2.2.2.1
                          refine sZeq (tgt := 275) hx hb (rfl : Int32.toInt y256 = _) dX10_statement_259 (by decide) (fun c259 => ?_) (fun c259 => ?_)
                          · skip
                            refine lv_iconst (v := (-1)) hx hb dX10_statement_275 (by decide) ?_
                            exact srI G X (rfl) dX10_statement_276 (by 
                                first
                                | exact ⟨hs265, fun _ => by omega, fun _ => qf⟩
                                | exact ⟨hs265, fun h => absurd h (by decide), fun h => absurd h (by decide)⟩ | exact ⟨hs256, fun h => absurd h (by decide), fun h => absurd h (by decide)⟩ | exact ⟨hs247, fun h => absurd h (by decide), fun h => absurd h (by decide)⟩ | exact ⟨hs238, fun h => absurd h (by decide), fun h => absurd h (by decide)⟩ | exact ⟨hs229, fun h => absurd h (by decide), fun h => absurd h (by decide)⟩ | exact ⟨hs220, fun h => absurd h (by decide), fun h => absurd h (by decide)⟩)
                          · skip
                            refine lv_aload_n hx hb dX10_statement_262 rfl (lv_at hl 1 rfl) ?_
                            refine lv_bipush (v := 59) hx hb dX10_statement_263 (by decide) ?_
                            refine scI (ci := 9) (As := [.int 59]) (rest := []) G X (k_m_is ha V256 59 (by assumption) (by assumption) (by decide)) iy_X10_is ml_X10_86 rfl rfl rfl rfl hl.1 (by decide) (by decide) (Nat.le_of_ble_eq_true rfl) dX10_statement_265 (fun y265 V265 H locs p265 X => ?_)
                            have hs265 : mS V V265 := (hs256).tr p265.1
                            have hm265 := hs265.1
                            have ha265 : mA V265 := hs265.a hat
                            have l265 := p265.1.2.2.2.1
                            refine sZeq (tgt := 275) hx hb (rfl : Int32.toInt y265 = _) dX10_statement_268 (by decide) (fun c268 => ?_) (fun c268 => ?_)
                            · skip
                              refine lv_iconst (v := (-1)) hx hb dX10_statement_275 (by decide) ?_
                              exact srI G X (rfl) dX10_statement_276 (by 
                                  first
                                  | exact ⟨hs265, fun _ => by omega, fun _ => qf⟩
                                  | exact ⟨hs265, fun h => absurd h (by decide), fun h => absurd h (by decide)⟩ | exact ⟨hs256, fun h => absurd h (by decide), fun h => absurd h (by decide)⟩ | exact ⟨hs247, fun h => absurd h (by decide), fun h => absurd h (by decide)⟩ | exact ⟨hs238, fun h => absurd h (by decide), fun h => absurd h (by decide)⟩ | exact ⟨hs229, fun h => absurd h (by decide), fun h => absurd h (by decide)⟩ | exact ⟨hs220, fun h => absurd h (by decide), fun h => absurd h (by decide)⟩)
                            · skip
                              have r1 : V265 16 1 = y := by rw [p265.2.1, p256.2.1 1 (by decide), p247.2.1, p238.2.1 1 (by decide), p229.2.1 1 (by decide), p220.2.1 1 (by decide), qE1]
                              have r3 : V265 16 3 = V229 16 3 := by rw [p265.2.1, p256.2.1 3 (by decide), p247.2.1, p238.2.1 3 (by decide)]
                              have r9 : (V229 16 3).toInt ≤ 9 := p229.2.2.1 (by have := p229.2.2.2; omega) (by decide)
                              have qf : (V265 16 1).toInt < 7 ∧ (V265 16 3).toInt ≤ 9 := ⟨by rw [r1]; exact hy.1, by rw [r3]; exact r9⟩
                              refine lv_iconst (v := 2) hx hb dX10_statement_271 (by decide) ?_
                              refine lv_goto (tgt := 276) hx hb dX10_statement_272 (by decide) ?_
                              exact srI G X (rfl) dX10_statement_276 (by 
                                  first
                                  | exact ⟨hs265, fun _ => by omega, fun _ => qf⟩
                                  | exact ⟨hs265, fun h => absurd h (by decide), fun h => absurd h (by decide)⟩ | exact ⟨hs256, fun h => absurd h (by decide), fun h => absurd h (by decide)⟩ | exact ⟨hs247, fun h => absurd h (by decide), fun h => absurd h (by decide)⟩ | exact ⟨hs238, fun h => absurd h (by decide), fun h => absurd h (by decide)⟩ | exact ⟨hs229, fun h => absurd h (by decide), fun h => absurd h (by decide)⟩ | exact ⟨hs220, fun h => absurd h (by decide), fun h => absurd h (by decide)⟩)
                · skip
                  refine lv_iconst (v := (-1)) hx hb dX10_statement_198 (by decide) ?_
                  exact srI G X (rfl) dX10_statement_199 (by first | exact ⟨hs165, fun h => absurd h (by decide), fun h => absurd h (by decide)⟩)
            refine sZge (tgt := 184) hx hb (rfl : Int32.toInt y174 = _) dX10_statement_177 (by decide) (fun c177 => ?_) (fun c177 => ?_)
            · skip
              have hlt : (V165 0 22).toInt < (V165 0 1).toInt := by
                  rcases p174 with h | h
                  · exact h.1
                  · exfalso; rw [h.2] at c177; exact absurd c177 (by decide)
              refine skLdc G hE.2.2.2.2.2.2.2.2.2 dX10_statement_184 ?_
              refine lv_aload_n hx hb dX10_statement_186 rfl (lv_at hl 0 rfl) ?_
              refine scI (ci := 9) (As := []) (rest := [.ref (kk 5)]) G X (k_m_sign ha V165 (by assumption) (by assumption)) iy_X10_sign ml_X10_78 rfl rfl rfl rfl hl.1 (by decide) (by decide) (Nat.le_of_ble_eq_true rfl) dX10_statement_187 (fun y187 V187 H locs p187 X => ?_)
              obtain ⟨p187, z187⟩ := p187
              subst V187
              refine skI (b := (kk 5)) (As := [.int y187]) (rest := []) G X hE (k_kIndexOf (kk := kk) (kv := kv) ha V165 5 (by decide : (5 : Nat) < 6) y187) iy_J0_indexOf_0f7a4 ml_X10_95 (skRec X hE (by decide : (5 : Nat) < 6)) rfl rfl hl.1 (by decide) (by decide) (Nat.le_of_ble_eq_true rfl) dX10_statement_190 (fun y190 V190 H locs p190 X => ?_)
              obtain ⟨p190, z190⟩ := p190
              subst V190
              exact L193 y190 _ _ _ (by first | exact ⟨by decide, fun h => absurd h (by decide)⟩ | exact ⟨p190.2, fun _ => hlt⟩) X (lv_sub hl [0] rfl)
            · skip
              refine lv_iconst (v := (-1)) hx hb dX10_statement_180 (by decide) ?_
              refine lv_goto (tgt := 193) hx hb dX10_statement_181 (by decide) ?_
              exact L193 (-1) _ _ _ (by first | exact ⟨by decide, fun h => absurd h (by decide)⟩ | exact ⟨p190.2, fun _ => hlt⟩) X (lv_sub hl [0] rfl)
          · skip
            refine lv_iconst (v := (-1)) hx hb dX10_statement_171 (by decide) ?_
            exact srI G X (rfl) dX10_statement_172 (by first | exact ⟨hs165, fun h => absurd h (by decide), fun h => absurd h (by decide)⟩ | exact ⟨hs156, fun h => absurd h (by decide), fun h => absurd h (by decide)⟩)
      · skip
        refine lv_aload_n hx hb dX10_statement_93 rfl (lv_at hl 0 rfl) ?_
        refine lv_iconst (v := 0) hx hb dX10_statement_94 (by decide) ?_
        refine lv_iconst (v := 2) hx hb dX10_statement_95 (by decide) ?_
        refine scI (ci := 9) (As := [.int 0, .int 2]) (rest := []) G X (k_m_number2 ha V87 0 2 (by assumption) (by assumption) (by decide) (by decide) (by decide)) iy_X10_number ml_X10_90 rfl rfl rfl rfl hl.1 (by decide) (by decide) (Nat.le_of_ble_eq_true rfl) dX10_statement_96 (fun y96 V96 H locs p96 X => ?_)
        have hs96 : mS V V96 := (hs87).tr p96.1
        have hm96 := hs96.1
        have ha96 : mA V96 := hs96.a hat
        have l96 := p96.1.2.2.2.1
        refine sZeq (tgt := 151) hx hb (rfl : Int32.toInt y96 = _) dX10_statement_99 (by decide) (fun c99 => ?_) (fun c99 => ?_)
        · skip
          refine lv_iconst (v := (-1)) hx hb dX10_statement_151 (by decide) ?_
          exact srI G X (rfl) dX10_statement_152 (by first | exact ⟨hs141, fun _ => by omega, fun h => absurd h (by decide)⟩ | exact ⟨hs141, fun h => absurd h (by decide), fun h => absurd h (by decide)⟩ | exact ⟨hs132, fun h => absurd h (by decide), fun h => absurd h (by decide)⟩ | exact ⟨hs123, fun h => absurd h (by decide), fun h => absurd h (by decide)⟩ | exact ⟨hs114, fun h => absurd h (by decide), fun h => absurd h (by decide)⟩ | exact ⟨hs105, fun h => absurd h (by decide), fun h => absurd h (by decide)⟩ | exact ⟨hs96, fun h => absurd h (by decide), fun h => absurd h (by decide)⟩)
        · skip
          refine lv_aload_n hx hb dX10_statement_102 rfl (lv_at hl 0 rfl) ?_
          refine lv_bipush (v := 44) hx hb dX10_statement_103 (by decide) ?_
          refine scI (ci := 9) (As := [.int 44]) (rest := []) G X (k_m_is ha V96 44 (by assumption) (by assumption) (by decide)) iy_X10_is ml_X10_86 rfl rfl rfl rfl hl.1 (by decide) (by decide) (Nat.le_of_ble_eq_true rfl) dX10_statement_105 (fun y105 V105 H locs p105 X => ?_)
          have hs105 : mS V V105 := (hs96).tr p105.1
          have hm105 := hs105.1
          have ha105 : mA V105 := hs105.a hat
          have l105 := p105.1.2.2.2.1
          refine sZeq (tgt := 151) hx hb (rfl : Int32.toInt y105 = _) dX10_statement_108 (by decide) (fun c108 => ?_) (fun c108 => ?_)
          · skip
            refine lv_iconst (v := (-1)) hx hb dX10_statement_151 (by decide) ?_
            exact srI G X (rfl) dX10_statement_152 (by first | exact ⟨hs141, fun _ => by omega, fun h => absurd h (by decide)⟩ | exact ⟨hs141, fun h => absurd h (by decide), fun h => absurd h (by decide)⟩ | exact ⟨hs132, fun h => absurd h (by decide), fun h => absurd h (by decide)⟩ | exact ⟨hs123, fun h => absurd h (by decide), fun h => absurd h (by decide)⟩ | exact ⟨hs114, fun h => absurd h (by decide), fun h => absurd h (by decide)⟩ | exact ⟨hs105, fun h => absurd h (by decide), fun h => absurd h (by decide)⟩ | exact ⟨hs96, fun h => absurd h (by decide), fun h => absurd h (by decide)⟩)
          · skip
            refine lv_aload_n hx hb dX10_statement_111 rfl (lv_at hl 0 rfl) ?_
            refine lv_iconst (v := 1) hx hb dX10_statement_112 (by decide) ?_
            refine lv_iconst (v := 2) hx hb dX10_statement_113 (by decide) ?_
            refine scI (ci := 9) (As := [.int 1, .int 2]) (rest := []) G X (k_m_number2 ha V105 1 2 (by assumption) (by assumption) (by decide) (by decide) (by decide)) iy_X10_number ml_X10_90 rfl rfl rfl rfl hl.1 (by decide) (by decide) (Nat.le_of_ble_eq_true rfl) dX10_statement_114 (fun y114 V114 H locs p114 X => ?_)
            have hs114 : mS V V114 := (hs105).tr p114.1
            have hm114 := hs114.1
            have ha114 : mA V114 := hs114.a hat
            have l114 := p114.1.2.2.2.1
            refine sZeq (tgt := 151) hx hb (rfl : Int32.toInt y114 = _) dX10_statement_117 (by decide) (fun c117 => ?_) (fun c117 => ?_)
            · skip
              refine lv_iconst (v := (-1)) hx hb dX10_statement_151 (by decide) ?_
              exact srI G X (rfl) dX10_statement_152 (by first | exact ⟨hs141, fun _ => by omega, fun h => absurd h (by decide)⟩ | exact ⟨hs141, fun h => absurd h (by decide), fun h => absurd h (by decide)⟩ | exact ⟨hs132, fun h => absurd h (by decide), fun h => absurd h (by decide)⟩ | exact ⟨hs123, fun h => absurd h (by decide), fun h => absurd h (by decide)⟩ | exact ⟨hs114, fun h => absurd h (by decide), fun h => absurd h (by decide)⟩ | exact ⟨hs105, fun h => absurd h (by decide), fun h => absurd h (by decide)⟩ | exact ⟨hs96, fun h => absurd h (by decide), fun h => absurd h (by decide)⟩)
            · skip
              refine lv_aload_n hx hb dX10_statement_120 rfl (lv_at hl 0 rfl) ?_
              refine lv_bipush (v := 44) hx hb dX10_statement_121 (by decide) ?_
              refine scI (ci := 9) (As := [.int 44]) (rest := []) G X (k_m_is ha V114 44 (by assumption) (by assumption) (by decide)) iy_X10_is ml_X10_86 rfl rfl rfl rfl hl.1 (by decide) (by decide) (Nat.le_of_ble_eq_true rfl) dX10_statement_123 (fun y123 V123 H locs p123 X => ?_)
              have hs123 : mS V V123 := (hs114).tr p123.1
              have hm123 := hs123.1
              have ha123 : mA V123 := hs123.a hat
              have l123 := p123.1.2.2.2.1
              refine sZeq (tgt := 151) hx hb (rfl : Int32.toInt y123 = _) dX10_statement_126 (by decide) (fun c126 => ?_) (fun c126 => ?_)
              · skip
                refine lv_iconst (v := (-1)) hx hb dX10_statement_151 (by decide) ?_
                exact srI G X (rfl) dX10_statement_152 (by first | exact ⟨hs141, fun _ => by omega, fun h => absurd h (by decide)⟩ | exact ⟨hs141, fun h => absurd h (by decide), fun h => absurd h (by decide)⟩ | exact ⟨hs132, fun h => absurd h (by decide), fun h => absurd h (by decide)⟩ | exact ⟨hs123, fun h => absurd h (by decide), fun h => absurd h (by decide)⟩ | exact ⟨hs114, fun h => absurd h (by decide), fun h => absurd h (by decide)⟩ | exact ⟨hs105, fun h => absurd h (by decide), fun h => absurd h (by decide)⟩ | exact ⟨hs96, fun h => absurd h (by decide), fun h => absurd h (by decide)⟩)
              · skip
                refine lv_aload_n hx hb dX10_statement_129 rfl (lv_at hl 0 rfl) ?_
                refine lv_iconst (v := 2) hx hb dX10_statement_130 (by decide) ?_
                refine lv_iconst (v := 1) hx hb dX10_statement_131 (by decide) ?_
                refine scI (ci := 9) (As := [.int 2, .int 1]) (rest := []) G X (k_m_number2 ha V123 2 1 (by assumption) (by assumption) (by decide) (by decide) (by decide)) iy_X10_number ml_X10_90 rfl rfl rfl rfl hl.1 (by decide) (by decide) (Nat.le_of_ble_eq_true rfl) dX10_statement_132 (fun y132 V132 H locs p132 X => ?_)
                have hs132 : mS V V132 := (hs123).tr p132.1
                have hm132 := hs132.1
                have ha132 : mA V132 := hs132.a hat
                have l132 := p132.1.2.2.2.1
                refine sZeq (tgt := 151) hx hb (rfl : Int32.toInt y132 = _) dX10_statement_135 (by decide) (fun c135 => ?_) (fun c135 => ?_)
                · skip
                  refine lv_iconst (v := (-1)) hx hb dX10_statement_151 (by decide) ?_
                  exact srI G X (rfl) dX10_statement_152 (by first | exact ⟨hs141, fun _ => by omega, fun h => absurd h (by decide)⟩ | exact ⟨hs141, fun h => absurd h (by decide), fun h => absurd h (by decide)⟩ | exact ⟨hs132, fun h => absurd h (by decide), fun h => absurd h (by decide)⟩ | exact ⟨hs123, fun h => absurd h (by decide), fun h => absurd h (by decide)⟩ | exact ⟨hs114, fun h => absurd h (by decide), fun h => absurd h (by decide)⟩ | exact ⟨hs105, fun h => absurd h (by decide), fun h => absurd h (by decide)⟩ | exact ⟨hs96, fun h => absurd h (by decide), fun h => absurd h (by decide)⟩)
                · skip
                  refine lv_aload_n hx hb dX10_statement_138 rfl (lv_at hl 0 rfl) ?_
                  refine lv_bipush (v := 59) hx hb dX10_statement_139 (by decide) ?_
                  refine scI (ci := 9) (As := [.int 59]) (rest := []) G X (k_m_is ha V132 59 (by assumption) (by assumption) (by decide)) iy_X10_is ml_X10_86 rfl rfl rfl rfl hl.1 (by decide) (by decide) (Nat.le_of_ble_eq_true rfl) dX10_statement_141 (fun y141 V141 H locs p141 X => ?_)
                  have hs141 : mS V V141 := (hs132).tr p141.1
                  have hm141 := hs141.1
                  have ha141 : mA V141 := hs141.a hat
                  have l141 := p141.1.2.2.2.1
                  refine sZeq (tgt := 151) hx hb (rfl : Int32.toInt y141 = _) dX10_statement_144 (by decide) (fun c144 => ?_) (fun c144 => ?_)
                  · skip
                    refine lv_iconst (v := (-1)) hx hb dX10_statement_151 (by decide) ?_
                    exact srI G X (rfl) dX10_statement_152 (by first | exact ⟨hs141, fun _ => by omega, fun h => absurd h (by decide)⟩ | exact ⟨hs141, fun h => absurd h (by decide), fun h => absurd h (by decide)⟩ | exact ⟨hs132, fun h => absurd h (by decide), fun h => absurd h (by decide)⟩ | exact ⟨hs123, fun h => absurd h (by decide), fun h => absurd h (by decide)⟩ | exact ⟨hs114, fun h => absurd h (by decide), fun h => absurd h (by decide)⟩ | exact ⟨hs105, fun h => absurd h (by decide), fun h => absurd h (by decide)⟩ | exact ⟨hs96, fun h => absurd h (by decide), fun h => absurd h (by decide)⟩)
                  · skip
                    refine lv_iconst (v := 3) hx hb dX10_statement_147 (by decide) ?_
                    refine lv_goto (tgt := 152) hx hb dX10_statement_148 (by decide) ?_
                    exact srI G X (rfl) dX10_statement_152 (by first | exact ⟨hs141, fun _ => by omega, fun h => absurd h (by decide)⟩ | exact ⟨hs141, fun h => absurd h (by decide), fun h => absurd h (by decide)⟩ | exact ⟨hs132, fun h => absurd h (by decide), fun h => absurd h (by decide)⟩ | exact ⟨hs123, fun h => absurd h (by decide), fun h => absurd h (by decide)⟩ | exact ⟨hs114, fun h => absurd h (by decide), fun h => absurd h (by decide)⟩ | exact ⟨hs105, fun h => absurd h (by decide), fun h => absurd h (by decide)⟩ | exact ⟨hs96, fun h => absurd h (by decide), fun h => absurd h (by decide)⟩)
    · skip
      refine lv_aload_n hx hb dX10_statement_42 rfl (lv_at hl 0 rfl) ?_
      refine lv_iconst (v := 0) hx hb dX10_statement_43 (by decide) ?_
      refine lv_iconst (v := 1) hx hb dX10_statement_44 (by decide) ?_
      refine scI (ci := 9) (As := [.int 0, .int 1]) (rest := []) G X (k_m_number2 ha V36 0 1 (by assumption) (by assumption) (by decide) (by decide) (by decide)) iy_X10_number ml_X10_90 rfl rfl rfl rfl hl.1 (by decide) (by decide) (Nat.le_of_ble_eq_true rfl) dX10_statement_45 (fun y45 V45 H locs p45 X => ?_)
      have hs45 : mS V V45 := (hs36).tr p45.1
      have hm45 := hs45.1
      have ha45 : mA V45 := hs45.a hat
      have l45 := p45.1.2.2.2.1
      refine sZeq (tgt := 82) hx hb (rfl : Int32.toInt y45 = _) dX10_statement_48 (by decide) (fun c48 => ?_) (fun c48 => ?_)
      · skip
        refine lv_iconst (v := (-1)) hx hb dX10_statement_82 (by decide) ?_
        exact srI G X (rfl) dX10_statement_83 (by first | exact ⟨hs72, fun _ => by omega, fun h => absurd h (by decide)⟩ | exact ⟨hs72, fun h => absurd h (by decide), fun h => absurd h (by decide)⟩ | exact ⟨hs63, fun h => absurd h (by decide), fun h => absurd h (by decide)⟩ | exact ⟨hs54, fun h => absurd h (by decide), fun h => absurd h (by decide)⟩ | exact ⟨hs45, fun h => absurd h (by decide), fun h => absurd h (by decide)⟩)
      · skip
        refine lv_aload_n hx hb dX10_statement_51 rfl (lv_at hl 0 rfl) ?_
        refine lv_iconst (v := 1) hx hb dX10_statement_52 (by decide) ?_
        refine lv_iconst (v := 1) hx hb dX10_statement_53 (by decide) ?_
        refine scI (ci := 9) (As := [.int 1, .int 1]) (rest := []) G X (k_m_number2 ha V45 1 1 (by assumption) (by assumption) (by decide) (by decide) (by decide)) iy_X10_number ml_X10_90 rfl rfl rfl rfl hl.1 (by decide) (by decide) (Nat.le_of_ble_eq_true rfl) dX10_statement_54 (fun y54 V54 H locs p54 X => ?_)
        have hs54 : mS V V54 := (hs45).tr p54.1
        have hm54 := hs54.1
        have ha54 : mA V54 := hs54.a hat
        have l54 := p54.1.2.2.2.1
        refine sZeq (tgt := 82) hx hb (rfl : Int32.toInt y54 = _) dX10_statement_57 (by decide) (fun c57 => ?_) (fun c57 => ?_)
        · skip
          refine lv_iconst (v := (-1)) hx hb dX10_statement_82 (by decide) ?_
          exact srI G X (rfl) dX10_statement_83 (by first | exact ⟨hs72, fun _ => by omega, fun h => absurd h (by decide)⟩ | exact ⟨hs72, fun h => absurd h (by decide), fun h => absurd h (by decide)⟩ | exact ⟨hs63, fun h => absurd h (by decide), fun h => absurd h (by decide)⟩ | exact ⟨hs54, fun h => absurd h (by decide), fun h => absurd h (by decide)⟩ | exact ⟨hs45, fun h => absurd h (by decide), fun h => absurd h (by decide)⟩)
        · skip
          refine lv_aload_n hx hb dX10_statement_60 rfl (lv_at hl 0 rfl) ?_
          refine lv_iconst (v := 2) hx hb dX10_statement_61 (by decide) ?_
          refine lv_iconst (v := 1) hx hb dX10_statement_62 (by decide) ?_
          refine scI (ci := 9) (As := [.int 2, .int 1]) (rest := []) G X (k_m_number2 ha V54 2 1 (by assumption) (by assumption) (by decide) (by decide) (by decide)) iy_X10_number ml_X10_90 rfl rfl rfl rfl hl.1 (by decide) (by decide) (Nat.le_of_ble_eq_true rfl) dX10_statement_63 (fun y63 V63 H locs p63 X => ?_)
          have hs63 : mS V V63 := (hs54).tr p63.1
          have hm63 := hs63.1
          have ha63 : mA V63 := hs63.a hat
          have l63 := p63.1.2.2.2.1
          refine sZeq (tgt := 82) hx hb (rfl : Int32.toInt y63 = _) dX10_statement_66 (by decide) (fun c66 => ?_) (fun c66 => ?_)
          · skip
            refine lv_iconst (v := (-1)) hx hb dX10_statement_82 (by decide) ?_
            exact srI G X (rfl) dX10_statement_83 (by first | exact ⟨hs72, fun _ => by omega, fun h => absurd h (by decide)⟩ | exact ⟨hs72, fun h => absurd h (by decide), fun h => absurd h (by decide)⟩ | exact ⟨hs63, fun h => absurd h (by decide), fun h => absurd h (by decide)⟩ | exact ⟨hs54, fun h => absurd h (by decide), fun h => absurd h (by decide)⟩ | exact ⟨hs45, fun h => absurd h (by decide), fun h => absurd h (by decide)⟩)
          · skip
            refine lv_aload_n hx hb dX10_statement_69 rfl (lv_at hl 0 rfl) ?_
            refine lv_bipush (v := 59) hx hb dX10_statement_70 (by decide) ?_
            refine scI (ci := 9) (As := [.int 59]) (rest := []) G X (k_m_is ha V63 59 (by assumption) (by assumption) (by decide)) iy_X10_is ml_X10_86 rfl rfl rfl rfl hl.1 (by decide) (by decide) (Nat.le_of_ble_eq_true rfl) dX10_statement_72 (fun y72 V72 H locs p72 X => ?_)
            have hs72 : mS V V72 := (hs63).tr p72.1
            have hm72 := hs72.1
            have ha72 : mA V72 := hs72.a hat
            have l72 := p72.1.2.2.2.1
            refine sZeq (tgt := 82) hx hb (rfl : Int32.toInt y72 = _) dX10_statement_75 (by decide) (fun c75 => ?_) (fun c75 => ?_)
            · skip
              refine lv_iconst (v := (-1)) hx hb dX10_statement_82 (by decide) ?_
              exact srI G X (rfl) dX10_statement_83 (by first | exact ⟨hs72, fun _ => by omega, fun h => absurd h (by decide)⟩ | exact ⟨hs72, fun h => absurd h (by decide), fun h => absurd h (by decide)⟩ | exact ⟨hs63, fun h => absurd h (by decide), fun h => absurd h (by decide)⟩ | exact ⟨hs54, fun h => absurd h (by decide), fun h => absurd h (by decide)⟩ | exact ⟨hs45, fun h => absurd h (by decide), fun h => absurd h (by decide)⟩)
            · skip
              refine lv_iconst (v := 1) hx hb dX10_statement_78 (by decide) ?_
              refine lv_goto (tgt := 83) hx hb dX10_statement_79 (by decide) ?_
              exact srI G X (rfl) dX10_statement_83 (by first | exact ⟨hs72, fun _ => by omega, fun h => absurd h (by decide)⟩ | exact ⟨hs72, fun h => absurd h (by decide), fun h => absurd h (by decide)⟩ | exact ⟨hs63, fun h => absurd h (by decide), fun h => absurd h (by decide)⟩ | exact ⟨hs54, fun h => absurd h (by decide), fun h => absurd h (by decide)⟩ | exact ⟨hs45, fun h => absurd h (by decide), fun h => absurd h (by decide)⟩)
  · skip
    refine lv_aload_n hx hb dX10_statement_9 rfl (lv_at hl 0 rfl) ?_
    refine lv_iconst (v := 0) hx hb dX10_statement_10 (by decide) ?_
    refine lv_iconst (v := 1) hx hb dX10_statement_11 (by decide) ?_
    refine scI (ci := 9) (As := [.int 0, .int 1]) (rest := []) G X (k_m_number2 ha V3 0 1 (by assumption) (by assumption) (by decide) (by decide) (by decide)) iy_X10_number ml_X10_90 rfl rfl rfl rfl hl.1 (by decide) (by decide) (Nat.le_of_ble_eq_true rfl) dX10_statement_12 (fun y12 V12 H locs p12 X => ?_)
    have hs12 : mS V V12 := (hs3).tr p12.1
    have hm12 := hs12.1
    have ha12 : mA V12 := hs12.a hat
    have l12 := p12.1.2.2.2.1
    refine sZeq (tgt := 31) hx hb (rfl : Int32.toInt y12 = _) dX10_statement_15 (by decide) (fun c15 => ?_) (fun c15 => ?_)
    · skip
      refine lv_iconst (v := (-1)) hx hb dX10_statement_31 (by decide) ?_
      exact srI G X (rfl) dX10_statement_32 (by first | exact ⟨hs21, fun _ => by omega, fun h => absurd h (by decide)⟩ | exact ⟨hs21, fun h => absurd h (by decide), fun h => absurd h (by decide)⟩ | exact ⟨hs12, fun h => absurd h (by decide), fun h => absurd h (by decide)⟩)
    · skip
      refine lv_aload_n hx hb dX10_statement_18 rfl (lv_at hl 0 rfl) ?_
      refine lv_bipush (v := 59) hx hb dX10_statement_19 (by decide) ?_
      refine scI (ci := 9) (As := [.int 59]) (rest := []) G X (k_m_is ha V12 59 (by assumption) (by assumption) (by decide)) iy_X10_is ml_X10_86 rfl rfl rfl rfl hl.1 (by decide) (by decide) (Nat.le_of_ble_eq_true rfl) dX10_statement_21 (fun y21 V21 H locs p21 X => ?_)
      have hs21 : mS V V21 := (hs12).tr p21.1
      have hm21 := hs21.1
      have ha21 : mA V21 := hs21.a hat
      have l21 := p21.1.2.2.2.1
      refine sZeq (tgt := 31) hx hb (rfl : Int32.toInt y21 = _) dX10_statement_24 (by decide) (fun c24 => ?_) (fun c24 => ?_)
      · skip
        refine lv_iconst (v := (-1)) hx hb dX10_statement_31 (by decide) ?_
        exact srI G X (rfl) dX10_statement_32 (by first | exact ⟨hs21, fun _ => by omega, fun h => absurd h (by decide)⟩ | exact ⟨hs21, fun h => absurd h (by decide), fun h => absurd h (by decide)⟩ | exact ⟨hs12, fun h => absurd h (by decide), fun h => absurd h (by decide)⟩)
      · skip
        refine lv_iconst (v := 0) hx hb dX10_statement_27 (by decide) ?_
        refine lv_goto (tgt := 32) hx hb dX10_statement_28 (by decide) ?_
        exact srI G X (rfl) dX10_statement_32 (by first | exact ⟨hs21, fun _ => by omega, fun h => absurd h (by decide)⟩ | exact ⟨hs21, fun h => absurd h (by decide), fun h => absurd h (by decide)⟩ | exact ⟨hs12, fun h => absurd h (by decide), fun h => absurd h (by decide)⟩)
def q_m_house (V : sV) : Int32 → sV → Prop := fun x V1 => mK V V1 ∧ (mFr V → x = -1000)
set_option maxRecDepth 100000 in
set_option maxHeartbeats 4000000 in
theorem k_m_house {l : Launch} {D : va_G} {cI : ClassId} {a : Nat → Nat} {kk kv : Nat → Nat} (ha : sInj SM a) (V : sV) (hm : mI V) : sMK l D cI SM a V kk kv yX10_house cX10_house 8 .int 5 [.ref (a 0)] (q_m_house V) := by
  refine sMKof ha (by decide +kernel) (Nat.le_of_ble_eq_true rfl) ?_
  intro p e s m below meth c ls G X hE hl
  obtain ⟨hx, hb, hml, hown, hts, hlocks, hr, hK⟩ := id G
  have hl : lv_has ls 8 [(0, .ref (a 0))] := hl
  obtain ⟨mf0, mf1, mf3, mf11, mf14, mf15⟩ := hm.1
  have z1 : (1 : Int32).toInt = 1 := by decide
  have z0 : (0 : Int32).toInt = 0 := by decide
  have hm0 : mI (sUp V 0 (upd (V 0) 22 0)) := hm.agF (sAg.rf.up (by decide) : sAg [0] V _) (by decide) (mF_22 hm.1)
  have hat0 : mA (sUp V 0 (upd (V 0) 22 0)) := ⟨by rw [sUp_s, upd_s]; decide, mf1.1⟩
  refine lv_aload_n hx hb dX10_house_0 rfl (lv_at hl 0 rfl) ?_
  refine sgI G X 0 1 rfl rfl fl_X10_72 dX10_house_1 ?_
  refine lv_istore_n (lv' := [(1, .int (V 0 1)), (0, .ref (a 0))]) hx hb dX10_house_4 rfl hl (by decide) rfl (fun ls hl => ?_)
  refine lv_aload_n hx hb dX10_house_5 rfl (lv_at hl 1 rfl) ?_
  refine lv_iconst (v := 0) hx hb dX10_house_6 (by decide) ?_
  refine spI G X 0 22 rfl rfl fp_X10_75 dX10_house_7 (fun H locs X => ?_)
  refine lv_iconst (v := 1) hx hb dX10_house_10 (by decide) ?_
  refine lv_istore_n (lv' := [(2, .int 1), (1, .int (V 0 1)), (0, .ref (a 0))]) hx hb dX10_house_11 rfl hl (by decide) rfl (fun ls hl => ?_)
  have L12 : ∀ (fu12 : Nat) (f : Int32) (Y : sV) (H : Heap) (locs : List Loc) (ls : Array Slot), (mS (sUp V 0 (upd (V 0) 22 0)) Y) → (f.toInt = 0 ∨ f.toInt = 1) → ((2 * ((V 0 1).toInt - (Y 0 22).toInt) + f.toInt).toNat) < fu12 → sWS D cI SM a Y s.heap H locs → lv_has ls 8 [(2, .int f), (1, .int (V 0 1)), (0, .ref (a 0))] → W p l e (rmD 5) s m ([.ref (a 0)] : List Value).toArray below meth c H locs 0 0 (MQ below (va_Qi (q_m_house V) (fun V1 t => va_P D vwCl (sWd cI SM a V1) t.heap) (sA SM a s.heap.size)) ([.ref (a 0)] : List Value).toArray s 0 0 (sA SM a s.heap.size)) (F0 m 12 ls []) := by
    intro fu12
    induction fu12 with
    | zero => intro f Y H locs ls hS hf01 hm12; exact absurd hm12 (Nat.not_lt_zero _)
    | succ fu12 ih12 =>
      intro f Y H locs ls hS hf01 hm12 X hl
      have hmY := hS.1
      have haY : mA Y := hS.a hat0
      have hY1 : (Y 0 1).toInt = (V 0 1).toInt := by rw [hS.2.2.1 1 (by decide)]; rfl
      have aY1 := haY.1
      have aY2 := haY.2
      have hW : mW V Y := ⟨hS.2.1 10 (by decide), hS.2.1 17 (by decide), hS.2.2.1 14 (by decide), hS.2.2.1 24 (by decide)⟩
      have L47 : ∀  (H : Heap) (locs : List Loc) (ls : Array Slot), (f.toInt ≠ 0 → (Y 0 22).toInt ≠ 0) → sWS D cI SM a Y s.heap H locs → lv_has ls 8 [(2, .int f), (1, .int (V 0 1)), (0, .ref (a 0))] → W p l e (rmD 5) s m ([.ref (a 0)] : List Value).toArray below meth c H locs 0 0 (MQ below (va_Qi (q_m_house V) (fun V1 t => va_P D vwCl (sWd cI SM a V1) t.heap) (sA SM a s.heap.size)) ([.ref (a 0)] : List Value).toArray s 0 0 (sA SM a s.heap.size)) (F0 m 47 ls []) := by
          intro H locs ls hz X hl
          refine lv_iload_n hx hb dX10_house_47 rfl (lv_at hl 0 rfl) ?_
          refine sZne (tgt := 65) hx hb (rfl : Int32.toInt f = _) dX10_house_48 (by decide) (fun c48 => ?_) (fun c48 => ?_)
          · skip
            have hF : mFr V → False := fun hf => by have hg := hf.t; have := hz c48; omega
            refine lv_aload_n hx hb dX10_house_65 rfl (lv_at hl 2 rfl) ?_
            refine sgI G X 0 0 rfl rfl fl_X10_61 dX10_house_66 ?_
            refine lv_istore_n (lv' := [(3, .int (Y 0 0)), (2, .int f), (1, .int (V 0 1)), (0, .ref (a 0))]) hx hb dX10_house_69 rfl hl (by decide) rfl (fun ls hl => ?_)
            refine lv_aload_n hx hb dX10_house_70 rfl (lv_at hl 3 rfl) ?_
            refine sgI G X 0 3 rfl rfl fl_X10_65 dX10_house_71 ?_
            refine lv_istore (lv' := [(4, .int (Y 0 3)), (3, .int (Y 0 0)), (2, .int f), (1, .int (V 0 1)), (0, .ref (a 0))]) hx hb dX10_house_74 hl (by decide) rfl (fun ls hl => ?_)
            refine lv_aload_n hx hb dX10_house_76 rfl (lv_at hl 4 rfl) ?_
            refine sgI G X 0 11 rfl rfl fl_X10_113 dX10_house_77 ?_
            refine lv_istore (lv' := [(5, .int (Y 0 11)), (4, .int (Y 0 3)), (3, .int (Y 0 0)), (2, .int f), (1, .int (V 0 1)), (0, .ref (a 0))]) hx hb dX10_house_80 hl (by decide) rfl (fun ls hl => ?_)
            refine lv_aload_n hx hb dX10_house_82 rfl (lv_at hl 5 rfl) ?_
            refine lv_iconst (v := 0) hx hb dX10_house_83 (by decide) ?_
            refine spI G X 0 22 rfl rfl fp_X10_75 dX10_house_84 (fun H locs X => ?_)
            refine lv_iconst (v := 0) hx hb dX10_house_87 (by decide) ?_
            refine lv_istore (lv' := [(6, .int 0), (5, .int (Y 0 11)), (4, .int (Y 0 3)), (3, .int (Y 0 0)), (2, .int f), (1, .int (V 0 1)), (0, .ref (a 0))]) hx hb dX10_house_88 hl (by decide) rfl (fun ls hl => ?_)
            have L90 : ∀ (fu90 : Nat) (n : Int32) (Z : sV) (H : Heap) (locs : List Loc) (ls : Array Slot), (mI Z) → (mA Z) → ((Z 0 1).toInt = (V 0 1).toInt) → (mW V Z) → (((V 0 1).toInt - (Z 0 22).toInt + (4 - (Z 0 11).toInt)).toNat) < fu90 → sWS D cI SM a Z s.heap H locs → lv_has ls 8 [(6, .int n), (5, .int (Y 0 11)), (4, .int (Y 0 3)), (3, .int (Y 0 0)), (2, .int f), (1, .int (V 0 1)), (0, .ref (a 0))] → W p l e (rmD 5) s m ([.ref (a 0)] : List Value).toArray below meth c H locs 0 0 (MQ below (va_Qi (q_m_house V) (fun V1 t => va_P D vwCl (sWd cI SM a V1) t.heap) (sA SM a s.heap.size)) ([.ref (a 0)] : List Value).toArray s 0 0 (sA SM a s.heap.size)) (F0 m 90 ls []) := by
              intro fu90
              induction fu90 with
              | zero => intro n Z H locs ls hmZ haZ hZ1 hWZ hm90; exact absurd hm90 (Nat.not_lt_zero _)
              | succ fu90 ih90 =>
                intro n Z H locs ls hmZ haZ hZ1 hWZ hm90 X hl
                refine lv_aload_n hx hb dX10_house_90 rfl (lv_at hl 6 rfl) ?_
                refine sgI G X 0 22 rfl rfl fl_X10_75 dX10_house_91 ?_
                refine lv_iload_n hx hb dX10_house_94 rfl (lv_at hl 5 rfl) ?_
                refine sIge (tgt := 150) hx hb (rfl : Int32.toInt (Z 0 22) = _) (rfl : Int32.toInt (V 0 1) = _) dX10_house_95 (by decide) (fun c95 => ?_) (fun c95 => ?_)
                · skip
                  refine lv_aload_n hx hb dX10_house_150 rfl (lv_at hl 6 rfl) ?_
                  refine lv_iconst (v := 0) hx hb dX10_house_151 (by decide) ?_
                  refine spI G X 0 1 rfl rfl fp_X10_72 dX10_house_152 (fun H locs X => ?_)
                  refine lv_iload hx hb dX10_house_155 (lv_at hl 0 rfl) ?_
                  exact srI G X (rfl) dX10_house_157 (by exact ⟨⟨hmZ.agF (sAg.rf.up (by decide) : sAg [0] Z _) (by decide) (mF_1 hmZ.1 (by decide)), hWZ⟩, fun hf => absurd (hF hf) id⟩)
                · skip
                  refine lv_aload_n hx hb dX10_house_98 rfl (lv_at hl 6 rfl) ?_
                  refine sgI G X 0 22 rfl rfl fl_X10_75 dX10_house_99 ?_
                  refine lv_istore (lv' := [(7, .int (Z 0 22)), (6, .int n), (5, .int (Y 0 11)), (4, .int (Y 0 3)), (3, .int (Y 0 0)), (2, .int f), (1, .int (V 0 1)), (0, .ref (a 0))]) hx hb dX10_house_102 hl (by decide) rfl (fun ls hl => ?_)
                  refine lv_aload_n hx hb dX10_house_104 rfl (lv_at hl 7 rfl) ?_
                  refine lv_aload_n hx hb dX10_house_105 rfl (lv_at hl 7 rfl) ?_
                  refine skI (b := (a 0)) (As := []) (rest := [.ref (a 0)]) G X hE (k_m_statement (kk := kk) (kv := kv) ha Z (by assumption) (by assumption)) iy_X10_statement ml_X10_116 (swRec G X (ci := 9) rfl rfl) rfl rfl hl.1 (by decide) (by decide) (Nat.le_of_ble_eq_true rfl) dX10_house_106 (fun y106 V106 H locs p106 X => ?_)
                  have hm106 := p106.1.1
                  have h2c := p106.2.2
                  have a1 := p106.1.2.2.2.1
                  have a2 := p106.1.2.2.2.2
                  have a3 := p106.2.1
                  have r11 : (V106 0 11).toInt = (Z 0 11).toInt := by rw [p106.1.2.2.1 11 (by decide)]
                  refine scI (ci := 9) (As := [.int y106]) (rest := []) G X (k_m_comes ha V106 y106 (by assumption) (by assumption)) iy_X10_comes ml_X10_119 rfl rfl rfl rfl hl.1 (by decide) (by decide) (Nat.le_of_ble_eq_true rfl) dX10_house_109 (fun y109 V109 H locs p109 X => ?_)
                  have q22 : (V109 0 22).toInt = (V106 0 22).toInt := by rw [p109.2.2.1 22 (by decide) (by decide) (by decide)]
                  have r4 : 0 ≤ (V109 0 11).toInt ∧ (V109 0 11).toInt ≤ 4 := p109.1.1.2.2.2.1
                  have b1 := p109.2.2.2.1
                  have b2 := p109.2.2.2.2.1
                  have b3 := p109.2.2.2.2.2
                  have hW109 : mW V V109 := ⟨by rw [p109.2.1 10 (by decide), p106.1.2.1 10 (by decide)]; exact hWZ.1, by rw [p109.2.1 17 (by decide), p106.1.2.1 17 (by decide)]; exact hWZ.2.1, by rw [p109.2.2.1 14 (by decide) (by decide) (by decide), p106.1.2.2.1 14 (by decide)]; exact hWZ.2.2.1, by rw [p109.2.2.1 24 (by decide) (by decide) (by decide), p106.1.2.2.1 24 (by decide)]; exact hWZ.2.2.2⟩
                  refine sZne (tgt := 144) hx hb (rfl : Int32.toInt y109 = _) dX10_house_112 (by decide) (fun c112 => ?_) (fun c112 => ?_)
                  · skip
                    obtain ⟨x144, e144⟩ : ∃ y : Int32, y = n + (1) := ⟨_, rfl⟩
                    refine lv_iinc (v := x144) (lv' := [(6, .int x144), (7, .int (Z 0 22)), (5, .int (Y 0 11)), (4, .int (Y 0 3)), (3, .int (Y 0 0)), (2, .int f), (1, .int (V 0 1)), (0, .ref (a 0))]) hx hb dX10_house_144 hl (k := 1) rfl (by rw [e144]; rfl) (by decide) rfl (fun ls hl => ?_)
                    refine lv_goto (tgt := 90) hx hb dX10_house_147 (by decide) ?_
                    exact ih90 x144 V109 _ _ _ (p109.1) (⟨by rw [p109.2.2.1 22 (by decide) (by decide) (by decide)]; exact (p106.1.a haZ).1, by rw [p109.2.2.1 22 (by decide) (by decide) (by decide), p109.2.2.1 1 (by decide) (by decide) (by decide)]; exact (p106.1.a haZ).2⟩) (by rw [p109.2.2.1 1 (by decide) (by decide) (by decide), p106.1.2.2.1 1 (by decide)]; exact hZ1) (hW109) (by omega) X (lv_sub hl [0, 2, 3, 4, 5, 6, 7] rfl)
                  · skip
                    refine lv_aload_n hx hb dX10_house_115 rfl (lv_at hl 7 rfl) ?_
                    refine lv_iload_n hx hb dX10_house_116 rfl (lv_at hl 4 rfl) ?_
                    refine spI G X 0 0 rfl rfl fp_X10_61 dX10_house_117 (fun H locs X => ?_)
                    refine lv_aload_n hx hb dX10_house_120 rfl (lv_at hl 7 rfl) ?_
                    refine lv_iload hx hb dX10_house_121 (lv_at hl 3 rfl) ?_
                    refine spI G X 0 3 rfl rfl fp_X10_65 dX10_house_123 (fun H locs X => ?_)
                    refine lv_aload_n hx hb dX10_house_126 rfl (lv_at hl 7 rfl) ?_
                    refine lv_iload hx hb dX10_house_127 (lv_at hl 2 rfl) ?_
                    refine spI G X 0 11 rfl rfl fp_X10_113 dX10_house_129 (fun H locs X => ?_)
                    refine lv_aload_n hx hb dX10_house_132 rfl (lv_at hl 7 rfl) ?_
                    refine lv_iconst (v := 0) hx hb dX10_house_133 (by decide) ?_
                    refine spI G X 0 1 rfl rfl fp_X10_72 dX10_house_134 (fun H locs X => ?_)
                    refine lv_sipush (v := (-2000)) hx hb dX10_house_137 (by decide) ?_
                    refine lv_iload hx hb dX10_house_140 (lv_at hl 0 rfl) ?_
                    refine lv_isub hx hb dX10_house_142 ?_
                    refine lv_topi (fun x142 e142 => ?_)
                    exact srI G X (rfl) dX10_house_143 (by 
                        refine ⟨⟨p109.1.agF ((((sAg.rf.up (by decide)).up (by decide)).up (by decide)).up (by decide) : sAg [0] V109 _) (by decide) ?_, hW109⟩, fun hf => absurd (hF hf) id⟩
                        simp only [sUp_s]
                        exact mF_1 (mF_11 (mF_3 (mF_0 p109.1.1 hmY.1.1) hmY.1.2.2.1) hmY.1.2.2.2.1) (by decide))
            exact L90 _ 0 (sUp Y 0 (upd (Y 0) 22 0)) _ _ _ (hmY.agF (sAg.rf.up (by decide) : sAg [0] Y _) (by decide) (mF_22 hmY.1)) (⟨by rw [sUp_s, upd_s]; decide, by show 0 ≤ (Y 0 1).toInt; omega⟩) (hY1) (hW) (Nat.lt_succ_self _) X (lv_sub hl [0, 1, 2, 3, 4, 5, 6] rfl)
          · skip
            refine lv_aload_n hx hb dX10_house_51 rfl (lv_at hl 2 rfl) ?_
            refine lv_iconst (v := 0) hx hb dX10_house_52 (by decide) ?_
            refine spI G X 0 1 rfl rfl fp_X10_72 dX10_house_53 (fun H locs X => ?_)
            refine lv_sipush (v := (-1000)) hx hb dX10_house_56 (by decide) ?_
            refine lv_aload_n hx hb dX10_house_59 rfl (lv_at hl 2 rfl) ?_
            refine sgI G X 0 22 rfl rfl fl_X10_75 dX10_house_60 ?_
            refine sTop (y := Y 0 22) rfl ?_
            refine lv_isub hx hb dX10_house_63 ?_
            refine lv_topi (fun x63 e63 => ?_)
            exact srI G X (rfl) dX10_house_64 (by exact ⟨⟨hmY.agF (sAg.rf.up (by decide) : sAg [0] Y _) (by decide) (mF_1 hmY.1 (by decide)), hW⟩, fun hf => by have hg := hf.t; rw [e63, i32_0 (x := Y 0 22) (by omega)]; decide⟩)
      refine lv_iload_n hx hb dX10_house_12 rfl (lv_at hl 0 rfl) ?_
      refine sZeq (tgt := 47) hx hb (rfl : Int32.toInt f = _) dX10_house_13 (by decide) (fun c13 => ?_) (fun c13 => ?_)
      · skip
        exact L47 _ _ _ (fun h => by omega) X (lv_sub hl [0, 1, 2] rfl)
      · skip
        refine lv_aload_n hx hb dX10_house_16 rfl (lv_at hl 2 rfl) ?_
        refine sgI G X 0 22 rfl rfl fl_X10_75 dX10_house_17 ?_
        refine sZeq (tgt := 31) hx hb (rfl : Int32.toInt (Y 0 22) = _) dX10_house_20 (by decide) (fun c20 => ?_) (fun c20 => ?_)
        · skip
          refine lv_aload_n hx hb dX10_house_31 rfl (lv_at hl 2 rfl) ?_
          refine skI (b := (a 0)) (As := []) (rest := []) G X hE (k_m_statement (kk := kk) (kv := kv) ha Y (by assumption) (by assumption)) iy_X10_statement ml_X10_116 (swRec G X (ci := 9) rfl rfl) rfl rfl hl.1 (by decide) (by decide) (Nat.le_of_ble_eq_true rfl) dX10_house_32 (fun y32 V32 H locs p32 X => ?_)
          have a1 := p32.1.2.2.2.1
          have a2 := p32.1.2.2.2.2
          have a3 := p32.2.1
          refine sZlt (tgt := 42) hx hb (rfl : Int32.toInt y32 = _) dX10_house_35 (by decide) (fun c35 => ?_) (fun c35 => ?_)
          · skip
            refine lv_iconst (v := 0) hx hb dX10_house_42 (by decide) ?_
            refine lv_istore_n (lv' := [(2, .int 0), (1, .int (V 0 1)), (0, .ref (a 0))]) hx hb dX10_house_43 rfl hl (by decide) rfl (fun ls hl => ?_)
            refine lv_goto (tgt := 12) hx hb dX10_house_44 (by decide) ?_
            exact ih12 0 V32 _ _ _ (hS.tr p32.1) (by first | exact Or.inl rfl | exact Or.inr rfl) (by omega) X (lv_sub hl [0, 1, 2] rfl)
          · skip
            refine lv_iconst (v := 1) hx hb dX10_house_38 (by decide) ?_
            refine lv_goto (tgt := 43) hx hb dX10_house_39 (by decide) ?_
            refine lv_istore_n (lv' := [(2, .int 1), (1, .int (V 0 1)), (0, .ref (a 0))]) hx hb dX10_house_43 rfl hl (by decide) rfl (fun ls hl => ?_)
            refine lv_goto (tgt := 12) hx hb dX10_house_44 (by decide) ?_
            exact ih12 1 V32 _ _ _ (hS.tr p32.1) (by first | exact Or.inl rfl | exact Or.inr rfl) (by omega) X (lv_sub hl [0, 1, 2] rfl)
        · skip
          refine lv_aload_n hx hb dX10_house_23 rfl (lv_at hl 2 rfl) ?_
          refine sgI G X 0 22 rfl rfl fl_X10_75 dX10_house_24 ?_
          refine lv_iload_n hx hb dX10_house_27 rfl (lv_at hl 1 rfl) ?_
          refine sIge (tgt := 47) hx hb (rfl : Int32.toInt (Y 0 22) = _) (rfl : Int32.toInt (V 0 1) = _) dX10_house_28 (by decide) (fun c28 => ?_) (fun c28 => ?_)
          · skip
            exact L47 _ _ _ (fun h => by omega) X (lv_sub hl [0, 1, 2] rfl)
          · skip
            refine lv_aload_n hx hb dX10_house_31 rfl (lv_at hl 2 rfl) ?_
            refine skI (b := (a 0)) (As := []) (rest := []) G X hE (k_m_statement (kk := kk) (kv := kv) ha Y (by assumption) (by assumption)) iy_X10_statement ml_X10_116 (swRec G X (ci := 9) rfl rfl) rfl rfl hl.1 (by decide) (by decide) (Nat.le_of_ble_eq_true rfl) dX10_house_32 (fun y32 V32 H locs p32 X => ?_)
            have a1 := p32.1.2.2.2.1
            have a2 := p32.1.2.2.2.2
            have a3 := p32.2.1
            refine sZlt (tgt := 42) hx hb (rfl : Int32.toInt y32 = _) dX10_house_35 (by decide) (fun c35 => ?_) (fun c35 => ?_)
            · skip
              refine lv_iconst (v := 0) hx hb dX10_house_42 (by decide) ?_
              refine lv_istore_n (lv' := [(2, .int 0), (1, .int (V 0 1)), (0, .ref (a 0))]) hx hb dX10_house_43 rfl hl (by decide) rfl (fun ls hl => ?_)
              refine lv_goto (tgt := 12) hx hb dX10_house_44 (by decide) ?_
              exact ih12 0 V32 _ _ _ (hS.tr p32.1) (by first | exact Or.inl rfl | exact Or.inr rfl) (by omega) X (lv_sub hl [0, 1, 2] rfl)
            · skip
              refine lv_iconst (v := 1) hx hb dX10_house_38 (by decide) ?_
              refine lv_goto (tgt := 43) hx hb dX10_house_39 (by decide) ?_
              refine lv_istore_n (lv' := [(2, .int 1), (1, .int (V 0 1)), (0, .ref (a 0))]) hx hb dX10_house_43 rfl hl (by decide) rfl (fun ls hl => ?_)
              refine lv_goto (tgt := 12) hx hb dX10_house_44 (by decide) ?_
              exact ih12 1 V32 _ _ _ (hS.tr p32.1) (by first | exact Or.inl rfl | exact Or.inr rfl) (by omega) X (lv_sub hl [0, 1, 2] rfl)
  exact L12 _ 1 (sUp V 0 (upd (V 0) 22 0)) _ _ _ (mS.rf hm0 hat0) (Or.inr rfl) (Nat.lt_succ_self _) X (lv_sub hl [0, 1, 2] rfl)
