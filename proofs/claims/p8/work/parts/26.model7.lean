theorem mF_on {f : Nat → Int32} {x y z : Int32} (h : mF f) (hx : 0 ≤ x.toInt ∧ x.toInt ≤ 6) (hy : 0 ≤ y.toInt ∧ y.toInt ≤ 10) (hz : 0 ≤ z.toInt ∧ z.toInt ≤ 4) : mF (upd (upd (upd f 0 x) 3 y) 11 z) := ⟨hx, h.2.1, hy, hz, h.2.2.2.2⟩
def q_m_on (V : sV) : Int32 → sV → Prop := fun x V1 => mI V1 ∧ V1 17 = V 17 ∧ V1 0 24 = V 0 24 ∧ (V 0 24 = 0 → x = -3 ∧ V1 10 = V 10 ∧ V1 0 14 = V 0 14) ∧ (V 0 24 ≠ 0 → ∀ j, j < 4 → nowM V1 j = imM V j)
set_option maxRecDepth 100000 in
set_option maxHeartbeats 4000000 in
theorem k_m_on {l : Launch} {D : va_G} {cI : ClassId} {a : Nat → Nat} (ha : sInj SM a) (V : sV) (hm : mI V) : sMI l D cI SM a V yX10_on cX10_on 2 .int 1 [.ref (a 0)] (q_m_on V) := by
  refine sMIof ha (by decide +kernel) (Nat.le_of_ble_eq_true rfl) ?_
  intro p e s m below meth c ls G X hl
  obtain ⟨hx, hb, hml, hown, hts, hlocks, hr, hK⟩ := id G
  have hl : lv_has ls 2 [(0, .ref (a 0))] := hl
  obtain ⟨mf0, mf1, mf3, mf11, mf14, mf15⟩ := hm.1
  refine lv_aload_n hx hb dX10_on_0 rfl (lv_at hl 0 rfl) ?_
  refine sgI G X 0 24 rfl rfl fl_X10_194 dX10_on_1 ?_
  refine sZne (tgt := 14) hx hb (rfl : Int32.toInt (V 0 24) = _) dX10_on_4 (by decide) (fun c4 => ?_) (fun c4 => ?_)
  · skip
    refine lv_iconst (v := 0) hx hb dX10_on_14 (by decide) ?_
    refine lv_istore_n (lv' := [(1, .int 0), (0, .ref (a 0))]) hx hb dX10_on_15 rfl hl (by decide) rfl (fun ls hl => ?_)
    have L16 : ∀ (fu16 : Nat) (i : Int32) (Y : sV) (H : Heap) (locs : List Loc) (ls : Array Slot), (0 ≤ i.toInt) → (sAg [2, 3, 4, 5, 6, 7, 8] V Y) → (mH (Y 2) (Y 3) (Y 4) (Y 6)) → ((10 - i.toInt).toNat) < fu16 → sWS D cI SM a Y s.heap H locs → lv_has ls 2 [(1, .int i), (0, .ref (a 0))] → W p l e (rmD 1) s m ([.ref (a 0)] : List Value).toArray below meth c H locs 0 0 (MQ below (va_Qi (q_m_on V) (fun V1 t => va_P D vwCl (sWd cI SM a V1) t.heap) (sA SM a s.heap.size)) ([.ref (a 0)] : List Value).toArray s 0 0 (sA SM a s.heap.size)) (F0 m 16 ls []) := by
      intro fu16
      induction fu16 with
      | zero => intro i Y H locs ls hi hA hH hm16; exact absurd hm16 (Nat.not_lt_zero _)
      | succ fu16 ih16 =>
        intro i Y H locs ls hi hA hH hm16 X hl
        refine lv_iload_n hx hb dX10_on_16 rfl (lv_at hl 0 rfl) ?_
        refine lv_bipush (v := 10) hx hb dX10_on_17 (by decide) ?_
        refine sIge (tgt := 146) hx hb (rfl : Int32.toInt i = _) (by decide : (10 : Int32).toInt = 10) dX10_on_19 (by decide) (fun c19 => ?_) (fun c19 => ?_)
        · skip
          refine lv_iconst (v := 0) hx hb dX10_on_146 (by decide) ?_
          refine lv_istore_n (lv' := [(1, .int 0), (0, .ref (a 0))]) hx hb dX10_on_147 rfl hl (by decide) rfl (fun ls hl => ?_)
          have L148 : ∀ (fu148 : Nat) (j : Int32) (Z : sV) (H : Heap) (locs : List Loc) (ls : Array Slot), (0 ≤ j.toInt) → (sAg [2, 3, 4, 5, 6, 7, 8, 9] V Z) → (mH (Z 2) (Z 3) (Z 4) (Z 6)) → (mT (Z 9)) → ((12 - j.toInt).toNat) < fu148 → sWS D cI SM a Z s.heap H locs → lv_has ls 2 [(1, .int j), (0, .ref (a 0))] → W p l e (rmD 1) s m ([.ref (a 0)] : List Value).toArray below meth c H locs 0 0 (MQ below (va_Qi (q_m_on V) (fun V1 t => va_P D vwCl (sWd cI SM a V1) t.heap) (sA SM a s.heap.size)) ([.ref (a 0)] : List Value).toArray s 0 0 (sA SM a s.heap.size)) (F0 m 148 ls []) := by
            intro fu148
            induction fu148 with
            | zero => intro j Z H locs ls hj hA2 hH2 hT2 hm148; exact absurd hm148 (Nat.not_lt_zero _)
            | succ fu148 ih148 =>
              intro j Z H locs ls hj hA2 hH2 hT2 hm148 X hl
              refine lv_iload_n hx hb dX10_on_148 rfl (lv_at hl 0 rfl) ?_
              refine lv_bipush (v := 12) hx hb dX10_on_149 (by decide) ?_
              refine sIge (tgt := 175) hx hb (rfl : Int32.toInt j = _) (by decide : (12 : Int32).toInt = 12) dX10_on_151 (by decide) (fun c151 => ?_) (fun c151 => ?_)
              · skip
                refine lv_aload_n hx hb dX10_on_175 rfl (lv_at hl 1 rfl) ?_
                refine lv_aload_n hx hb dX10_on_176 rfl (lv_at hl 1 rfl) ?_
                refine sgR G X 0 25 rfl rfl fl_X10_58 dX10_on_177 ?_
                refine lv_bipush (v := 82) hx hb dX10_on_180 (by decide) ?_
                refine sld G X 17 rfl (i32_in (by decide) (by decide)) dX10_on_182 ?_
                refine sTop (y := Z 17 82) (by rw [show Int32.toNatClampNeg 82 = 82 from by decide]; try rfl) ?_
                refine lv_topi (fun x182 e182 => ?_)
                refine spI G X 0 0 rfl rfl fp_X10_61 dX10_on_183 (fun H locs X => ?_)
                refine lv_aload_n hx hb dX10_on_186 rfl (lv_at hl 1 rfl) ?_
                refine lv_aload_n hx hb dX10_on_187 rfl (lv_at hl 1 rfl) ?_
                refine sgR G X 0 25 rfl rfl fl_X10_58 dX10_on_188 ?_
                refine lv_bipush (v := 83) hx hb dX10_on_191 (by decide) ?_
                refine sld G X 17 rfl (i32_in (by decide) (by decide)) dX10_on_193 ?_
                refine sTop (y := Z 17 83) (by rw [show Int32.toNatClampNeg 83 = 83 from by decide]; try rfl) ?_
                refine lv_topi (fun x193 e193 => ?_)
                refine spI G X 0 3 rfl rfl fp_X10_65 dX10_on_194 (fun H locs X => ?_)
                refine lv_aload_n hx hb dX10_on_197 rfl (lv_at hl 1 rfl) ?_
                refine lv_aload_n hx hb dX10_on_198 rfl (lv_at hl 1 rfl) ?_
                refine sgR G X 0 25 rfl rfl fl_X10_58 dX10_on_199 ?_
                refine lv_bipush (v := 84) hx hb dX10_on_202 (by decide) ?_
                refine sld G X 17 rfl (i32_in (by decide) (by decide)) dX10_on_204 ?_
                refine sTop (y := Z 17 84) (by rw [show Int32.toNatClampNeg 84 = 84 from by decide]; try rfl) ?_
                refine lv_topi (fun x204 e204 => ?_)
                refine spI G X 0 11 rfl rfl fp_X10_113 dX10_on_205 (fun H locs X => ?_)
                refine lv_iconst (v := 0) hx hb dX10_on_208 (by decide) ?_
                refine lv_istore_n (lv' := [(1, .int 0), (0, .ref (a 0))]) hx hb dX10_on_209 rfl hl (by decide) rfl (fun ls hl => ?_)
                have L210 : ∀ (fu210 : Nat) (q : Int32) (U : sV) (H : Heap) (locs : List Loc) (ls : Array Slot), (0 ≤ q.toInt) → (sAg [0, 2, 3, 4, 5, 6, 7, 8, 9, 10] V U) → (mH (U 2) (U 3) (U 4) (U 6)) → (mT (U 9)) → (mF (U 0) ∧ U 0 24 = V 0 24) → (mN (U 10)) → (∀ j : Nat, (j : Int) < q.toInt → U 10 j = V 17 (85 + j)) → ((3 - q.toInt).toNat) < fu210 → sWS D cI SM a U s.heap H locs → lv_has ls 2 [(1, .int q), (0, .ref (a 0))] → W p l e (rmD 1) s m ([.ref (a 0)] : List Value).toArray below meth c H locs 0 0 (MQ below (va_Qi (q_m_on V) (fun V1 t => va_P D vwCl (sWd cI SM a V1) t.heap) (sA SM a s.heap.size)) ([.ref (a 0)] : List Value).toArray s 0 0 (sA SM a s.heap.size)) (F0 m 210 ls []) := by
                  intro fu210
                  induction fu210 with
                  | zero => intro q U H locs ls hq hA3 hH3 hT3 hF3 hN3 hc3 hm210; exact absurd hm210 (Nat.not_lt_zero _)
                  | succ fu210 ih210 =>
                    intro q U H locs ls hq hA3 hH3 hT3 hF3 hN3 hc3 hm210 X hl
                    refine lv_iload_n hx hb dX10_on_210 rfl (lv_at hl 0 rfl) ?_
                    refine lv_iconst (v := 3) hx hb dX10_on_211 (by decide) ?_
                    refine sIge (tgt := 236) hx hb (rfl : Int32.toInt q = _) (by decide : (3 : Int32).toInt = 3) dX10_on_212 (by decide) (fun c212 => ?_) (fun c212 => ?_)
                    · skip
                      refine lv_aload_n hx hb dX10_on_236 rfl (lv_at hl 1 rfl) ?_
                      refine lv_aload_n hx hb dX10_on_237 rfl (lv_at hl 1 rfl) ?_
                      refine sgR G X 0 25 rfl rfl fl_X10_58 dX10_on_238 ?_
                      refine lv_bipush (v := 88) hx hb dX10_on_241 (by decide) ?_
                      refine sld G X 17 rfl (i32_in (by decide) (by decide)) dX10_on_243 ?_
                      refine sTop (y := U 17 88) (by rw [show Int32.toNatClampNeg 88 = 88 from by decide]; try rfl) ?_
                      refine lv_topi (fun x243 e243 => ?_)
                      refine spI G X 0 14 rfl rfl fp_X10_125 dX10_on_244 (fun H locs X => ?_)
                      refine lv_aload_n hx hb dX10_on_247 rfl (lv_at hl 1 rfl) ?_
                      refine sgI G X 0 3 rfl rfl fl_X10_65 dX10_on_248 ?_
                      refine sTop (y := U 0 3) rfl ?_
                      exact srI G X (rfl) dX10_on_251 (by 
                          have q243 : x243 = V 17 88 := by rw [show x243 = U 17 88 from e243, hA3 17 (by decide)]
                          refine ⟨⟨mF_14 hF3.1 (by rw [q243]; exact hm.2.2.2.2.2.2.2.2.2.2.2), hH3, hN3, hT3, by show mU (U 16); rw [hA3 16 (by decide)]; exact hm.2.2.2.2.1, by show mG (U 17); rw [hA3 17 (by decide)]; exact hm.2.2.2.2.2⟩, hA3 17 (by decide), hF3.2, fun h => absurd (show (V 0 24).toInt = 0 from by rw [h]; rfl) c4, fun _ j hj2 => ?_⟩
                          show (if j = 3 then x243 else U 10 j) = (if j = 3 then V 17 88 else V 17 (85 + j))
                          by_cases h3 : j = 3
                          · rw [if_pos h3, if_pos h3, q243]
                          · rw [if_neg h3, if_neg h3]; exact hc3 j (by omega))
                    · skip
                      refine lv_aload_n hx hb dX10_on_215 rfl (lv_at hl 1 rfl) ?_
                      refine sgR G X 0 13 rfl rfl fl_X10_37 dX10_on_216 ?_
                      refine lv_iload_n hx hb dX10_on_219 rfl (lv_at hl 0 rfl) ?_
                      refine lv_aload_n hx hb dX10_on_220 rfl (lv_at hl 1 rfl) ?_
                      refine sgR G X 0 25 rfl rfl fl_X10_58 dX10_on_221 ?_
                      refine lv_bipush (v := 85) hx hb dX10_on_224 (by decide) ?_
                      refine lv_iload_n hx hb dX10_on_226 rfl (lv_at hl 0 rfl) ?_
                      refine lv_iadd hx hb dX10_on_227 ?_
                      refine lv_topi (fun x227 e227 => ?_)
                      have t227 := i32_kc e227 (by decide : (85 : Int32).toInt = 85) (by omega) (by decide)
                      have n227 : x227.toNatClampNeg = 85 + q.toNatClampNeg := by have a1 := i32_cl (x := x227) (by omega); have a2 := i32_cl hq; omega
                      refine sld G X 17 rfl (i32_in (by omega) (by omega)) dX10_on_228 ?_
                      refine lv_topi (fun x228 e228 => ?_)
                      have q228 : x228 = V 17 (85 + q.toNatClampNeg) := by rw [show x228 = U 17 x227.toNatClampNeg from e228, hA3 17 (by decide), n227]
                      refine sst G X 10 rfl (i32_in (by omega) (by omega)) dX10_on_229 (fun H locs X => ?_)
                      obtain ⟨x230, e230⟩ : ∃ y : Int32, y = q + (1) := ⟨_, rfl⟩
                      refine lv_iinc (v := x230) (lv' := [(1, .int x230), (0, .ref (a 0))]) hx hb dX10_on_230 hl (k := 0) rfl (by rw [e230]; rfl) (by decide) rfl (fun ls hl => ?_)
                      refine lv_goto (tgt := 210) hx hb dX10_on_233 (by decide) ?_
                      exact ih210 x230 (sUp U 10 (upd (U 10) q.toNatClampNeg x228)) _ _ _ (by rw [i32_i e230 (by omega)]; omega) (hA3.up (by decide)) (hH3) (hT3) (hF3) (by rw [sUp_s]; exact mN_upd hN3 (fun e => by rw [q228, e]; exact hm.2.2.2.2.2.2.2.2.2.2.1.1) (fun e => by rw [q228, e]; exact hm.2.2.2.2.2.2.2.2.2.2.1.2)) (by rw [sUp_s, i32_i e230 (by omega)]; intro j hj2; have a2 := i32_cl hq; exact if e : j = q.toNatClampNeg then (by rw [e, upd_s]; exact q228) else (by rw [upd_n e]; exact hc3 j (by omega))) (by rw [i32_i e230 (by omega)]; omega) X (lv_sub hl [0, 1] rfl)
                exact L210 _ 0 (sUp (sUp (sUp Z 0 (upd (Z 0) 0 x182)) 0 (upd ((sUp Z 0 (upd (Z 0) 0 x182)) 0) 3 x193)) 0 (upd ((sUp (sUp Z 0 (upd (Z 0) 0 x182)) 0 (upd ((sUp Z 0 (upd (Z 0) 0 x182)) 0) 3 x193)) 0) 11 x204)) _ _ _ (by decide) ((((hA2.mono (by decide) : sAg [0, 2, 3, 4, 5, 6, 7, 8, 9, 10] V Z).up (by decide)).up (by decide)).up (by decide)) (hH2) (hT2) (⟨by show mF (upd (upd (upd (Z 0) 0 x182) 3 x193) 11 x204); rw [hA2 0 (by decide), show x182 = Z 17 82 from e182, show x193 = Z 17 83 from e193, show x204 = Z 17 84 from e204, hA2 17 (by decide)]; exact mF_on hm.1 hm.2.2.2.2.2.2.2.1 hm.2.2.2.2.2.2.2.2.1 hm.2.2.2.2.2.2.2.2.2.1, by show Z 0 24 = V 0 24; rw [hA2 0 (by decide)]⟩) (by show mN (Z 10); rw [hA2 10 (by decide)]; exact hm.2.2.1) (fun j hj2 => absurd hj2 (by show ¬ (j : Int) < 0; omega)) (Nat.lt_succ_self _) X (lv_sub hl [0, 1] rfl)
              · skip
                refine lv_aload_n hx hb dX10_on_154 rfl (lv_at hl 1 rfl) ?_
                refine sgR G X 0 12 rfl rfl fl_X10_34 dX10_on_155 ?_
                refine lv_iload_n hx hb dX10_on_158 rfl (lv_at hl 0 rfl) ?_
                refine lv_aload_n hx hb dX10_on_159 rfl (lv_at hl 1 rfl) ?_
                refine sgR G X 0 25 rfl rfl fl_X10_58 dX10_on_160 ?_
                refine lv_bipush (v := 70) hx hb dX10_on_163 (by decide) ?_
                refine lv_iload_n hx hb dX10_on_165 rfl (lv_at hl 0 rfl) ?_
                refine lv_iadd hx hb dX10_on_166 ?_
                refine lv_topi (fun x166 e166 => ?_)
                have t166 := i32_kc e166 (by decide : (70 : Int32).toInt = 70) (by omega) (by decide)
                have n166 : x166.toNatClampNeg = 70 + j.toNatClampNeg := by have a1 := i32_cl (x := x166) (by omega); have a2 := i32_cl hj; omega
                refine sld G X 17 rfl (i32_in (by omega) (by omega)) dX10_on_167 ?_
                refine lv_topi (fun x167 e167 => ?_)
                have q167 : x167 = V 17 (70 + j.toNatClampNeg) := by rw [show x167 = Z 17 x166.toNatClampNeg from e167, hA2 17 (by decide), n166]
                refine sst G X 9 rfl (i32_in (by omega) (by omega)) dX10_on_168 (fun H locs X => ?_)
                obtain ⟨x169, e169⟩ : ∃ y : Int32, y = j + (1) := ⟨_, rfl⟩
                refine lv_iinc (v := x169) (lv' := [(1, .int x169), (0, .ref (a 0))]) hx hb dX10_on_169 hl (k := 0) rfl (by rw [e169]; rfl) (by decide) rfl (fun ls hl => ?_)
                refine lv_goto (tgt := 148) hx hb dX10_on_172 (by decide) ?_
                exact ih148 x169 (sUp Z 9 (upd (Z 9) j.toNatClampNeg x167)) _ _ _ (by rw [i32_i e169 (by omega)]; omega) (hA2.up (by decide)) (hH2) (by rw [sUp_s]; exact mT_upd hT2 (fun w hw e => by rw [q167, e]; exact (hm.2.2.2.2.2.2.1 w hw).1) (fun w hw e => by rw [q167, e]; exact (hm.2.2.2.2.2.2.1 w hw).2)) (by rw [i32_i e169 (by omega)]; omega) X (lv_sub hl [0, 1] rfl)
          exact L148 _ 0 Y _ _ _ (by decide) (hA.mono (by decide)) (hH) (by rw [hA 9 (by decide)]; exact hm.2.2.2.1) (Nat.lt_succ_self _) X (lv_sub hl [0, 1] rfl)
        · skip
          refine lv_aload_n hx hb dX10_on_22 rfl (lv_at hl 1 rfl) ?_
          refine sgR G X 0 4 rfl rfl fl_X10_13 dX10_on_23 ?_
          refine lv_iload_n hx hb dX10_on_26 rfl (lv_at hl 0 rfl) ?_
          refine lv_aload_n hx hb dX10_on_27 rfl (lv_at hl 1 rfl) ?_
          refine sgR G X 0 25 rfl rfl fl_X10_58 dX10_on_28 ?_
          refine lv_bipush (v := 7) hx hb dX10_on_31 (by decide) ?_
          refine lv_iload_n hx hb dX10_on_33 rfl (lv_at hl 0 rfl) ?_
          refine lv_imul hx hb dX10_on_34 ?_
          refine lv_topi (fun x34 e34 => ?_)
          have t34 := m_7i e34 (by omega)
          have n34 : x34.toNatClampNeg = 7 * i.toNatClampNeg := by have a1 := i32_cl (x := x34) (by omega); have a2 := i32_cl hi; omega
          refine sld G X 17 rfl (i32_in (by omega) (by omega)) dX10_on_35 ?_
          refine lv_topi (fun x35 e35 => ?_)
          have q35 : x35 = V 17 (7 * i.toNatClampNeg) := by rw [show x35 = Y 17 x34.toNatClampNeg from e35, hA 17 (by decide), n34]
          refine sst G X 2 rfl (i32_in (by omega) (by omega)) dX10_on_36 (fun H locs X => ?_)
          refine lv_aload_n hx hb dX10_on_37 rfl (lv_at hl 1 rfl) ?_
          refine sgR G X 0 5 rfl rfl fl_X10_16 dX10_on_38 ?_
          refine lv_iload_n hx hb dX10_on_41 rfl (lv_at hl 0 rfl) ?_
          refine lv_aload_n hx hb dX10_on_42 rfl (lv_at hl 1 rfl) ?_
          refine sgR G X 0 25 rfl rfl fl_X10_58 dX10_on_43 ?_
          refine lv_bipush (v := 7) hx hb dX10_on_46 (by decide) ?_
          refine lv_iload_n hx hb dX10_on_48 rfl (lv_at hl 0 rfl) ?_
          refine lv_imul hx hb dX10_on_49 ?_
          refine lv_topi (fun x49 e49 => ?_)
          refine lv_iconst (v := 1) hx hb dX10_on_50 (by decide) ?_
          refine lv_iadd hx hb dX10_on_51 ?_
          refine lv_topi (fun x51 e51 => ?_)
          have t49 := m_7i e49 (by omega)
          have t51 := i32_ck e51 (by decide : (1 : Int32).toInt = 1) (by omega) (by decide)
          have n51 : x51.toNatClampNeg = 7 * i.toNatClampNeg + 1 := by have a1 := i32_cl (x := x51) (by omega); have a2 := i32_cl hi; omega
          refine sld G X 17 rfl (i32_in (by omega) (by omega)) dX10_on_52 ?_
          refine lv_topi (fun x52 e52 => ?_)
          have q52 : x52 = V 17 (7 * i.toNatClampNeg + 1) := by rw [show x52 = Y 17 x51.toNatClampNeg from e52, hA 17 (by decide), n51]
          refine sst G X 3 rfl (i32_in (by omega) (by omega)) dX10_on_53 (fun H locs X => ?_)
          refine lv_aload_n hx hb dX10_on_54 rfl (lv_at hl 1 rfl) ?_
          refine sgR G X 0 6 rfl rfl fl_X10_19 dX10_on_55 ?_
          refine lv_iload_n hx hb dX10_on_58 rfl (lv_at hl 0 rfl) ?_
          refine lv_aload_n hx hb dX10_on_59 rfl (lv_at hl 1 rfl) ?_
          refine sgR G X 0 25 rfl rfl fl_X10_58 dX10_on_60 ?_
          refine lv_bipush (v := 7) hx hb dX10_on_63 (by decide) ?_
          refine lv_iload_n hx hb dX10_on_65 rfl (lv_at hl 0 rfl) ?_
          refine lv_imul hx hb dX10_on_66 ?_
          refine lv_topi (fun x66 e66 => ?_)
          refine lv_iconst (v := 2) hx hb dX10_on_67 (by decide) ?_
          refine lv_iadd hx hb dX10_on_68 ?_
          refine lv_topi (fun x68 e68 => ?_)
          have t66 := m_7i e66 (by omega)
          have t68 := i32_ck e68 (by decide : (2 : Int32).toInt = 2) (by omega) (by decide)
          have n68 : x68.toNatClampNeg = 7 * i.toNatClampNeg + 2 := by have a1 := i32_cl (x := x68) (by omega); have a2 := i32_cl hi; omega
          refine sld G X 17 rfl (i32_in (by omega) (by omega)) dX10_on_69 ?_
          refine lv_topi (fun x69 e69 => ?_)
          have q69 : x69 = V 17 (7 * i.toNatClampNeg + 2) := by rw [show x69 = Y 17 x68.toNatClampNeg from e69, hA 17 (by decide), n68]
          refine sst G X 4 rfl (i32_in (by omega) (by omega)) dX10_on_70 (fun H locs X => ?_)
          refine lv_aload_n hx hb dX10_on_71 rfl (lv_at hl 1 rfl) ?_
          refine sgR G X 0 7 rfl rfl fl_X10_22 dX10_on_72 ?_
          refine lv_iload_n hx hb dX10_on_75 rfl (lv_at hl 0 rfl) ?_
          refine lv_aload_n hx hb dX10_on_76 rfl (lv_at hl 1 rfl) ?_
          refine sgR G X 0 25 rfl rfl fl_X10_58 dX10_on_77 ?_
          refine lv_bipush (v := 7) hx hb dX10_on_80 (by decide) ?_
          refine lv_iload_n hx hb dX10_on_82 rfl (lv_at hl 0 rfl) ?_
          refine lv_imul hx hb dX10_on_83 ?_
          refine lv_topi (fun x83 e83 => ?_)
          refine lv_iconst (v := 3) hx hb dX10_on_84 (by decide) ?_
          refine lv_iadd hx hb dX10_on_85 ?_
          refine lv_topi (fun x85 e85 => ?_)
          have t83 := m_7i e83 (by omega)
          have t85 := i32_ck e85 (by decide : (3 : Int32).toInt = 3) (by omega) (by decide)
          have n85 : x85.toNatClampNeg = 7 * i.toNatClampNeg + 3 := by have a1 := i32_cl (x := x85) (by omega); have a2 := i32_cl hi; omega
          refine sld G X 17 rfl (i32_in (by omega) (by omega)) dX10_on_86 ?_
          refine lv_topi (fun x86 e86 => ?_)
          have q86 : x86 = V 17 (7 * i.toNatClampNeg + 3) := by rw [show x86 = Y 17 x85.toNatClampNeg from e86, hA 17 (by decide), n85]
          refine sst G X 5 rfl (i32_in (by omega) (by omega)) dX10_on_87 (fun H locs X => ?_)
          refine lv_aload_n hx hb dX10_on_88 rfl (lv_at hl 1 rfl) ?_
          refine sgR G X 0 8 rfl rfl fl_X10_25 dX10_on_89 ?_
          refine lv_iload_n hx hb dX10_on_92 rfl (lv_at hl 0 rfl) ?_
          refine lv_aload_n hx hb dX10_on_93 rfl (lv_at hl 1 rfl) ?_
          refine sgR G X 0 25 rfl rfl fl_X10_58 dX10_on_94 ?_
          refine lv_bipush (v := 7) hx hb dX10_on_97 (by decide) ?_
          refine lv_iload_n hx hb dX10_on_99 rfl (lv_at hl 0 rfl) ?_
          refine lv_imul hx hb dX10_on_100 ?_
          refine lv_topi (fun x100 e100 => ?_)
          refine lv_iconst (v := 4) hx hb dX10_on_101 (by decide) ?_
          refine lv_iadd hx hb dX10_on_102 ?_
          refine lv_topi (fun x102 e102 => ?_)
          have t100 := m_7i e100 (by omega)
          have t102 := i32_ck e102 (by decide : (4 : Int32).toInt = 4) (by omega) (by decide)
          have n102 : x102.toNatClampNeg = 7 * i.toNatClampNeg + 4 := by have a1 := i32_cl (x := x102) (by omega); have a2 := i32_cl hi; omega
          refine sld G X 17 rfl (i32_in (by omega) (by omega)) dX10_on_103 ?_
          refine lv_topi (fun x103 e103 => ?_)
          have q103 : x103 = V 17 (7 * i.toNatClampNeg + 4) := by rw [show x103 = Y 17 x102.toNatClampNeg from e103, hA 17 (by decide), n102]
          refine sst G X 6 rfl (i32_in (by omega) (by omega)) dX10_on_104 (fun H locs X => ?_)
          refine lv_aload_n hx hb dX10_on_105 rfl (lv_at hl 1 rfl) ?_
          refine sgR G X 0 9 rfl rfl fl_X10_28 dX10_on_106 ?_
          refine lv_iload_n hx hb dX10_on_109 rfl (lv_at hl 0 rfl) ?_
          refine lv_aload_n hx hb dX10_on_110 rfl (lv_at hl 1 rfl) ?_
          refine sgR G X 0 25 rfl rfl fl_X10_58 dX10_on_111 ?_
          refine lv_bipush (v := 7) hx hb dX10_on_114 (by decide) ?_
          refine lv_iload_n hx hb dX10_on_116 rfl (lv_at hl 0 rfl) ?_
          refine lv_imul hx hb dX10_on_117 ?_
          refine lv_topi (fun x117 e117 => ?_)
          refine lv_iconst (v := 5) hx hb dX10_on_118 (by decide) ?_
          refine lv_iadd hx hb dX10_on_119 ?_
          refine lv_topi (fun x119 e119 => ?_)
          have t117 := m_7i e117 (by omega)
          have t119 := i32_ck e119 (by decide : (5 : Int32).toInt = 5) (by omega) (by decide)
          have n119 : x119.toNatClampNeg = 7 * i.toNatClampNeg + 5 := by have a1 := i32_cl (x := x119) (by omega); have a2 := i32_cl hi; omega
          refine sld G X 17 rfl (i32_in (by omega) (by omega)) dX10_on_120 ?_
          refine lv_topi (fun x120 e120 => ?_)
          have q120 : x120 = V 17 (7 * i.toNatClampNeg + 5) := by rw [show x120 = Y 17 x119.toNatClampNeg from e120, hA 17 (by decide), n119]
          refine sst G X 7 rfl (i32_in (by omega) (by omega)) dX10_on_121 (fun H locs X => ?_)
          refine lv_aload_n hx hb dX10_on_122 rfl (lv_at hl 1 rfl) ?_
          refine sgR G X 0 10 rfl rfl fl_X10_31 dX10_on_123 ?_
          refine lv_iload_n hx hb dX10_on_126 rfl (lv_at hl 0 rfl) ?_
          refine lv_aload_n hx hb dX10_on_127 rfl (lv_at hl 1 rfl) ?_
          refine sgR G X 0 25 rfl rfl fl_X10_58 dX10_on_128 ?_
          refine lv_bipush (v := 7) hx hb dX10_on_131 (by decide) ?_
          refine lv_iload_n hx hb dX10_on_133 rfl (lv_at hl 0 rfl) ?_
          refine lv_imul hx hb dX10_on_134 ?_
          refine lv_topi (fun x134 e134 => ?_)
          refine lv_bipush (v := 6) hx hb dX10_on_135 (by decide) ?_
          refine lv_iadd hx hb dX10_on_137 ?_
          refine lv_topi (fun x137 e137 => ?_)
          have t134 := m_7i e134 (by omega)
          have t137 := i32_ck e137 (by decide : (6 : Int32).toInt = 6) (by omega) (by decide)
          have n137 : x137.toNatClampNeg = 7 * i.toNatClampNeg + 6 := by have a1 := i32_cl (x := x137) (by omega); have a2 := i32_cl hi; omega
          refine sld G X 17 rfl (i32_in (by omega) (by omega)) dX10_on_138 ?_
          refine lv_topi (fun x138 e138 => ?_)
          have q138 : x138 = V 17 (7 * i.toNatClampNeg + 6) := by rw [show x138 = Y 17 x137.toNatClampNeg from e138, hA 17 (by decide), n137]
          refine sst G X 8 rfl (i32_in (by omega) (by omega)) dX10_on_139 (fun H locs X => ?_)
          have bg := hm.2.2.2.2.2.1 i.toNatClampNeg (by have a2 := i32_cl hi; omega)
          obtain ⟨x140, e140⟩ : ∃ y : Int32, y = i + (1) := ⟨_, rfl⟩
          refine lv_iinc (v := x140) (lv' := [(1, .int x140), (0, .ref (a 0))]) hx hb dX10_on_140 hl (k := 0) rfl (by rw [e140]; rfl) (by decide) rfl (fun ls hl => ?_)
          refine lv_goto (tgt := 16) hx hb dX10_on_143 (by decide) ?_
          exact ih16 x140 (sUp (sUp (sUp (sUp (sUp (sUp (sUp Y 2 (upd (Y 2) i.toNatClampNeg x35)) 3 (upd ((sUp Y 2 (upd (Y 2) i.toNatClampNeg x35)) 3) i.toNatClampNeg x52)) 4 (upd ((sUp (sUp Y 2 (upd (Y 2) i.toNatClampNeg x35)) 3 (upd ((sUp Y 2 (upd (Y 2) i.toNatClampNeg x35)) 3) i.toNatClampNeg x52)) 4) i.toNatClampNeg x69)) 5 (upd ((sUp (sUp (sUp Y 2 (upd (Y 2) i.toNatClampNeg x35)) 3 (upd ((sUp Y 2 (upd (Y 2) i.toNatClampNeg x35)) 3) i.toNatClampNeg x52)) 4 (upd ((sUp (sUp Y 2 (upd (Y 2) i.toNatClampNeg x35)) 3 (upd ((sUp Y 2 (upd (Y 2) i.toNatClampNeg x35)) 3) i.toNatClampNeg x52)) 4) i.toNatClampNeg x69)) 5) i.toNatClampNeg x86)) 6 (upd ((sUp (sUp (sUp (sUp Y 2 (upd (Y 2) i.toNatClampNeg x35)) 3 (upd ((sUp Y 2 (upd (Y 2) i.toNatClampNeg x35)) 3) i.toNatClampNeg x52)) 4 (upd ((sUp (sUp Y 2 (upd (Y 2) i.toNatClampNeg x35)) 3 (upd ((sUp Y 2 (upd (Y 2) i.toNatClampNeg x35)) 3) i.toNatClampNeg x52)) 4) i.toNatClampNeg x69)) 5 (upd ((sUp (sUp (sUp Y 2 (upd (Y 2) i.toNatClampNeg x35)) 3 (upd ((sUp Y 2 (upd (Y 2) i.toNatClampNeg x35)) 3) i.toNatClampNeg x52)) 4 (upd ((sUp (sUp Y 2 (upd (Y 2) i.toNatClampNeg x35)) 3 (upd ((sUp Y 2 (upd (Y 2) i.toNatClampNeg x35)) 3) i.toNatClampNeg x52)) 4) i.toNatClampNeg x69)) 5) i.toNatClampNeg x86)) 6) i.toNatClampNeg x103)) 7 (upd ((sUp (sUp (sUp (sUp (sUp Y 2 (upd (Y 2) i.toNatClampNeg x35)) 3 (upd ((sUp Y 2 (upd (Y 2) i.toNatClampNeg x35)) 3) i.toNatClampNeg x52)) 4 (upd ((sUp (sUp Y 2 (upd (Y 2) i.toNatClampNeg x35)) 3 (upd ((sUp Y 2 (upd (Y 2) i.toNatClampNeg x35)) 3) i.toNatClampNeg x52)) 4) i.toNatClampNeg x69)) 5 (upd ((sUp (sUp (sUp Y 2 (upd (Y 2) i.toNatClampNeg x35)) 3 (upd ((sUp Y 2 (upd (Y 2) i.toNatClampNeg x35)) 3) i.toNatClampNeg x52)) 4 (upd ((sUp (sUp Y 2 (upd (Y 2) i.toNatClampNeg x35)) 3 (upd ((sUp Y 2 (upd (Y 2) i.toNatClampNeg x35)) 3) i.toNatClampNeg x52)) 4) i.toNatClampNeg x69)) 5) i.toNatClampNeg x86)) 6 (upd ((sUp (sUp (sUp (sUp Y 2 (upd (Y 2) i.toNatClampNeg x35)) 3 (upd ((sUp Y 2 (upd (Y 2) i.toNatClampNeg x35)) 3) i.toNatClampNeg x52)) 4 (upd ((sUp (sUp Y 2 (upd (Y 2) i.toNatClampNeg x35)) 3 (upd ((sUp Y 2 (upd (Y 2) i.toNatClampNeg x35)) 3) i.toNatClampNeg x52)) 4) i.toNatClampNeg x69)) 5 (upd ((sUp (sUp (sUp Y 2 (upd (Y 2) i.toNatClampNeg x35)) 3 (upd ((sUp Y 2 (upd (Y 2) i.toNatClampNeg x35)) 3) i.toNatClampNeg x52)) 4 (upd ((sUp (sUp Y 2 (upd (Y 2) i.toNatClampNeg x35)) 3 (upd ((sUp Y 2 (upd (Y 2) i.toNatClampNeg x35)) 3) i.toNatClampNeg x52)) 4) i.toNatClampNeg x69)) 5) i.toNatClampNeg x86)) 6) i.toNatClampNeg x103)) 7) i.toNatClampNeg x120)) 8 (upd ((sUp (sUp (sUp (sUp (sUp (sUp Y 2 (upd (Y 2) i.toNatClampNeg x35)) 3 (upd ((sUp Y 2 (upd (Y 2) i.toNatClampNeg x35)) 3) i.toNatClampNeg x52)) 4 (upd ((sUp (sUp Y 2 (upd (Y 2) i.toNatClampNeg x35)) 3 (upd ((sUp Y 2 (upd (Y 2) i.toNatClampNeg x35)) 3) i.toNatClampNeg x52)) 4) i.toNatClampNeg x69)) 5 (upd ((sUp (sUp (sUp Y 2 (upd (Y 2) i.toNatClampNeg x35)) 3 (upd ((sUp Y 2 (upd (Y 2) i.toNatClampNeg x35)) 3) i.toNatClampNeg x52)) 4 (upd ((sUp (sUp Y 2 (upd (Y 2) i.toNatClampNeg x35)) 3 (upd ((sUp Y 2 (upd (Y 2) i.toNatClampNeg x35)) 3) i.toNatClampNeg x52)) 4) i.toNatClampNeg x69)) 5) i.toNatClampNeg x86)) 6 (upd ((sUp (sUp (sUp (sUp Y 2 (upd (Y 2) i.toNatClampNeg x35)) 3 (upd ((sUp Y 2 (upd (Y 2) i.toNatClampNeg x35)) 3) i.toNatClampNeg x52)) 4 (upd ((sUp (sUp Y 2 (upd (Y 2) i.toNatClampNeg x35)) 3 (upd ((sUp Y 2 (upd (Y 2) i.toNatClampNeg x35)) 3) i.toNatClampNeg x52)) 4) i.toNatClampNeg x69)) 5 (upd ((sUp (sUp (sUp Y 2 (upd (Y 2) i.toNatClampNeg x35)) 3 (upd ((sUp Y 2 (upd (Y 2) i.toNatClampNeg x35)) 3) i.toNatClampNeg x52)) 4 (upd ((sUp (sUp Y 2 (upd (Y 2) i.toNatClampNeg x35)) 3 (upd ((sUp Y 2 (upd (Y 2) i.toNatClampNeg x35)) 3) i.toNatClampNeg x52)) 4) i.toNatClampNeg x69)) 5) i.toNatClampNeg x86)) 6) i.toNatClampNeg x103)) 7 (upd ((sUp (sUp (sUp (sUp (sUp Y 2 (upd (Y 2) i.toNatClampNeg x35)) 3 (upd ((sUp Y 2 (upd (Y 2) i.toNatClampNeg x35)) 3) i.toNatClampNeg x52)) 4 (upd ((sUp (sUp Y 2 (upd (Y 2) i.toNatClampNeg x35)) 3 (upd ((sUp Y 2 (upd (Y 2) i.toNatClampNeg x35)) 3) i.toNatClampNeg x52)) 4) i.toNatClampNeg x69)) 5 (upd ((sUp (sUp (sUp Y 2 (upd (Y 2) i.toNatClampNeg x35)) 3 (upd ((sUp Y 2 (upd (Y 2) i.toNatClampNeg x35)) 3) i.toNatClampNeg x52)) 4 (upd ((sUp (sUp Y 2 (upd (Y 2) i.toNatClampNeg x35)) 3 (upd ((sUp Y 2 (upd (Y 2) i.toNatClampNeg x35)) 3) i.toNatClampNeg x52)) 4) i.toNatClampNeg x69)) 5) i.toNatClampNeg x86)) 6 (upd ((sUp (sUp (sUp (sUp Y 2 (upd (Y 2) i.toNatClampNeg x35)) 3 (upd ((sUp Y 2 (upd (Y 2) i.toNatClampNeg x35)) 3) i.toNatClampNeg x52)) 4 (upd ((sUp (sUp Y 2 (upd (Y 2) i.toNatClampNeg x35)) 3 (upd ((sUp Y 2 (upd (Y 2) i.toNatClampNeg x35)) 3) i.toNatClampNeg x52)) 4) i.toNatClampNeg x69)) 5 (upd ((sUp (sUp (sUp Y 2 (upd (Y 2) i.toNatClampNeg x35)) 3 (upd ((sUp Y 2 (upd (Y 2) i.toNatClampNeg x35)) 3) i.toNatClampNeg x52)) 4 (upd ((sUp (sUp Y 2 (upd (Y 2) i.toNatClampNeg x35)) 3 (upd ((sUp Y 2 (upd (Y 2) i.toNatClampNeg x35)) 3) i.toNatClampNeg x52)) 4) i.toNatClampNeg x69)) 5) i.toNatClampNeg x86)) 6) i.toNatClampNeg x103)) 7) i.toNatClampNeg x120)) 8) i.toNatClampNeg x138)) _ _ _ (by rw [i32_i e140 (by omega)]; omega) (((((((hA.up (by decide)).up (by decide)).up (by decide)).up (by decide)).up (by decide)).up (by decide)).up (by decide)) (mH_upd (r := Y 2) (o := Y 3) (k := Y 4) (g := Y 6) hH (by rw [q35]; exact bg.1) (by rw [q69, q52]; exact bg.2.1) (by rw [q103]; exact bg.2.2)) (by rw [i32_i e140 (by omega)]; omega) X (lv_sub hl [0, 1] rfl)
    exact L16 _ 0 V _ _ _ (by decide) (sAg.rf) (hm.2.1) (Nat.lt_succ_self _) X (lv_sub hl [0, 1] rfl)
  · skip
    refine lv_aload_n hx hb dX10_on_7 rfl (lv_at hl 0 rfl) ?_
    refine lv_bipush (v := (-3)) hx hb dX10_on_8 (by decide) ?_
    refine scI (ci := 9) (As := [.int (-3)]) (rest := []) G X (k_m_no ha V (-3) (by decide) (by decide)) iy_X10_no ml_X10_68 rfl rfl rfl rfl hl.1 (by decide) (by decide) (Nat.le_of_ble_eq_true rfl) dX10_on_10 (fun y10 V10 H locs p10 X => ?_)
    exact srI G X (rfl) dX10_on_13 (by (have hK := (mK.ag hm ((sAg.mono p10.1 (by decide)) : sAg [1, 5, 7, 8, 11, 12, 13, 14, 15] V _) (by decide)); exact ⟨hK.1, hK.2.2.1, hK.2.2.2.2, fun _ => ⟨p10.2, hK.2.1, hK.2.2.2.1⟩, fun h => absurd (i32_0 c4) h⟩))
