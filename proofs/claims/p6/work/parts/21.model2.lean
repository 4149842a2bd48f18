theorem sMax0b {x y : Int32} (h : y = 0) (e : x.toInt = max (0 : Int32).toInt y.toInt) : x = 0 := by
  subst h
  exact Int32.toInt_inj.mp (by rw [e]; rfl)
def q_m_settle (V : sV) : sV → Prop := fun V1 => sAg [13, 14] V V1 ∧ mP V1 ∧ mO V1 ∧ (mQuiet V → V 15 0 = 0 → mCalm V1)
set_option maxRecDepth 100000 in
set_option maxHeartbeats 4000000 in
theorem k_m_settle {l : Launch} {D : va_G} {cI : ClassId} {a : Nat → Nat} (ha : sInj SM a) (V : sV) (hm : mI V) : sMV l D cI SM a V yX10_settle cX10_settle 6 2 [.ref (a 0)] (q_m_settle V) := by
  refine sMVof ha (by decide +kernel) (Nat.le_of_ble_eq_true rfl) ?_
  intro p e s m below meth c ls G X hl
  obtain ⟨hx, hb, hml, hown, hts, hlocks, hr, hK⟩ := id G
  have hl : lv_has ls 6 [(0, .ref (a 0))] := hl
  obtain ⟨mf0, mf1, mf3, mf11, mf14, mf15⟩ := hm.1
  refine lv_iconst (v := 0) hx hb dX10_settle_0 (by decide) ?_
  refine lv_istore_n (lv' := [(1, .int 0), (0, .ref (a 0))]) hx hb dX10_settle_1 rfl hl (by decide) rfl (fun ls hl => ?_)
  have L2 : ∀ (fu2 : Nat) (i : Int32) (Y : sV) (H : Heap) (locs : List Loc) (ls : Array Slot), (0 ≤ i.toInt) → (sAg [14] V Y) → (∀ h : Nat, (h : Int) < i.toInt → -1100 ≤ (Y 14 h).toInt ∧ (Y 14 h).toInt ≤ 1100) → (mQuiet V → ∀ h : Nat, (h : Int) < i.toInt → Y 14 h = 0) → (((V 0 3).toInt - i.toInt).toNat) < fu2 → sWS D cI SM a Y s.heap H locs → lv_has ls 6 [(1, .int i), (0, .ref (a 0))] → W p l e (rmD 2) s m ([.ref (a 0)] : List Value).toArray below meth c H locs 0 0 (MQ below (va_Qv (q_m_settle V) (fun V1 t => va_P D vwCl (sWd cI SM a V1) t.heap) (sA SM a s.heap.size)) ([.ref (a 0)] : List Value).toArray s 0 0 (sA SM a s.heap.size)) (F0 m 2 ls []) := by
    intro fu2
    induction fu2 with
    | zero => intro i Y H locs ls hi hA hO hQ hm2; exact absurd hm2 (Nat.not_lt_zero _)
    | succ fu2 ih2 =>
      intro i Y H locs ls hi hA hO hQ hm2 X hl
      have hm2 : mI Y := hm.ag hA (by decide)
      refine lv_iload_n hx hb dX10_settle_2 rfl (lv_at hl 0 rfl) ?_
      refine lv_aload_n hx hb dX10_settle_3 rfl (lv_at hl 1 rfl) ?_
      refine sgI G X 0 3 rfl rfl fl_X10_65 dX10_settle_4 ?_
      refine sIge (tgt := 39) hx hb (rfl : Int32.toInt i = _) (rfl : Int32.toInt (Y 0 3) = _) dX10_settle_7 (by decide) (fun c7 => ?_) (fun c7 => ?_)
      · skip
        rw [hA 0 (by decide)] at c7
        refine lv_iconst (v := 0) hx hb dX10_settle_39 (by decide) ?_
        refine lv_istore_n (lv' := [(1, .int 0), (0, .ref (a 0))]) hx hb dX10_settle_40 rfl hl (by decide) rfl (fun ls hl => ?_)
        have L41 : ∀ (fu41 : Nat) (b : Int32) (Z : sV) (H : Heap) (locs : List Loc) (ls : Array Slot), (0 ≤ b.toInt) → (sAg [13, 14] V Z) → (∀ h : Nat, (h : Int) < (V 0 3).toInt → -1100 ≤ (Z 14 h).toInt ∧ (Z 14 h).toInt ≤ 1100) → (mQuiet V → ∀ h : Nat, (h : Int) < (V 0 3).toInt → Z 14 h = 0) → (∀ r : Nat, (r : Int) < b.toInt → Z 13 r = 0) → ((6 - b.toInt).toNat) < fu41 → sWS D cI SM a Z s.heap H locs → lv_has ls 6 [(1, .int b), (0, .ref (a 0))] → W p l e (rmD 2) s m ([.ref (a 0)] : List Value).toArray below meth c H locs 0 0 (MQ below (va_Qv (q_m_settle V) (fun V1 t => va_P D vwCl (sWd cI SM a V1) t.heap) (sA SM a s.heap.size)) ([.ref (a 0)] : List Value).toArray s 0 0 (sA SM a s.heap.size)) (F0 m 41 ls []) := by
          intro fu41
          induction fu41 with
          | zero => intro b Z H locs ls hb1 hA2 hO2 hQ2 hz hm41; exact absurd hm41 (Nat.not_lt_zero _)
          | succ fu41 ih41 =>
            intro b Z H locs ls hb1 hA2 hO2 hQ2 hz hm41 X hl
            refine lv_iload_n hx hb dX10_settle_41 rfl (lv_at hl 0 rfl) ?_
            refine lv_bipush (v := 6) hx hb dX10_settle_42 (by decide) ?_
            refine sIge (tgt := 60) hx hb (rfl : Int32.toInt b = _) (by decide : (6 : Int32).toInt = 6) dX10_settle_44 (by decide) (fun c44 => ?_) (fun c44 => ?_)
            · skip
              refine lv_iconst (v := 0) hx hb dX10_settle_60 (by decide) ?_
              refine lv_istore_n (lv' := [(1, .int 0), (0, .ref (a 0))]) hx hb dX10_settle_61 rfl hl (by decide) rfl (fun ls hl => ?_)
              have L62 : ∀ (fu62 : Nat) (k : Int32) (U : sV) (H : Heap) (locs : List Loc) (ls : Array Slot), (0 ≤ k.toInt ∧ k.toInt ≤ 200) → (sAg [13, 14] V U) → (∀ h : Nat, (h : Int) < (V 0 3).toInt → -1100 ≤ (U 14 h).toInt ∧ (U 14 h).toInt ≤ 1100) → (mQuiet V → ∀ h : Nat, (h : Int) < (V 0 3).toInt → U 14 h = 0) → (∀ r : Nat, r < 6 → -k.toInt ≤ (U 13 r).toInt ∧ (U 13 r).toInt ≤ k.toInt) → (mQuiet V → V 15 0 = 0 → ∀ r : Nat, r < 6 → U 13 r = 0) → ((200 - k.toInt).toNat) < fu62 → sWS D cI SM a U s.heap H locs → lv_has ls 6 [(1, .int k), (0, .ref (a 0))] → W p l e (rmD 2) s m ([.ref (a 0)] : List Value).toArray below meth c H locs 0 0 (MQ below (va_Qv (q_m_settle V) (fun V1 t => va_P D vwCl (sWd cI SM a V1) t.heap) (sA SM a s.heap.size)) ([.ref (a 0)] : List Value).toArray s 0 0 (sA SM a s.heap.size)) (F0 m 62 ls []) := by
                intro fu62
                induction fu62 with
                | zero => intro k U H locs ls hk1 hA3 hO3 hQ3 hP3 hC3 hm62; exact absurd hm62 (Nat.not_lt_zero _)
                | succ fu62 ih62 =>
                  intro k U H locs ls hk1 hA3 hO3 hQ3 hP3 hC3 hm62 X hl
                  refine lv_iload_n hx hb dX10_settle_62 rfl (lv_at hl 0 rfl) ?_
                  refine lv_sipush (v := 200) hx hb dX10_settle_63 (by decide) ?_
                  refine sIge (tgt := 224) hx hb (rfl : Int32.toInt k = _) (by decide : (200 : Int32).toInt = 200) dX10_settle_66 (by decide) (fun c66 => ?_) (fun c66 => ?_)
                  · skip
                    exact srV G X dX10_settle_224 (by exact ⟨hA3, fun r hr => by have := hP3 r hr; omega, by unfold mO; rw [hA3 0 (by decide)]; exact hO3, fun hq h0 => ⟨hC3 hq h0, by rw [hA3 15 (by decide)]; exact h0, by rw [hA3 0 (by decide)]; exact hQ3 hq⟩⟩)
                  · skip
                    refine lv_iconst (v := 1) hx hb dX10_settle_69 (by decide) ?_
                    refine lv_istore_n (lv' := [(2, .int 1), (1, .int k), (0, .ref (a 0))]) hx hb dX10_settle_70 rfl hl (by decide) rfl (fun ls hl => ?_)
                    refine lv_iconst (v := 0) hx hb dX10_settle_71 (by decide) ?_
                    refine lv_istore_n (lv' := [(3, .int 0), (2, .int 1), (1, .int k), (0, .ref (a 0))]) hx hb dX10_settle_72 rfl hl (by decide) rfl (fun ls hl => ?_)
                    have L73 : ∀ (fu73 : Nat) (j : Int32) (t : Int32) (T : sV) (H : Heap) (locs : List Loc) (ls : Array Slot), (0 ≤ j.toInt) → (sAg [13, 14] V T) → (∀ h : Nat, (h : Int) < (V 0 3).toInt → -1100 ≤ (T 14 h).toInt ∧ (T 14 h).toInt ≤ 1100) → (mQuiet V → ∀ h : Nat, (h : Int) < (V 0 3).toInt → T 14 h = 0) → (∀ r : Nat, r < 6 → (-(k.toInt + 1) ≤ (T 13 r).toInt ∧ (T 13 r).toInt ≤ k.toInt + 1) ∧ (j.toInt ≤ (r : Int) → -k.toInt ≤ (T 13 r).toInt ∧ (T 13 r).toInt ≤ k.toInt)) → (mQuiet V → V 15 0 = 0 → ∀ r : Nat, r < 6 → T 13 r = 0) → (((V 0 0).toInt - j.toInt).toNat) < fu73 → sWS D cI SM a T s.heap H locs → lv_has ls 6 [(3, .int j), (2, .int t), (1, .int k), (0, .ref (a 0))] → W p l e (rmD 2) s m ([.ref (a 0)] : List Value).toArray below meth c H locs 0 0 (MQ below (va_Qv (q_m_settle V) (fun V1 t => va_P D vwCl (sWd cI SM a V1) t.heap) (sA SM a s.heap.size)) ([.ref (a 0)] : List Value).toArray s 0 0 (sA SM a s.heap.size)) (F0 m 73 ls []) := by
                      intro fu73
                      induction fu73 with
                      | zero => intro j t T H locs ls hj hA4 hO4 hQ4 hP4 hC4 hm73; exact absurd hm73 (Nat.not_lt_zero _)
                      | succ fu73 ih73 =>
                        intro j t T H locs ls hj hA4 hO4 hQ4 hP4 hC4 hm73 X hl
                        have hm4 : mI T := hm.ag hA4 (by decide)
                        have hT0 : T 0 = V 0 := hA4 0 (by decide)
                        have hP5 : mP T := fun r hr => by have := (hP4 r hr).1; omega
                        have hO5 : mO T := by unfold mO; rw [hT0]; exact hO4
                        have hC5 : mQuiet V → V 15 0 = 0 → mCalm T := fun hq h0 => ⟨hC4 hq h0, by rw [hA4 15 (by decide)]; exact h0, by rw [hT0]; exact hQ4 hq⟩
                        refine lv_iload_n hx hb dX10_settle_73 rfl (lv_at hl 0 rfl) ?_
                        refine lv_aload_n hx hb dX10_settle_74 rfl (lv_at hl 3 rfl) ?_
                        refine sgI G X 0 0 rfl rfl fl_X10_61 dX10_settle_75 ?_
                        refine sIge (tgt := 213) hx hb (rfl : Int32.toInt j = _) (rfl : Int32.toInt (T 0 0) = _) dX10_settle_78 (by decide) (fun c78 => ?_) (fun c78 => ?_)
                        · skip
                          rw [hT0] at c78
                          refine lv_iload_n hx hb dX10_settle_213 rfl (lv_at hl 1 rfl) ?_
                          refine sZeq (tgt := 218) hx hb (rfl : Int32.toInt t = _) dX10_settle_214 (by decide) (fun c214 => ?_) (fun c214 => ?_)
                          · skip
                            obtain ⟨x218, e218⟩ : ∃ y : Int32, y = k + (1) := ⟨_, rfl⟩
                            refine lv_iinc (v := x218) (lv' := [(1, .int x218), (3, .int j), (2, .int t), (0, .ref (a 0))]) hx hb dX10_settle_218 hl (k := 2) rfl (by rw [e218]; rfl) (by decide) rfl (fun ls hl => ?_)
                            refine lv_goto (tgt := 62) hx hb dX10_settle_221 (by decide) ?_
                            exact ih62 x218 T _ _ _ (by rw [i32_i e218 (by omega)]; omega) (hA4) (hO4) (hQ4) (fun r hr => by rw [i32_i e218 (by omega)]; have := hP4 r hr; omega) (hC4) (by rw [i32_i e218 (by omega)]; omega) X (lv_sub hl [0, 3] rfl)
                          · skip
                            exact srV G X dX10_settle_217 (by exact ⟨hA4, hP5, hO5, hC5⟩)
                        · skip
                          rw [hT0] at c78
                          refine lv_iconst (v := 0) hx hb dX10_settle_81 (by decide) ?_
                          refine lv_istore (lv' := [(4, .int 0), (3, .int j), (2, .int t), (1, .int k), (0, .ref (a 0))]) hx hb dX10_settle_82 hl (by decide) rfl (fun ls hl => ?_)
                          refine lv_iconst (v := 0) hx hb dX10_settle_84 (by decide) ?_
                          refine lv_istore (lv' := [(5, .int 0), (4, .int 0), (3, .int j), (2, .int t), (1, .int k), (0, .ref (a 0))]) hx hb dX10_settle_85 hl (by decide) rfl (fun ls hl => ?_)
                          have L87 : ∀ (fu87 : Nat) (h : Int32) (z : Int32) (H : Heap) (locs : List Loc) (ls : Array Slot), (0 ≤ h.toInt) → (mQuiet V → V 15 0 = 0 → z = 0) → (((V 0 3).toInt - h.toInt).toNat) < fu87 → sWS D cI SM a T s.heap H locs → lv_has ls 6 [(5, .int h), (4, .int z), (3, .int j), (2, .int t), (1, .int k), (0, .ref (a 0))] → W p l e (rmD 2) s m ([.ref (a 0)] : List Value).toArray below meth c H locs 0 0 (MQ below (va_Qv (q_m_settle V) (fun V1 t => va_P D vwCl (sWd cI SM a V1) t.heap) (sA SM a s.heap.size)) ([.ref (a 0)] : List Value).toArray s 0 0 (sA SM a s.heap.size)) (F0 m 87 ls []) := by
                            intro fu87
                            induction fu87 with
                            | zero => intro h z H locs ls hh1 hz9 hm87; exact absurd hm87 (Nat.not_lt_zero _)
                            | succ fu87 ih87 =>
                              intro h z H locs ls hh1 hz9 hm87 X hl
                              refine lv_iload hx hb dX10_settle_87 (lv_at hl 0 rfl) ?_
                              refine lv_aload_n hx hb dX10_settle_89 rfl (lv_at hl 5 rfl) ?_
                              refine sgI G X 0 3 rfl rfl fl_X10_65 dX10_settle_90 ?_
                              refine sIge (tgt := 178) hx hb (rfl : Int32.toInt h = _) (rfl : Int32.toInt (T 0 3) = _) dX10_settle_93 (by decide) (fun c93 => ?_) (fun c93 => ?_)
                              · skip
                                rw [hT0] at c93
                                refine lv_iload hx hb dX10_settle_178 (lv_at hl 1 rfl) ?_
                                refine sZne (tgt := 186) hx hb (rfl : Int32.toInt z = _) dX10_settle_180 (by decide) (fun c180 => ?_) (fun c180 => ?_)
                                · skip
                                  refine lv_aload_n hx hb dX10_settle_186 rfl (lv_at hl 5 rfl) ?_
                                  refine sgR G X 0 18 rfl rfl fl_X10_46 dX10_settle_187 ?_
                                  refine lv_iload_n hx hb dX10_settle_190 rfl (lv_at hl 2 rfl) ?_
                                  refine lv_dup2_11 hx hb dX10_settle_191 rfl rfl ?_
                                  refine sld G X 13 rfl (i32_in (by omega) (by omega)) dX10_settle_192 ?_
                                  refine lv_topi (fun x192 e192 => ?_)
                                  refine lv_iload hx hb dX10_settle_193 (lv_at hl 1 rfl) ?_
                                  refine sZle (tgt := 202) hx hb (rfl : Int32.toInt z = _) dX10_settle_195 (by decide) (fun c195 => ?_) (fun c195 => ?_)
                                  · skip
                                    refine lv_iconst (v := (-1)) hx hb dX10_settle_202 (by decide) ?_
                                    refine lv_iadd hx hb dX10_settle_203 ?_
                                    refine lv_topi (fun x203 e203 => ?_)
                                    refine sst G X 13 rfl (i32_in (by omega) (by omega)) dX10_settle_204 (fun H locs X => ?_)
                                    refine lv_iconst (v := 0) hx hb dX10_settle_205 (by decide) ?_
                                    refine lv_istore_n (lv' := [(2, .int 0), (5, .int h), (4, .int z), (3, .int j), (1, .int k), (0, .ref (a 0))]) hx hb dX10_settle_206 rfl hl (by decide) rfl (fun ls hl => ?_)
                                    obtain ⟨x207, e207⟩ : ∃ y : Int32, y = j + (1) := ⟨_, rfl⟩
                                    refine lv_iinc (v := x207) (lv' := [(3, .int x207), (2, .int 0), (5, .int h), (4, .int z), (1, .int k), (0, .ref (a 0))]) hx hb dX10_settle_207 hl (k := 3) rfl (by rw [e207]; rfl) (by decide) rfl (fun ls hl => ?_)
                                    refine lv_goto (tgt := 73) hx hb dX10_settle_210 (by decide) ?_
                                    exact ih73 x207 0 (sUp T 13 (upd (T 13) j.toNatClampNeg x203)) _ _ _ (by rw [i32_i e207 (by omega)]; omega) (by first | exact hA4.up (by decide) | exact hA4) (by first | exact hO4 | (rw [sUp_n _ _ (by decide)]; exact hO4)) (by first | exact hQ4 | (rw [sUp_n _ _ (by decide)]; exact hQ4)) (fun r hr => by
                                        have h7 := hP4 r hr
                                        have h8 : x207.toInt = j.toInt + 1 := i32_i e207 (by omega)
                                        first | exact ⟨h7.1, fun hh => h7.2 (by omega)⟩ | skip
                                        all_goals (
                                          have h9 := i32_cl hj
                                          rw [sUp_s]
                                          show (-(k.toInt + 1) ≤ (if r = j.toNatClampNeg then x203 else T 13 r).toInt ∧ (if r = j.toNatClampNeg then x203 else T 13 r).toInt ≤ k.toInt + 1) ∧ (x207.toInt ≤ (r : Int) → -k.toInt ≤ (if r = j.toNatClampNeg then x203 else T 13 r).toInt ∧ (if r = j.toNatClampNeg then x203 else T 13 r).toInt ≤ k.toInt)
                                          by_cases hh : r = j.toNatClampNeg
                                          · rw [if_pos hh]
                                            have h10 := h7.2 (by omega)
                                            rw [hh, ← e192] at h10
                                            have h11 : x203.toInt = x192.toInt + 1 ∨ x203.toInt = x192.toInt - 1 := by first | exact Or.inl (i32_adde e203 (by show _ ≤ x192.toInt + 1; omega) (by show x192.toInt + 1 < _; omega)) | exact Or.inr (i32_d e203 (by omega))
                                            exact ⟨by omega, fun hx2 => by exfalso; omega⟩
                                          · rw [if_neg hh]
                                            exact ⟨h7.1, fun hx2 => h7.2 (by omega)⟩)) (fun hq h0 => by first | exact hC4 hq h0 | (exfalso; exact c180 (by rw [hz9 hq h0]; rfl))) (by rw [i32_i e207 (by omega)]; omega) X (lv_sub hl [0, 1, 4, 5] rfl)
                                  · skip
                                    refine lv_iconst (v := 1) hx hb dX10_settle_198 (by decide) ?_
                                    refine lv_goto (tgt := 203) hx hb dX10_settle_199 (by decide) ?_
                                    refine lv_iadd hx hb dX10_settle_203 ?_
                                    refine lv_topi (fun x203 e203 => ?_)
                                    refine sst G X 13 rfl (i32_in (by omega) (by omega)) dX10_settle_204 (fun H locs X => ?_)
                                    refine lv_iconst (v := 0) hx hb dX10_settle_205 (by decide) ?_
                                    refine lv_istore_n (lv' := [(2, .int 0), (5, .int h), (4, .int z), (3, .int j), (1, .int k), (0, .ref (a 0))]) hx hb dX10_settle_206 rfl hl (by decide) rfl (fun ls hl => ?_)
                                    obtain ⟨x207, e207⟩ : ∃ y : Int32, y = j + (1) := ⟨_, rfl⟩
                                    refine lv_iinc (v := x207) (lv' := [(3, .int x207), (2, .int 0), (5, .int h), (4, .int z), (1, .int k), (0, .ref (a 0))]) hx hb dX10_settle_207 hl (k := 3) rfl (by rw [e207]; rfl) (by decide) rfl (fun ls hl => ?_)
                                    refine lv_goto (tgt := 73) hx hb dX10_settle_210 (by decide) ?_
                                    exact ih73 x207 0 (sUp T 13 (upd (T 13) j.toNatClampNeg x203)) _ _ _ (by rw [i32_i e207 (by omega)]; omega) (by first | exact hA4.up (by decide) | exact hA4) (by first | exact hO4 | (rw [sUp_n _ _ (by decide)]; exact hO4)) (by first | exact hQ4 | (rw [sUp_n _ _ (by decide)]; exact hQ4)) (fun r hr => by
                                        have h7 := hP4 r hr
                                        have h8 : x207.toInt = j.toInt + 1 := i32_i e207 (by omega)
                                        first | exact ⟨h7.1, fun hh => h7.2 (by omega)⟩ | skip
                                        all_goals (
                                          have h9 := i32_cl hj
                                          rw [sUp_s]
                                          show (-(k.toInt + 1) ≤ (if r = j.toNatClampNeg then x203 else T 13 r).toInt ∧ (if r = j.toNatClampNeg then x203 else T 13 r).toInt ≤ k.toInt + 1) ∧ (x207.toInt ≤ (r : Int) → -k.toInt ≤ (if r = j.toNatClampNeg then x203 else T 13 r).toInt ∧ (if r = j.toNatClampNeg then x203 else T 13 r).toInt ≤ k.toInt)
                                          by_cases hh : r = j.toNatClampNeg
                                          · rw [if_pos hh]
                                            have h10 := h7.2 (by omega)
                                            rw [hh, ← e192] at h10
                                            have h11 : x203.toInt = x192.toInt + 1 ∨ x203.toInt = x192.toInt - 1 := by first | exact Or.inl (i32_adde e203 (by show _ ≤ x192.toInt + 1; omega) (by show x192.toInt + 1 < _; omega)) | exact Or.inr (i32_d e203 (by omega))
                                            exact ⟨by omega, fun hx2 => by exfalso; omega⟩
                                          · rw [if_neg hh]
                                            exact ⟨h7.1, fun hx2 => h7.2 (by omega)⟩)) (fun hq h0 => by first | exact hC4 hq h0 | (exfalso; exact c180 (by rw [hz9 hq h0]; rfl))) (by rw [i32_i e207 (by omega)]; omega) X (lv_sub hl [0, 1, 4, 5] rfl)
                                · skip
                                  refine lv_goto (tgt := 207) hx hb dX10_settle_183 (by decide) ?_
                                  obtain ⟨x207, e207⟩ : ∃ y : Int32, y = j + (1) := ⟨_, rfl⟩
                                  refine lv_iinc (v := x207) (lv' := [(3, .int x207), (5, .int h), (4, .int z), (2, .int t), (1, .int k), (0, .ref (a 0))]) hx hb dX10_settle_207 hl (k := 2) rfl (by rw [e207]; rfl) (by decide) rfl (fun ls hl => ?_)
                                  refine lv_goto (tgt := 73) hx hb dX10_settle_210 (by decide) ?_
                                  exact ih73 x207 t T _ _ _ (by rw [i32_i e207 (by omega)]; omega) (by first | exact hA4.up (by decide) | exact hA4) (by first | exact hO4 | (rw [sUp_n _ _ (by decide)]; exact hO4)) (by first | exact hQ4 | (rw [sUp_n _ _ (by decide)]; exact hQ4)) (fun r hr => by
                                      have h7 := hP4 r hr
                                      have h8 : x207.toInt = j.toInt + 1 := i32_i e207 (by omega)
                                      first | exact ⟨h7.1, fun hh => h7.2 (by omega)⟩ | skip
                                      all_goals (
                                        have h9 := i32_cl hj
                                        rw [sUp_s]
                                        show (-(k.toInt + 1) ≤ (if r = j.toNatClampNeg then x203 else T 13 r).toInt ∧ (if r = j.toNatClampNeg then x203 else T 13 r).toInt ≤ k.toInt + 1) ∧ (x207.toInt ≤ (r : Int) → -k.toInt ≤ (if r = j.toNatClampNeg then x203 else T 13 r).toInt ∧ (if r = j.toNatClampNeg then x203 else T 13 r).toInt ≤ k.toInt)
                                        by_cases hh : r = j.toNatClampNeg
                                        · rw [if_pos hh]
                                          have h10 := h7.2 (by omega)
                                          rw [hh, ← e192] at h10
                                          have h11 : x203.toInt = x192.toInt + 1 ∨ x203.toInt = x192.toInt - 1 := by first | exact Or.inl (i32_adde e203 (by show _ ≤ x192.toInt + 1; omega) (by show x192.toInt + 1 < _; omega)) | exact Or.inr (i32_d e203 (by omega))
                                          exact ⟨by omega, fun hx2 => by exfalso; omega⟩
                                        · rw [if_neg hh]
                                          exact ⟨h7.1, fun hx2 => h7.2 (by omega)⟩)) (fun hq h0 => by first | exact hC4 hq h0 | (exfalso; exact c180 (by rw [hz9 hq h0]; rfl))) (by rw [i32_i e207 (by omega)]; omega) X (lv_sub hl [0, 3, 4, 5] rfl)
                              · skip
                                rw [hT0] at c93
                                refine lv_aload_n hx hb dX10_settle_96 rfl (lv_at hl 5 rfl) ?_
                                refine sgR G X 0 7 rfl rfl fl_X10_22 dX10_settle_97 ?_
                                refine lv_iload hx hb dX10_settle_100 (lv_at hl 0 rfl) ?_
                                refine sld G X 5 rfl (i32_in (by omega) (by omega)) dX10_settle_102 ?_
                                refine lv_topi (fun x102 e102 => ?_)
                                refine sZeq (tgt := 172) hx hb (rfl : Int32.toInt x102 = _) dX10_settle_103 (by decide) (fun c103 => ?_) (fun c103 => ?_)
                                · skip
                                  obtain ⟨x172, e172⟩ : ∃ y : Int32, y = h + (1) := ⟨_, rfl⟩
                                  refine lv_iinc (v := x172) (lv' := [(5, .int x172), (4, .int z), (3, .int j), (2, .int t), (1, .int k), (0, .ref (a 0))]) hx hb dX10_settle_172 hl (k := 0) rfl (by rw [e172]; rfl) (by decide) rfl (fun ls hl => ?_)
                                  refine lv_goto (tgt := 87) hx hb dX10_settle_175 (by decide) ?_
                                  exact ih87 x172 z _ _ _ (by rw [i32_i e172 (by omega)]; omega) (fun hq h0 => by first | exact hz9 hq h0 | (rw [e169, hz9 hq h0, e159, p156 (hC5 hq h0)]; rfl) | (rw [e169, hz9 hq h0, p166 (hC5 hq h0)]; rfl)) (by rw [i32_i e172 (by omega)]; omega) X (lv_sub hl [0, 1, 2, 3, 4, 5] rfl)
                                · skip
                                  have hT3 : (T 0 3).toInt = (V 0 3).toInt := by rw [hT0]
                                  refine lv_aload_n hx hb dX10_settle_106 rfl (lv_at hl 5 rfl) ?_
                                  refine sgR G X 0 4 rfl rfl fl_X10_13 dX10_settle_107 ?_
                                  refine lv_iload hx hb dX10_settle_110 (lv_at hl 0 rfl) ?_
                                  refine sld G X 2 rfl (i32_in (by omega) (by omega)) dX10_settle_112 ?_
                                  refine lv_topi (fun x112 e112 => ?_)
                                  refine lv_iload_n hx hb dX10_settle_113 rfl (lv_at hl 2 rfl) ?_
                                  refine sIeq (tgt := 131) hx hb (rfl : Int32.toInt x112 = _) (rfl : Int32.toInt j = _) dX10_settle_114 (by decide) (fun c114 => ?_) (fun c114 => ?_)
                                  · skip
                                    refine lv_iload hx hb dX10_settle_131 (lv_at hl 1 rfl) ?_
                                    refine lv_aload_n hx hb dX10_settle_133 rfl (lv_at hl 5 rfl) ?_
                                    refine lv_iload hx hb dX10_settle_134 (lv_at hl 0 rfl) ?_
                                    refine scI (ci := 9) (As := [.int h]) (rest := [.int z]) G X (k_m_isDoor ha T h (by first | assumption | omega) (by first | assumption | omega)) iy_X10_isDoor ml_X10_129 rfl rfl rfl rfl hl.1 (by decide) (by decide) (Nat.le_of_ble_eq_true rfl) dX10_settle_136 (fun y136 V136 H locs p136 X => ?_)
                                    obtain ⟨p136, z136⟩ := p136
                                    subst V136
                                    refine sZeq (tgt := 163) hx hb (rfl : Int32.toInt y136 = _) dX10_settle_139 (by decide) (fun c139 => ?_) (fun c139 => ?_)
                                    · skip
                                      refine lv_aload_n hx hb dX10_settle_163 rfl (lv_at hl 5 rfl) ?_
                                      refine lv_iload hx hb dX10_settle_164 (lv_at hl 0 rfl) ?_
                                      refine scI (ci := 9) (As := [.int h]) (rest := [.int z]) G X (k_m_flows ha T h (by assumption) (by assumption) (by assumption) (by first | assumption | omega) (by first | assumption | omega)) iy_X10_flows ml_X10_141 rfl rfl rfl rfl hl.1 (by decide) (by decide) (Nat.le_of_ble_eq_true rfl) dX10_settle_166 (fun y166 V166 H locs p166 X => ?_)
                                      obtain ⟨p166, z166⟩ := p166
                                      subst V166
                                      refine lv_iadd hx hb dX10_settle_169 ?_
                                      refine lv_topi (fun x169 e169 => ?_)
                                      refine lv_istore (lv' := [(4, .int x169), (5, .int h), (3, .int j), (2, .int t), (1, .int k), (0, .ref (a 0))]) hx hb dX10_settle_170 hl (by decide) rfl (fun ls hl => ?_)
                                      obtain ⟨x172, e172⟩ : ∃ y : Int32, y = h + (1) := ⟨_, rfl⟩
                                      refine lv_iinc (v := x172) (lv' := [(5, .int x172), (4, .int x169), (3, .int j), (2, .int t), (1, .int k), (0, .ref (a 0))]) hx hb dX10_settle_172 hl (k := 1) rfl (by rw [e172]; rfl) (by decide) rfl (fun ls hl => ?_)
                                      refine lv_goto (tgt := 87) hx hb dX10_settle_175 (by decide) ?_
                                      exact ih87 x172 x169 _ _ _ (by rw [i32_i e172 (by omega)]; omega) (fun hq h0 => by first | exact hz9 hq h0 | (rw [e169, hz9 hq h0, e159, p156 (hC5 hq h0)]; rfl) | (rw [e169, hz9 hq h0, p166 (hC5 hq h0)]; rfl)) (by rw [i32_i e172 (by omega)]; omega) X (lv_sub hl [0, 1, 2, 3, 4, 5] rfl)
                                    · skip
                                      refine lv_aload_n hx hb dX10_settle_142 rfl (lv_at hl 5 rfl) ?_
                                      refine sgR G X 0 4 rfl rfl fl_X10_13 dX10_settle_143 ?_
                                      refine lv_iload hx hb dX10_settle_146 (lv_at hl 0 rfl) ?_
                                      refine sld G X 2 rfl (i32_in (by omega) (by omega)) dX10_settle_148 ?_
                                      refine lv_topi (fun x148 e148 => ?_)
                                      refine lv_iload_n hx hb dX10_settle_149 rfl (lv_at hl 2 rfl) ?_
                                      refine sIne (tgt := 163) hx hb (rfl : Int32.toInt x148 = _) (rfl : Int32.toInt j = _) dX10_settle_150 (by decide) (fun c150 => ?_) (fun c150 => ?_)
                                      · skip
                                        refine lv_aload_n hx hb dX10_settle_163 rfl (lv_at hl 5 rfl) ?_
                                        refine lv_iload hx hb dX10_settle_164 (lv_at hl 0 rfl) ?_
                                        refine scI (ci := 9) (As := [.int h]) (rest := [.int z]) G X (k_m_flows ha T h (by assumption) (by assumption) (by assumption) (by first | assumption | omega) (by first | assumption | omega)) iy_X10_flows ml_X10_141 rfl rfl rfl rfl hl.1 (by decide) (by decide) (Nat.le_of_ble_eq_true rfl) dX10_settle_166 (fun y166 V166 H locs p166 X => ?_)
                                        obtain ⟨p166, z166⟩ := p166
                                        subst V166
                                        refine lv_iadd hx hb dX10_settle_169 ?_
                                        refine lv_topi (fun x169 e169 => ?_)
                                        refine lv_istore (lv' := [(4, .int x169), (5, .int h), (3, .int j), (2, .int t), (1, .int k), (0, .ref (a 0))]) hx hb dX10_settle_170 hl (by decide) rfl (fun ls hl => ?_)
                                        obtain ⟨x172, e172⟩ : ∃ y : Int32, y = h + (1) := ⟨_, rfl⟩
                                        refine lv_iinc (v := x172) (lv' := [(5, .int x172), (4, .int x169), (3, .int j), (2, .int t), (1, .int k), (0, .ref (a 0))]) hx hb dX10_settle_172 hl (k := 1) rfl (by rw [e172]; rfl) (by decide) rfl (fun ls hl => ?_)
                                        refine lv_goto (tgt := 87) hx hb dX10_settle_175 (by decide) ?_
                                        exact ih87 x172 x169 _ _ _ (by rw [i32_i e172 (by omega)]; omega) (fun hq h0 => by first | exact hz9 hq h0 | (rw [e169, hz9 hq h0, e159, p156 (hC5 hq h0)]; rfl) | (rw [e169, hz9 hq h0, p166 (hC5 hq h0)]; rfl)) (by rw [i32_i e172 (by omega)]; omega) X (lv_sub hl [0, 1, 2, 3, 4, 5] rfl)
                                      · skip
                                        refine lv_aload_n hx hb dX10_settle_153 rfl (lv_at hl 5 rfl) ?_
                                        refine lv_iload hx hb dX10_settle_154 (lv_at hl 0 rfl) ?_
                                        refine scI (ci := 9) (As := [.int h]) (rest := [.int z]) G X (k_m_flows ha T h (by assumption) (by assumption) (by assumption) (by first | assumption | omega) (by first | assumption | omega)) iy_X10_flows ml_X10_141 rfl rfl rfl rfl hl.1 (by decide) (by decide) (Nat.le_of_ble_eq_true rfl) dX10_settle_156 (fun y156 V156 H locs p156 X => ?_)
                                        obtain ⟨p156, z156⟩ := p156
                                        subst V156
                                        refine lv_ineg hx hb dX10_settle_159 ?_
                                        refine lv_topi (fun x159 e159 => ?_)
                                        refine lv_goto (tgt := 169) hx hb dX10_settle_160 (by decide) ?_
                                        refine lv_iadd hx hb dX10_settle_169 ?_
                                        refine lv_topi (fun x169 e169 => ?_)
                                        refine lv_istore (lv' := [(4, .int x169), (5, .int h), (3, .int j), (2, .int t), (1, .int k), (0, .ref (a 0))]) hx hb dX10_settle_170 hl (by decide) rfl (fun ls hl => ?_)
                                        obtain ⟨x172, e172⟩ : ∃ y : Int32, y = h + (1) := ⟨_, rfl⟩
                                        refine lv_iinc (v := x172) (lv' := [(5, .int x172), (4, .int x169), (3, .int j), (2, .int t), (1, .int k), (0, .ref (a 0))]) hx hb dX10_settle_172 hl (k := 1) rfl (by rw [e172]; rfl) (by decide) rfl (fun ls hl => ?_)
                                        refine lv_goto (tgt := 87) hx hb dX10_settle_175 (by decide) ?_
                                        exact ih87 x172 x169 _ _ _ (by rw [i32_i e172 (by omega)]; omega) (fun hq h0 => by first | exact hz9 hq h0 | (rw [e169, hz9 hq h0, e159, p156 (hC5 hq h0)]; rfl) | (rw [e169, hz9 hq h0, p166 (hC5 hq h0)]; rfl)) (by rw [i32_i e172 (by omega)]; omega) X (lv_sub hl [0, 1, 2, 3, 4, 5] rfl)
                                  · skip
                                    refine lv_aload_n hx hb dX10_settle_117 rfl (lv_at hl 5 rfl) ?_
                                    refine sgR G X 0 5 rfl rfl fl_X10_16 dX10_settle_118 ?_
                                    refine lv_iload hx hb dX10_settle_121 (lv_at hl 0 rfl) ?_
                                    refine sld G X 3 rfl (i32_in (by omega) (by omega)) dX10_settle_123 ?_
                                    refine lv_topi (fun x123 e123 => ?_)
                                    refine lv_iload_n hx hb dX10_settle_124 rfl (lv_at hl 2 rfl) ?_
                                    refine sIeq (tgt := 131) hx hb (rfl : Int32.toInt x123 = _) (rfl : Int32.toInt j = _) dX10_settle_125 (by decide) (fun c125 => ?_) (fun c125 => ?_)
                                    · skip
                                      refine lv_iload hx hb dX10_settle_131 (lv_at hl 1 rfl) ?_
                                      refine lv_aload_n hx hb dX10_settle_133 rfl (lv_at hl 5 rfl) ?_
                                      refine lv_iload hx hb dX10_settle_134 (lv_at hl 0 rfl) ?_
                                      refine scI (ci := 9) (As := [.int h]) (rest := [.int z]) G X (k_m_isDoor ha T h (by first | assumption | omega) (by first | assumption | omega)) iy_X10_isDoor ml_X10_129 rfl rfl rfl rfl hl.1 (by decide) (by decide) (Nat.le_of_ble_eq_true rfl) dX10_settle_136 (fun y136 V136 H locs p136 X => ?_)
                                      obtain ⟨p136, z136⟩ := p136
                                      subst V136
                                      refine sZeq (tgt := 163) hx hb (rfl : Int32.toInt y136 = _) dX10_settle_139 (by decide) (fun c139 => ?_) (fun c139 => ?_)
                                      · skip
                                        refine lv_aload_n hx hb dX10_settle_163 rfl (lv_at hl 5 rfl) ?_
                                        refine lv_iload hx hb dX10_settle_164 (lv_at hl 0 rfl) ?_
                                        refine scI (ci := 9) (As := [.int h]) (rest := [.int z]) G X (k_m_flows ha T h (by assumption) (by assumption) (by assumption) (by first | assumption | omega) (by first | assumption | omega)) iy_X10_flows ml_X10_141 rfl rfl rfl rfl hl.1 (by decide) (by decide) (Nat.le_of_ble_eq_true rfl) dX10_settle_166 (fun y166 V166 H locs p166 X => ?_)
                                        obtain ⟨p166, z166⟩ := p166
                                        subst V166
                                        refine lv_iadd hx hb dX10_settle_169 ?_
                                        refine lv_topi (fun x169 e169 => ?_)
                                        refine lv_istore (lv' := [(4, .int x169), (5, .int h), (3, .int j), (2, .int t), (1, .int k), (0, .ref (a 0))]) hx hb dX10_settle_170 hl (by decide) rfl (fun ls hl => ?_)
                                        obtain ⟨x172, e172⟩ : ∃ y : Int32, y = h + (1) := ⟨_, rfl⟩
                                        refine lv_iinc (v := x172) (lv' := [(5, .int x172), (4, .int x169), (3, .int j), (2, .int t), (1, .int k), (0, .ref (a 0))]) hx hb dX10_settle_172 hl (k := 1) rfl (by rw [e172]; rfl) (by decide) rfl (fun ls hl => ?_)
                                        refine lv_goto (tgt := 87) hx hb dX10_settle_175 (by decide) ?_
                                        exact ih87 x172 x169 _ _ _ (by rw [i32_i e172 (by omega)]; omega) (fun hq h0 => by first | exact hz9 hq h0 | (rw [e169, hz9 hq h0, e159, p156 (hC5 hq h0)]; rfl) | (rw [e169, hz9 hq h0, p166 (hC5 hq h0)]; rfl)) (by rw [i32_i e172 (by omega)]; omega) X (lv_sub hl [0, 1, 2, 3, 4, 5] rfl)
                                      · skip
                                        refine lv_aload_n hx hb dX10_settle_142 rfl (lv_at hl 5 rfl) ?_
                                        refine sgR G X 0 4 rfl rfl fl_X10_13 dX10_settle_143 ?_
                                        refine lv_iload hx hb dX10_settle_146 (lv_at hl 0 rfl) ?_
                                        refine sld G X 2 rfl (i32_in (by omega) (by omega)) dX10_settle_148 ?_
                                        refine lv_topi (fun x148 e148 => ?_)
                                        refine lv_iload_n hx hb dX10_settle_149 rfl (lv_at hl 2 rfl) ?_
                                        refine sIne (tgt := 163) hx hb (rfl : Int32.toInt x148 = _) (rfl : Int32.toInt j = _) dX10_settle_150 (by decide) (fun c150 => ?_) (fun c150 => ?_)
                                        · skip
                                          refine lv_aload_n hx hb dX10_settle_163 rfl (lv_at hl 5 rfl) ?_
                                          refine lv_iload hx hb dX10_settle_164 (lv_at hl 0 rfl) ?_
                                          refine scI (ci := 9) (As := [.int h]) (rest := [.int z]) G X (k_m_flows ha T h (by assumption) (by assumption) (by assumption) (by first | assumption | omega) (by first | assumption | omega)) iy_X10_flows ml_X10_141 rfl rfl rfl rfl hl.1 (by decide) (by decide) (Nat.le_of_ble_eq_true rfl) dX10_settle_166 (fun y166 V166 H locs p166 X => ?_)
                                          obtain ⟨p166, z166⟩ := p166
                                          subst V166
                                          refine lv_iadd hx hb dX10_settle_169 ?_
                                          refine lv_topi (fun x169 e169 => ?_)
                                          refine lv_istore (lv' := [(4, .int x169), (5, .int h), (3, .int j), (2, .int t), (1, .int k), (0, .ref (a 0))]) hx hb dX10_settle_170 hl (by decide) rfl (fun ls hl => ?_)
                                          obtain ⟨x172, e172⟩ : ∃ y : Int32, y = h + (1) := ⟨_, rfl⟩
                                          refine lv_iinc (v := x172) (lv' := [(5, .int x172), (4, .int x169), (3, .int j), (2, .int t), (1, .int k), (0, .ref (a 0))]) hx hb dX10_settle_172 hl (k := 1) rfl (by rw [e172]; rfl) (by decide) rfl (fun ls hl => ?_)
                                          refine lv_goto (tgt := 87) hx hb dX10_settle_175 (by decide) ?_
                                          exact ih87 x172 x169 _ _ _ (by rw [i32_i e172 (by omega)]; omega) (fun hq h0 => by first | exact hz9 hq h0 | (rw [e169, hz9 hq h0, e159, p156 (hC5 hq h0)]; rfl) | (rw [e169, hz9 hq h0, p166 (hC5 hq h0)]; rfl)) (by rw [i32_i e172 (by omega)]; omega) X (lv_sub hl [0, 1, 2, 3, 4, 5] rfl)
                                        · skip
                                          refine lv_aload_n hx hb dX10_settle_153 rfl (lv_at hl 5 rfl) ?_
                                          refine lv_iload hx hb dX10_settle_154 (lv_at hl 0 rfl) ?_
                                          refine scI (ci := 9) (As := [.int h]) (rest := [.int z]) G X (k_m_flows ha T h (by assumption) (by assumption) (by assumption) (by first | assumption | omega) (by first | assumption | omega)) iy_X10_flows ml_X10_141 rfl rfl rfl rfl hl.1 (by decide) (by decide) (Nat.le_of_ble_eq_true rfl) dX10_settle_156 (fun y156 V156 H locs p156 X => ?_)
                                          obtain ⟨p156, z156⟩ := p156
                                          subst V156
                                          refine lv_ineg hx hb dX10_settle_159 ?_
                                          refine lv_topi (fun x159 e159 => ?_)
                                          refine lv_goto (tgt := 169) hx hb dX10_settle_160 (by decide) ?_
                                          refine lv_iadd hx hb dX10_settle_169 ?_
                                          refine lv_topi (fun x169 e169 => ?_)
                                          refine lv_istore (lv' := [(4, .int x169), (5, .int h), (3, .int j), (2, .int t), (1, .int k), (0, .ref (a 0))]) hx hb dX10_settle_170 hl (by decide) rfl (fun ls hl => ?_)
                                          obtain ⟨x172, e172⟩ : ∃ y : Int32, y = h + (1) := ⟨_, rfl⟩
                                          refine lv_iinc (v := x172) (lv' := [(5, .int x172), (4, .int x169), (3, .int j), (2, .int t), (1, .int k), (0, .ref (a 0))]) hx hb dX10_settle_172 hl (k := 1) rfl (by rw [e172]; rfl) (by decide) rfl (fun ls hl => ?_)
                                          refine lv_goto (tgt := 87) hx hb dX10_settle_175 (by decide) ?_
                                          exact ih87 x172 x169 _ _ _ (by rw [i32_i e172 (by omega)]; omega) (fun hq h0 => by first | exact hz9 hq h0 | (rw [e169, hz9 hq h0, e159, p156 (hC5 hq h0)]; rfl) | (rw [e169, hz9 hq h0, p166 (hC5 hq h0)]; rfl)) (by rw [i32_i e172 (by omega)]; omega) X (lv_sub hl [0, 1, 2, 3, 4, 5] rfl)
                                    · skip
                                      refine lv_goto (tgt := 172) hx hb dX10_settle_128 (by decide) ?_
                                      obtain ⟨x172, e172⟩ : ∃ y : Int32, y = h + (1) := ⟨_, rfl⟩
                                      refine lv_iinc (v := x172) (lv' := [(5, .int x172), (4, .int z), (3, .int j), (2, .int t), (1, .int k), (0, .ref (a 0))]) hx hb dX10_settle_172 hl (k := 0) rfl (by rw [e172]; rfl) (by decide) rfl (fun ls hl => ?_)
                                      refine lv_goto (tgt := 87) hx hb dX10_settle_175 (by decide) ?_
                                      exact ih87 x172 z _ _ _ (by rw [i32_i e172 (by omega)]; omega) (fun hq h0 => by first | exact hz9 hq h0 | (rw [e169, hz9 hq h0, e159, p156 (hC5 hq h0)]; rfl) | (rw [e169, hz9 hq h0, p166 (hC5 hq h0)]; rfl)) (by rw [i32_i e172 (by omega)]; omega) X (lv_sub hl [0, 1, 2, 3, 4, 5] rfl)
                          exact L87 _ 0 0 _ _ _ (by decide) (fun _ _ => rfl) (Nat.lt_succ_self _) X (lv_sub hl [0, 1, 2, 3, 4, 5] rfl)
                    exact L73 _ 0 1 U _ _ _ (by decide) (hA3) (hO3) (hQ3) (fun r hr => by have := hP3 r hr; exact ⟨by omega, fun _ => this⟩) (hC3) (Nat.lt_succ_self _) X (lv_sub hl [0, 1, 2, 3] rfl)
              exact L62 _ 0 Z _ _ _ (by decide) (hA2) (hO2) (hQ2) (fun r hr => by rw [hz r (by omega)]; decide) (fun _ _ r hr => hz r (by omega)) (Nat.lt_succ_self _) X (lv_sub hl [0, 1] rfl)
            · skip
              refine lv_aload_n hx hb dX10_settle_47 rfl (lv_at hl 1 rfl) ?_
              refine sgR G X 0 18 rfl rfl fl_X10_46 dX10_settle_48 ?_
              refine lv_iload_n hx hb dX10_settle_51 rfl (lv_at hl 0 rfl) ?_
              refine lv_iconst (v := 0) hx hb dX10_settle_52 (by decide) ?_
              refine sst G X 13 rfl (i32_in (by omega) (by omega)) dX10_settle_53 (fun H locs X => ?_)
              obtain ⟨x54, e54⟩ : ∃ y : Int32, y = b + (1) := ⟨_, rfl⟩
              refine lv_iinc (v := x54) (lv' := [(1, .int x54), (0, .ref (a 0))]) hx hb dX10_settle_54 hl (k := 0) rfl (by rw [e54]; rfl) (by decide) rfl (fun ls hl => ?_)
              refine lv_goto (tgt := 41) hx hb dX10_settle_57 (by decide) ?_
              exact ih41 x54 (sUp Z 13 (upd (Z 13) b.toNatClampNeg 0)) _ _ _ (by rw [i32_i e54 (by omega)]; omega) (hA2.up (by decide)) (by rw [sUp_n _ _ (by decide)]; exact hO2) (by rw [sUp_n _ _ (by decide)]; exact hQ2) (by rw [i32_i e54 (by omega), sUp_s]; exact upd_lt (P := fun x => x = 0) hb1 hz rfl) (by rw [i32_i e54 (by omega)]; omega) X (lv_sub hl [0, 1] rfl)
        exact L41 _ 0 Y _ _ _ (by decide) (hA.mono (by decide)) (fun h hh => hO h (by omega)) (fun hq h hh => hQ hq h (by omega)) (fun r hr => absurd hr (by show ¬ (r : Int) < 0; omega)) (Nat.lt_succ_self _) X (lv_sub hl [0, 1] rfl)
      · skip
        rw [hA 0 (by decide)] at c7
        refine lv_aload_n hx hb dX10_settle_10 rfl (lv_at hl 1 rfl) ?_
        refine sgR G X 0 19 rfl rfl fl_X10_49 dX10_settle_11 ?_
        refine lv_iload_n hx hb dX10_settle_14 rfl (lv_at hl 0 rfl) ?_
        refine lv_aload_n hx hb dX10_settle_15 rfl (lv_at hl 1 rfl) ?_
        refine lv_iload_n hx hb dX10_settle_16 rfl (lv_at hl 0 rfl) ?_
        refine scI (ci := 9) (As := [.int i]) (rest := [.int i, .ref (a 14)]) G X (k_m_isDoor ha Y i (by first | assumption | omega) (by first | assumption | omega)) iy_X10_isDoor ml_X10_129 rfl rfl rfl rfl hl.1 (by decide) (by decide) (Nat.le_of_ble_eq_true rfl) dX10_settle_17 (fun y17 V17 H locs p17 X => ?_)
        obtain ⟨p17, z17⟩ := p17
        subst V17
        refine sZeq (tgt := 27) hx hb (rfl : Int32.toInt y17 = _) dX10_settle_20 (by decide) (fun c20 => ?_) (fun c20 => ?_)
        · skip
          refine lv_aload_n hx hb dX10_settle_27 rfl (lv_at hl 1 rfl) ?_
          refine lv_iload_n hx hb dX10_settle_28 rfl (lv_at hl 0 rfl) ?_
          refine scI (ci := 9) (As := [.int i]) (rest := [.int i, .ref (a 14)]) G X (k_m_outsidePush ha Y i (by assumption) (by first | assumption | omega) (by first | assumption | omega)) iy_X10_outsidePush ml_X10_138 rfl rfl rfl rfl hl.1 (by decide) (by decide) (Nat.le_of_ble_eq_true rfl) dX10_settle_29 (fun y29 V29 H locs p29 X => ?_)
          obtain ⟨p29, z29⟩ := p29
          subst V29
          refine sst G X 14 rfl (i32_in (by omega) (by omega)) dX10_settle_32 (fun H locs X => ?_)
          obtain ⟨x33, e33⟩ : ∃ y : Int32, y = i + (1) := ⟨_, rfl⟩
          refine lv_iinc (v := x33) (lv' := [(1, .int x33), (0, .ref (a 0))]) hx hb dX10_settle_33 hl (k := 0) rfl (by rw [e33]; rfl) (by decide) rfl (fun ls hl => ?_)
          refine lv_goto (tgt := 2) hx hb dX10_settle_36 (by decide) ?_
          exact ih2 x33 (sUp Y 14 (upd (Y 14) i.toNatClampNeg y29)) _ _ _ (by rw [i32_i e33 (by have := i32_hi (V 0 3); omega)]; omega) (hA.up (by decide)) (by rw [i32_i e33 (by omega), sUp_s]; exact upd_lt (P := fun x => -1100 ≤ Int32.toInt x ∧ Int32.toInt x ≤ 1100) hi hO (by first | decide | exact p29.1)) (fun hq => by rw [i32_i e33 (by omega), sUp_s]; exact upd_lt (P := fun x => x = 0) hi (hQ hq) (by first | rfl | exact p29.2 (by rw [hA 10 (by decide)]; exact hq.1) (by rw [hA 4 (by decide)]; exact (hq.2 _ (by have := i32_cl hi; omega)).1) (by rw [hA 6 (by decide)]; exact (hq.2 _ (by have := i32_cl hi; omega)).2))) (by rw [i32_i e33 (by have := i32_hi (V 0 3); omega)]; omega) X (lv_sub hl [0, 1] rfl)
        · skip
          refine lv_iconst (v := 0) hx hb dX10_settle_23 (by decide) ?_
          refine lv_goto (tgt := 32) hx hb dX10_settle_24 (by decide) ?_
          refine sst G X 14 rfl (i32_in (by omega) (by omega)) dX10_settle_32 (fun H locs X => ?_)
          obtain ⟨x33, e33⟩ : ∃ y : Int32, y = i + (1) := ⟨_, rfl⟩
          refine lv_iinc (v := x33) (lv' := [(1, .int x33), (0, .ref (a 0))]) hx hb dX10_settle_33 hl (k := 0) rfl (by rw [e33]; rfl) (by decide) rfl (fun ls hl => ?_)
          refine lv_goto (tgt := 2) hx hb dX10_settle_36 (by decide) ?_
          exact ih2 x33 (sUp Y 14 (upd (Y 14) i.toNatClampNeg 0)) _ _ _ (by rw [i32_i e33 (by have := i32_hi (V 0 3); omega)]; omega) (hA.up (by decide)) (by rw [i32_i e33 (by omega), sUp_s]; exact upd_lt (P := fun x => -1100 ≤ Int32.toInt x ∧ Int32.toInt x ≤ 1100) hi hO (by first | decide | exact p29.1)) (fun hq => by rw [i32_i e33 (by omega), sUp_s]; exact upd_lt (P := fun x => x = 0) hi (hQ hq) (by first | rfl | exact p29.2 (by rw [hA 10 (by decide)]; exact hq.1) (by rw [hA 4 (by decide)]; exact (hq.2 _ (by have := i32_cl hi; omega)).1) (by rw [hA 6 (by decide)]; exact (hq.2 _ (by have := i32_cl hi; omega)).2))) (by rw [i32_i e33 (by have := i32_hi (V 0 3); omega)]; omega) X (lv_sub hl [0, 1] rfl)
  exact L2 _ 0 V _ _ _ (by decide) (sAg.rf) (fun h hh => absurd hh (by show ¬ (h : Int) < 0; omega)) (fun _ h hh => absurd hh (by show ¬ (h : Int) < 0; omega)) (Nat.lt_succ_self _) X (lv_sub hl [0, 1] rfl)
def q_m_flowsIn (V : sV) : Int32 → sV → Prop := fun x V1 => sAg [13, 14] V V1 ∧ mP V1 ∧ mO V1 ∧ (mQuiet V → V 15 0 = 0 → x = 0)
set_option maxRecDepth 100000 in
set_option maxHeartbeats 4000000 in
theorem k_m_flowsIn {l : Launch} {D : va_G} {cI : ClassId} {a : Nat → Nat} (ha : sInj SM a) (V : sV) (hm : mI V) : sMI l D cI SM a V yX10_flowsIn cX10_flowsIn 3 .int 3 [.ref (a 0)] (q_m_flowsIn V) := by
  refine sMIof ha (by decide +kernel) (Nat.le_of_ble_eq_true rfl) ?_
  intro p e s m below meth c ls G X hl
  obtain ⟨hx, hb, hml, hown, hts, hlocks, hr, hK⟩ := id G
  have hl : lv_has ls 3 [(0, .ref (a 0))] := hl
  obtain ⟨mf0, mf1, mf3, mf11, mf14, mf15⟩ := hm.1
  refine lv_aload_n hx hb dX10_flowsIn_0 rfl (lv_at hl 0 rfl) ?_
  refine scV (ci := 9) (As := []) (rest := []) G X (k_m_settle ha V (by assumption)) iy_X10_settle ml_X10_144 rfl rfl rfl rfl hl.1 (by decide) (by decide) (Nat.le_of_ble_eq_true rfl) dX10_flowsIn_1 (fun V1 H locs p1 X => ?_)
  obtain ⟨hA, hP, hO, hC⟩ := p1
  have hm1 : mI V1 := hm.ag hA (by decide)
  have hV0 : V1 0 = V 0 := hA 0 (by decide)
  refine lv_iconst (v := 0) hx hb dX10_flowsIn_4 (by decide) ?_
  refine lv_istore_n (lv' := [(1, .int 0), (0, .ref (a 0))]) hx hb dX10_flowsIn_5 rfl hl (by decide) rfl (fun ls hl => ?_)
  refine lv_iconst (v := 0) hx hb dX10_flowsIn_6 (by decide) ?_
  refine lv_istore_n (lv' := [(2, .int 0), (1, .int 0), (0, .ref (a 0))]) hx hb dX10_flowsIn_7 rfl hl (by decide) rfl (fun ls hl => ?_)
  have L8 : ∀ (fu8 : Nat) (i : Int32) (z : Int32) (H : Heap) (locs : List Loc) (ls : Array Slot), (0 ≤ i.toInt) → (mQuiet V → V 15 0 = 0 → z = 0) → (((V 0 3).toInt - i.toInt).toNat) < fu8 → sWS D cI SM a V1 s.heap H locs → lv_has ls 3 [(2, .int i), (1, .int z), (0, .ref (a 0))] → W p l e (rmD 3) s m ([.ref (a 0)] : List Value).toArray below meth c H locs 0 0 (MQ below (va_Qi (q_m_flowsIn V) (fun V1 t => va_P D vwCl (sWd cI SM a V1) t.heap) (sA SM a s.heap.size)) ([.ref (a 0)] : List Value).toArray s 0 0 (sA SM a s.heap.size)) (F0 m 8 ls []) := by
    intro fu8
    induction fu8 with
    | zero => intro i z H locs ls hi hz hm8; exact absurd hm8 (Nat.not_lt_zero _)
    | succ fu8 ih8 =>
      intro i z H locs ls hi hz hm8 X hl
      refine lv_iload_n hx hb dX10_flowsIn_8 rfl (lv_at hl 0 rfl) ?_
      refine lv_aload_n hx hb dX10_flowsIn_9 rfl (lv_at hl 2 rfl) ?_
      refine sgI G X 0 3 rfl rfl fl_X10_65 dX10_flowsIn_10 ?_
      refine sIge (tgt := 42) hx hb (rfl : Int32.toInt i = _) (rfl : Int32.toInt (V1 0 3) = _) dX10_flowsIn_13 (by decide) (fun c13 => ?_) (fun c13 => ?_)
      · skip
        rw [hV0] at c13
        refine lv_iload_n hx hb dX10_flowsIn_42 rfl (lv_at hl 1 rfl) ?_
        exact srI G X (rfl) dX10_flowsIn_43 (by exact ⟨hA, hP, hO, hz⟩)
      · skip
        rw [hV0] at c13
        have hV3 : (V1 0 3).toInt = (V 0 3).toInt := by rw [hV0]
        refine lv_aload_n hx hb dX10_flowsIn_16 rfl (lv_at hl 2 rfl) ?_
        refine lv_iload_n hx hb dX10_flowsIn_17 rfl (lv_at hl 0 rfl) ?_
        refine scI (ci := 9) (As := [.int i]) (rest := []) G X (k_m_isDoor ha V1 i (by first | assumption | omega) (by first | assumption | omega)) iy_X10_isDoor ml_X10_129 rfl rfl rfl rfl hl.1 (by decide) (by decide) (Nat.le_of_ble_eq_true rfl) dX10_flowsIn_18 (fun y18 V18 H locs p18 X => ?_)
        obtain ⟨p18, z18⟩ := p18
        subst V18
        refine sZne (tgt := 36) hx hb (rfl : Int32.toInt y18 = _) dX10_flowsIn_21 (by decide) (fun c21 => ?_) (fun c21 => ?_)
        · skip
          obtain ⟨x36, e36⟩ : ∃ y : Int32, y = i + (1) := ⟨_, rfl⟩
          refine lv_iinc (v := x36) (lv' := [(2, .int x36), (1, .int z), (0, .ref (a 0))]) hx hb dX10_flowsIn_36 hl (k := 0) rfl (by rw [e36]; rfl) (by decide) rfl (fun ls hl => ?_)
          refine lv_goto (tgt := 8) hx hb dX10_flowsIn_39 (by decide) ?_
          exact ih8 x36 z _ _ _ (by rw [i32_i e36 (by have := i32_hi (V 0 3); omega)]; omega) (fun hq h0 => by first | exact hz hq h0 | (rw [e34, hz hq h0, sMax0b (p28 (hC hq h0)) e31]; rfl)) (by rw [i32_i e36 (by have := i32_hi (V 0 3); omega)]; omega) X (lv_sub hl [0, 1, 2] rfl)
        · skip
          refine lv_iload_n hx hb dX10_flowsIn_24 rfl (lv_at hl 1 rfl) ?_
          refine lv_iconst (v := 0) hx hb dX10_flowsIn_25 (by decide) ?_
          refine lv_aload_n hx hb dX10_flowsIn_26 rfl (lv_at hl 2 rfl) ?_
          refine lv_iload_n hx hb dX10_flowsIn_27 rfl (lv_at hl 0 rfl) ?_
          refine scI (ci := 9) (As := [.int i]) (rest := [.int 0, .int z]) G X (k_m_flows ha V1 i (by assumption) (by assumption) (by assumption) (by first | assumption | omega) (by first | assumption | omega)) iy_X10_flows ml_X10_141 rfl rfl rfl rfl hl.1 (by decide) (by decide) (Nat.le_of_ble_eq_true rfl) dX10_flowsIn_28 (fun y28 V28 H locs p28 X => ?_)
          obtain ⟨p28, z28⟩ := p28
          subst V28
          refine sMax hx hb hml hl.1 hown hts mm_X10_100 (by decide) (Nat.le_of_ble_eq_true rfl) dX10_flowsIn_31 (fun x31 e31 => ?_)
          refine lv_iadd hx hb dX10_flowsIn_34 ?_
          refine lv_topi (fun x34 e34 => ?_)
          refine lv_istore_n (lv' := [(1, .int x34), (2, .int i), (0, .ref (a 0))]) hx hb dX10_flowsIn_35 rfl hl (by decide) rfl (fun ls hl => ?_)
          obtain ⟨x36, e36⟩ : ∃ y : Int32, y = i + (1) := ⟨_, rfl⟩
          refine lv_iinc (v := x36) (lv' := [(2, .int x36), (1, .int x34), (0, .ref (a 0))]) hx hb dX10_flowsIn_36 hl (k := 1) rfl (by rw [e36]; rfl) (by decide) rfl (fun ls hl => ?_)
          refine lv_goto (tgt := 8) hx hb dX10_flowsIn_39 (by decide) ?_
          exact ih8 x36 x34 _ _ _ (by rw [i32_i e36 (by have := i32_hi (V 0 3); omega)]; omega) (fun hq h0 => by first | exact hz hq h0 | (rw [e34, hz hq h0, sMax0b (p28 (hC hq h0)) e31]; rfl)) (by rw [i32_i e36 (by have := i32_hi (V 0 3); omega)]; omega) X (lv_sub hl [0, 1, 2] rfl)
  exact L8 _ 0 0 _ _ _ (by decide) (fun _ _ => rfl) (Nat.lt_succ_self _) X (lv_sub hl [0, 1, 2] rfl)
