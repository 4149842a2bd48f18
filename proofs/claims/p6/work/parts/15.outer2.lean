def q_best (V : sV) (q w : Int32) : Int32 → sV → Prop := fun x V1 => sAg [1, 39, 40, 41, 42, 43, 44] V V1 ∧ (sFr V → x = fBest q w)
set_option maxRecDepth 100000 in
set_option maxHeartbeats 4000000 in
theorem k_best {l : Launch} {D : va_G} {cI : ClassId} {a : Nat → Nat} (ha : sInj SX a) (V : sV) (q w : Int32) : sMI l D cI SX a V yX9_best cX9_best 8 .int 5 [.ref (a 0), .int q, .int w] (q_best V q w) := by
  refine sMIof ha (by decide +kernel) (Nat.le_of_ble_eq_true rfl) ?_
  intro p e s m below meth c ls G X hl
  obtain ⟨hx, hb, hml, hown, hts, hlocks, hr, hK⟩ := id G
  have hl : lv_has ls 8 [(0, .ref (a 0)), (1, .int q), (2, .int w)] := hl
  refine lv_iload_n hx hb dX9_best_0 rfl (lv_at hl 2 rfl) ?_
  refine sZlt (tgt := 9) hx hb (rfl : Int32.toInt w = _) dX9_best_1 (by decide) (fun c1 => ?_) (fun c1 => ?_)
  · skip
    refine lv_aload_n hx hb dX9_best_9 rfl (lv_at hl 0 rfl) ?_
    refine lv_bipush (v := (-2)) hx hb dX9_best_10 (by decide) ?_
    refine scI (ci := 8) (As := [.int (-2)]) (rest := []) G X (k_refuse ha V (-2)) iy_X9_refuse ml_X9_57 rfl rfl rfl rfl hl.1 (by decide) (by decide) (Nat.le_of_ble_eq_true rfl) dX9_best_12 (fun y12 V12 H locs p12 X => ?_)
    exact srI G X (rfl) dX9_best_15 (by exact ⟨sAg.mono p12.1 (by decide), (fun hf => by have hg := hf.t; rw [p12.2]; unfold fBest; (repeat' split) <;> first | rfl | (exfalso; omega))⟩)
  · skip
    refine lv_iload_n hx hb dX9_best_4 rfl (lv_at hl 2 rfl) ?_
    refine lv_iconst (v := 1) hx hb dX9_best_5 (by decide) ?_
    refine sIle (tgt := 16) hx hb (rfl : Int32.toInt w = _) (by decide : (1 : Int32).toInt = 1) dX9_best_6 (by decide) (fun c6 => ?_) (fun c6 => ?_)
    · skip
      refine lv_iload_n hx hb dX9_best_16 rfl (lv_at hl 1 rfl) ?_
      refine sZge (tgt := 27) hx hb (rfl : Int32.toInt q = _) dX9_best_17 (by decide) (fun c17 => ?_) (fun c17 => ?_)
      · skip
        refine lv_iload_n hx hb dX9_best_27 rfl (lv_at hl 1 rfl) ?_
        refine lv_bipush (v := 99) hx hb dX9_best_28 (by decide) ?_
        refine sIle (tgt := 40) hx hb (rfl : Int32.toInt q = _) (by decide : (99 : Int32).toInt = 99) dX9_best_30 (by decide) (fun c30 => ?_) (fun c30 => ?_)
        · skip
          refine lv_bipush (v := (-9)) hx hb dX9_best_40 (by decide) ?_
          refine lv_istore_n (lv' := [(3, .int (-9)), (0, .ref (a 0)), (1, .int q), (2, .int w)]) hx hb dX9_best_42 rfl hl (by decide) rfl (fun ls hl => ?_)
          refine lv_bipush (v := (-9)) hx hb dX9_best_43 (by decide) ?_
          refine lv_istore (lv' := [(4, .int (-9)), (3, .int (-9)), (0, .ref (a 0)), (1, .int q), (2, .int w)]) hx hb dX9_best_45 hl (by decide) rfl (fun ls hl => ?_)
          refine lv_iconst (v := 1) hx hb dX9_best_47 (by decide) ?_
          refine lv_aload_n hx hb dX9_best_48 rfl (lv_at hl 2 rfl) ?_
          refine sgR G X 0 0 rfl rfl fl_X9_10 dX9_best_49 ?_
          refine sgR G X 2 1 rfl rfl fl_X9_89 dX9_best_52 ?_
          refine sgI G X 3 7 rfl rfl fl_X9_190 dX9_best_55 ?_
          refine lv_ishl hx hb dX9_best_58 ?_
          refine lv_topi (fun x58 e58 => ?_)
          refine lv_istore (lv' := [(5, .int x58), (4, .int (-9)), (3, .int (-9)), (0, .ref (a 0)), (1, .int q), (2, .int w)]) hx hb dX9_best_59 hl (by decide) rfl (fun ls hl => ?_)
          refine lv_iconst (v := 0) hx hb dX9_best_61 (by decide) ?_
          refine lv_istore (lv' := [(6, .int 0), (5, .int x58), (4, .int (-9)), (3, .int (-9)), (0, .ref (a 0)), (1, .int q), (2, .int w)]) hx hb dX9_best_62 hl (by decide) rfl (fun ls hl => ?_)
          have L64 : ∀ (fu64 : Nat) (i : Int32) (b : Int32) (g : Int32) (Y : sV) (H : Heap) (locs : List Loc) (ls : Array Slot), (0 ≤ i.toInt) → (sAg [39, 40, 41, 42, 43, 44] V Y) → (sFr V → x58.toInt = 1 ∧ ((i.toInt = 0 ∧ b.toInt = -9) ∨ (i.toInt = 1 ∧ b.toInt = 0 ∧ g.toInt = 0))) → (((x58).toInt - i.toInt).toNat) < fu64 → sWS D cI SX a Y s.heap H locs → lv_has ls 8 [(6, .int i), (5, .int x58), (4, .int g), (3, .int b), (0, .ref (a 0)), (1, .int q), (2, .int w)] → W p l e (rmD 5) s m ([.ref (a 0), .int q, .int w] : List Value).toArray below meth c H locs 0 0 (MQ below (va_Qi (q_best V q w) (fun V1 t => va_P D vwCl (sWd cI SX a V1) t.heap) (sA SX a s.heap.size)) ([.ref (a 0), .int q, .int w] : List Value).toArray s 0 0 (sA SX a s.heap.size)) (F0 m 64 ls []) := by
            intro fu64
            induction fu64 with
            | zero => intro i b g Y H locs ls hi hA hv hm64; exact absurd hm64 (Nat.not_lt_zero _)
            | succ fu64 ih64 =>
              intro i b g Y H locs ls hi hA hv hm64 X hl
              refine lv_iload hx hb dX9_best_64 (lv_at hl 0 rfl) ?_
              refine lv_iload hx hb dX9_best_66 (lv_at hl 1 rfl) ?_
              refine sIge (tgt := 131) hx hb (rfl : Int32.toInt i = _) (rfl : Int32.toInt x58 = _) dX9_best_68 (by decide) (fun c68 => ?_) (fun c68 => ?_)
              · skip
                refine lv_iload_n hx hb dX9_best_131 rfl (lv_at hl 6 rfl) ?_
                refine sZne (tgt := 139) hx hb (rfl : Int32.toInt w = _) dX9_best_132 (by decide) (fun c132 => ?_) (fun c132 => ?_)
                · skip
                  refine lv_iload hx hb dX9_best_139 (lv_at hl 2 rfl) ?_
                  exact srI G X (rfl) dX9_best_141 (by exact ⟨sAg.mono hA (by decide), fun hf => by obtain ⟨h1, h2⟩ := hv hf; have hb0 : b = 0 := i32_0 (by omega); have hg0 : g = 0 := i32_0 (by omega); unfold fBest; rw [if_neg (by omega), if_neg (by omega), if_neg (by omega), if_neg (by omega)]; first | exact hb0 | exact hg0⟩)
                · skip
                  refine lv_iload_n hx hb dX9_best_135 rfl (lv_at hl 3 rfl) ?_
                  refine lv_goto (tgt := 141) hx hb dX9_best_136 (by decide) ?_
                  exact srI G X (rfl) dX9_best_141 (by exact ⟨sAg.mono hA (by decide), fun hf => by obtain ⟨h1, h2⟩ := hv hf; have hb0 : b = 0 := i32_0 (by omega); have hg0 : g = 0 := i32_0 (by omega); unfold fBest; rw [if_neg (by omega), if_neg (by omega), if_neg (by omega), if_neg (by omega)]; first | exact hb0 | exact hg0⟩)
              · skip
                refine lv_aload_n hx hb dX9_best_71 rfl (lv_at hl 4 rfl) ?_
                refine sgR G X 0 0 rfl rfl fl_X9_10 dX9_best_72 ?_
                refine sgR G X 2 1 rfl rfl fl_X9_89 dX9_best_75 ?_
                refine lv_iload hx hb dX9_best_78 (lv_at hl 0 rfl) ?_
                refine lv_iload_n hx hb dX9_best_80 rfl (lv_at hl 5 rfl) ?_
                refine scI (ci := 2) (As := [.int i, .int q]) (rest := []) G X (k_canBeStopped ha Y i q) iy_X2_canBeStopped ml_X9_191 rfl rfl rfl rfl hl.1 (by decide) (by decide) (Nat.le_of_ble_eq_true rfl) dX9_best_81 (fun y81 V81 H locs p81 X => ?_)
                obtain ⟨p81, z81⟩ := p81
                subst V81
                refine sZeq (tgt := 125) hx hb (rfl : Int32.toInt y81 = _) dX9_best_84 (by decide) (fun c84 => ?_) (fun c84 => ?_)
                · skip
                  obtain ⟨x125, e125⟩ : ∃ y : Int32, y = i + (1) := ⟨_, rfl⟩
                  refine lv_iinc (v := x125) (lv' := [(6, .int x125), (5, .int x58), (4, .int g), (3, .int b), (0, .ref (a 0)), (1, .int q), (2, .int w)]) hx hb dX9_best_125 hl (k := 0) rfl (by rw [e125]; rfl) (by decide) rfl (fun ls hl => ?_)
                  refine lv_goto (tgt := 64) hx hb dX9_best_128 (by decide) ?_
                  exact ih64 x125 b g Y _ _ _ (by rw [i32_i e125 (by have := i32_hi (x58); omega)]; omega) (by first | exact hA.tr p90.1 | exact hA) (fun hf => by
                      obtain ⟨h1, h2⟩ := hv hf
                      have hq := sQuiet.ag hf.quiet hA (by decide) (by decide) (by decide) (by decide)
                      have h45 : Y 45 0 = 0 := by rw [hA 45 (by decide)]; exact hf.2.2.1
                      have hi1 : i = 0 := i32_0 (by omega)
                      have hm : (Y 3 7).toInt ≤ 0 := by rw [hA 3 (by decide)]; exact hf.many
                      have hy := p81.2 hm hi1 (by omega)
                      first | (exfalso; omega) | skip
                      all_goals (
                        have h90 := p90.2 hq h45
                        have h99 := p99.2 (by rw [p90.1 3 (by decide)]; exact hm)
                        first | (exfalso; rw [h99] at c102; exact c102 rfl) | exact ⟨h1, Or.inr ⟨by rw [i32_i e125 (by omega)]; omega, by omega, by rw [h90]; rfl⟩⟩)) (by rw [i32_i e125 (by have := i32_hi (x58); omega)]; omega) X (lv_sub hl [0, 1, 2, 3, 4, 5, 6] rfl)
                · skip
                  refine lv_aload_n hx hb dX9_best_87 rfl (lv_at hl 4 rfl) ?_
                  refine lv_iload hx hb dX9_best_88 (lv_at hl 0 rfl) ?_
                  refine scI (ci := 8) (As := [.int i]) (rest := []) G X (k_coalWithout ha Y i) iy_X9_coalWithout ml_X9_184 rfl rfl rfl rfl hl.1 (by decide) (by decide) (Nat.le_of_ble_eq_true rfl) dX9_best_90 (fun y90 V90 H locs p90 X => ?_)
                  refine lv_istore (lv' := [(7, .int y90), (6, .int i), (5, .int x58), (4, .int g), (3, .int b), (0, .ref (a 0)), (1, .int q), (2, .int w)]) hx hb dX9_best_93 hl (by decide) rfl (fun ls hl => ?_)
                  refine lv_aload_n hx hb dX9_best_95 rfl (lv_at hl 5 rfl) ?_
                  refine sgR G X 0 3 rfl rfl fl_X9_28 dX9_best_96 ?_
                  refine scI (ci := 1) (As := []) (rest := []) G X (k_smoking ha V90 ) iy_X1_smoking ml_X9_187 rfl rfl rfl rfl hl.1 (by decide) (by decide) (Nat.le_of_ble_eq_true rfl) dX9_best_99 (fun y99 V99 H locs p99 X => ?_)
                  obtain ⟨p99, z99⟩ := p99
                  subst V99
                  refine sZne (tgt := 125) hx hb (rfl : Int32.toInt y99 = _) dX9_best_102 (by decide) (fun c102 => ?_) (fun c102 => ?_)
                  · skip
                    obtain ⟨x125, e125⟩ : ∃ y : Int32, y = i + (1) := ⟨_, rfl⟩
                    refine lv_iinc (v := x125) (lv' := [(6, .int x125), (7, .int y90), (5, .int x58), (4, .int g), (3, .int b), (0, .ref (a 0)), (1, .int q), (2, .int w)]) hx hb dX9_best_125 hl (k := 1) rfl (by rw [e125]; rfl) (by decide) rfl (fun ls hl => ?_)
                    refine lv_goto (tgt := 64) hx hb dX9_best_128 (by decide) ?_
                    exact ih64 x125 b g V90 _ _ _ (by rw [i32_i e125 (by have := i32_hi (x58); omega)]; omega) (by first | exact hA.tr p90.1 | exact hA) (fun hf => by
                        obtain ⟨h1, h2⟩ := hv hf
                        have hq := sQuiet.ag hf.quiet hA (by decide) (by decide) (by decide) (by decide)
                        have h45 : Y 45 0 = 0 := by rw [hA 45 (by decide)]; exact hf.2.2.1
                        have hi1 : i = 0 := i32_0 (by omega)
                        have hm : (Y 3 7).toInt ≤ 0 := by rw [hA 3 (by decide)]; exact hf.many
                        have hy := p81.2 hm hi1 (by omega)
                        first | (exfalso; omega) | skip
                        all_goals (
                          have h90 := p90.2 hq h45
                          have h99 := p99.2 (by rw [p90.1 3 (by decide)]; exact hm)
                          first | (exfalso; rw [h99] at c102; exact c102 rfl) | exact ⟨h1, Or.inr ⟨by rw [i32_i e125 (by omega)]; omega, by omega, by rw [h90]; rfl⟩⟩)) (by rw [i32_i e125 (by have := i32_hi (x58); omega)]; omega) X (lv_sub hl [0, 2, 3, 4, 5, 6, 7] rfl)
                  · skip
                    refine lv_iload_n hx hb dX9_best_105 rfl (lv_at hl 4 rfl) ?_
                    refine lv_bipush (v := (-9)) hx hb dX9_best_106 (by decide) ?_
                    refine sIeq (tgt := 118) hx hb (rfl : Int32.toInt b = _) (by decide : ((-9) : Int32).toInt = -9) dX9_best_108 (by decide) (fun c108 => ?_) (fun c108 => ?_)
                    · skip
                      refine lv_iload hx hb dX9_best_118 (lv_at hl 1 rfl) ?_
                      refine lv_istore_n (lv' := [(3, .int i), (7, .int y90), (6, .int i), (5, .int x58), (4, .int g), (0, .ref (a 0)), (1, .int q), (2, .int w)]) hx hb dX9_best_120 rfl hl (by decide) rfl (fun ls hl => ?_)
                      refine lv_iload hx hb dX9_best_121 (lv_at hl 1 rfl) ?_
                      refine lv_istore (lv' := [(4, .int y90), (3, .int i), (7, .int y90), (6, .int i), (5, .int x58), (0, .ref (a 0)), (1, .int q), (2, .int w)]) hx hb dX9_best_123 hl (by decide) rfl (fun ls hl => ?_)
                      obtain ⟨x125, e125⟩ : ∃ y : Int32, y = i + (1) := ⟨_, rfl⟩
                      refine lv_iinc (v := x125) (lv' := [(6, .int x125), (4, .int y90), (3, .int i), (7, .int y90), (5, .int x58), (0, .ref (a 0)), (1, .int q), (2, .int w)]) hx hb dX9_best_125 hl (k := 3) rfl (by rw [e125]; rfl) (by decide) rfl (fun ls hl => ?_)
                      refine lv_goto (tgt := 64) hx hb dX9_best_128 (by decide) ?_
                      exact ih64 x125 i y90 V90 _ _ _ (by rw [i32_i e125 (by have := i32_hi (x58); omega)]; omega) (by first | exact hA.tr p90.1 | exact hA) (fun hf => by
                          obtain ⟨h1, h2⟩ := hv hf
                          have hq := sQuiet.ag hf.quiet hA (by decide) (by decide) (by decide) (by decide)
                          have h45 : Y 45 0 = 0 := by rw [hA 45 (by decide)]; exact hf.2.2.1
                          have hi1 : i = 0 := i32_0 (by omega)
                          have hm : (Y 3 7).toInt ≤ 0 := by rw [hA 3 (by decide)]; exact hf.many
                          have hy := p81.2 hm hi1 (by omega)
                          first | (exfalso; omega) | skip
                          all_goals (
                            have h90 := p90.2 hq h45
                            have h99 := p99.2 (by rw [p90.1 3 (by decide)]; exact hm)
                            first | (exfalso; rw [h99] at c102; exact c102 rfl) | exact ⟨h1, Or.inr ⟨by rw [i32_i e125 (by omega)]; omega, by omega, by rw [h90]; rfl⟩⟩)) (by rw [i32_i e125 (by have := i32_hi (x58); omega)]; omega) X (lv_sub hl [0, 4, 1, 2, 5, 6, 7] rfl)
                    · skip
                      refine lv_iload hx hb dX9_best_111 (lv_at hl 0 rfl) ?_
                      refine lv_iload hx hb dX9_best_113 (lv_at hl 3 rfl) ?_
                      refine sIge (tgt := 125) hx hb (rfl : Int32.toInt y90 = _) (rfl : Int32.toInt g = _) dX9_best_115 (by decide) (fun c115 => ?_) (fun c115 => ?_)
                      · skip
                        obtain ⟨x125, e125⟩ : ∃ y : Int32, y = i + (1) := ⟨_, rfl⟩
                        refine lv_iinc (v := x125) (lv' := [(6, .int x125), (7, .int y90), (5, .int x58), (4, .int g), (3, .int b), (0, .ref (a 0)), (1, .int q), (2, .int w)]) hx hb dX9_best_125 hl (k := 1) rfl (by rw [e125]; rfl) (by decide) rfl (fun ls hl => ?_)
                        refine lv_goto (tgt := 64) hx hb dX9_best_128 (by decide) ?_
                        exact ih64 x125 b g V90 _ _ _ (by rw [i32_i e125 (by have := i32_hi (x58); omega)]; omega) (by first | exact hA.tr p90.1 | exact hA) (fun hf => by
                            obtain ⟨h1, h2⟩ := hv hf
                            have hq := sQuiet.ag hf.quiet hA (by decide) (by decide) (by decide) (by decide)
                            have h45 : Y 45 0 = 0 := by rw [hA 45 (by decide)]; exact hf.2.2.1
                            have hi1 : i = 0 := i32_0 (by omega)
                            have hm : (Y 3 7).toInt ≤ 0 := by rw [hA 3 (by decide)]; exact hf.many
                            have hy := p81.2 hm hi1 (by omega)
                            first | (exfalso; omega) | skip
                            all_goals (
                              have h90 := p90.2 hq h45
                              have h99 := p99.2 (by rw [p90.1 3 (by decide)]; exact hm)
                              first | (exfalso; rw [h99] at c102; exact c102 rfl) | exact ⟨h1, Or.inr ⟨by rw [i32_i e125 (by omega)]; omega, by omega, by rw [h90]; rfl⟩⟩)) (by rw [i32_i e125 (by have := i32_hi (x58); omega)]; omega) X (lv_sub hl [0, 2, 3, 4, 5, 6, 7] rfl)
                      · skip
                        refine lv_iload hx hb dX9_best_118 (lv_at hl 1 rfl) ?_
                        refine lv_istore_n (lv' := [(3, .int i), (7, .int y90), (6, .int i), (5, .int x58), (4, .int g), (0, .ref (a 0)), (1, .int q), (2, .int w)]) hx hb dX9_best_120 rfl hl (by decide) rfl (fun ls hl => ?_)
                        refine lv_iload hx hb dX9_best_121 (lv_at hl 1 rfl) ?_
                        refine lv_istore (lv' := [(4, .int y90), (3, .int i), (7, .int y90), (6, .int i), (5, .int x58), (0, .ref (a 0)), (1, .int q), (2, .int w)]) hx hb dX9_best_123 hl (by decide) rfl (fun ls hl => ?_)
                        obtain ⟨x125, e125⟩ : ∃ y : Int32, y = i + (1) := ⟨_, rfl⟩
                        refine lv_iinc (v := x125) (lv' := [(6, .int x125), (4, .int y90), (3, .int i), (7, .int y90), (5, .int x58), (0, .ref (a 0)), (1, .int q), (2, .int w)]) hx hb dX9_best_125 hl (k := 3) rfl (by rw [e125]; rfl) (by decide) rfl (fun ls hl => ?_)
                        refine lv_goto (tgt := 64) hx hb dX9_best_128 (by decide) ?_
                        exact ih64 x125 i y90 V90 _ _ _ (by rw [i32_i e125 (by have := i32_hi (x58); omega)]; omega) (by first | exact hA.tr p90.1 | exact hA) (fun hf => by
                            obtain ⟨h1, h2⟩ := hv hf
                            have hq := sQuiet.ag hf.quiet hA (by decide) (by decide) (by decide) (by decide)
                            have h45 : Y 45 0 = 0 := by rw [hA 45 (by decide)]; exact hf.2.2.1
                            have hi1 : i = 0 := i32_0 (by omega)
                            have hm : (Y 3 7).toInt ≤ 0 := by rw [hA 3 (by decide)]; exact hf.many
                            have hy := p81.2 hm hi1 (by omega)
                            first | (exfalso; omega) | skip
                            all_goals (
                              have h90 := p90.2 hq h45
                              have h99 := p99.2 (by rw [p90.1 3 (by decide)]; exact hm)
                              first | (exfalso; rw [h99] at c102; exact c102 rfl) | exact ⟨h1, Or.inr ⟨by rw [i32_i e125 (by omega)]; omega, by omega, by rw [h90]; rfl⟩⟩)) (by rw [i32_i e125 (by have := i32_hi (x58); omega)]; omega) X (lv_sub hl [0, 4, 1, 2, 5, 6, 7] rfl)
          exact L64 _ 0 (-9) (-9) V _ _ _ (by decide) (sAg.rf) (fun hf => ⟨by rw [e58, hf.1]; rfl, Or.inl ⟨rfl, by decide⟩⟩) (Nat.lt_succ_self _) X (lv_sub hl [0, 1, 2, 3, 4, 5, 6] rfl)
        · skip
          refine lv_aload_n hx hb dX9_best_33 rfl (lv_at hl 0 rfl) ?_
          refine lv_bipush (v := (-6)) hx hb dX9_best_34 (by decide) ?_
          refine scI (ci := 8) (As := [.int (-6)]) (rest := []) G X (k_refuse ha V (-6)) iy_X9_refuse ml_X9_57 rfl rfl rfl rfl hl.1 (by decide) (by decide) (Nat.le_of_ble_eq_true rfl) dX9_best_36 (fun y36 V36 H locs p36 X => ?_)
          exact srI G X (rfl) dX9_best_39 (by exact ⟨sAg.mono p36.1 (by decide), (fun hf => by have hg := hf.t; rw [p36.2]; unfold fBest; (repeat' split) <;> first | rfl | (exfalso; omega))⟩)
      · skip
        refine lv_aload_n hx hb dX9_best_20 rfl (lv_at hl 0 rfl) ?_
        refine lv_bipush (v := (-4)) hx hb dX9_best_21 (by decide) ?_
        refine scI (ci := 8) (As := [.int (-4)]) (rest := []) G X (k_refuse ha V (-4)) iy_X9_refuse ml_X9_57 rfl rfl rfl rfl hl.1 (by decide) (by decide) (Nat.le_of_ble_eq_true rfl) dX9_best_23 (fun y23 V23 H locs p23 X => ?_)
        exact srI G X (rfl) dX9_best_26 (by exact ⟨sAg.mono p23.1 (by decide), (fun hf => by have hg := hf.t; rw [p23.2]; unfold fBest; (repeat' split) <;> first | rfl | (exfalso; omega))⟩)
    · skip
      refine lv_aload_n hx hb dX9_best_9 rfl (lv_at hl 0 rfl) ?_
      refine lv_bipush (v := (-2)) hx hb dX9_best_10 (by decide) ?_
      refine scI (ci := 8) (As := [.int (-2)]) (rest := []) G X (k_refuse ha V (-2)) iy_X9_refuse ml_X9_57 rfl rfl rfl rfl hl.1 (by decide) (by decide) (Nat.le_of_ble_eq_true rfl) dX9_best_12 (fun y12 V12 H locs p12 X => ?_)
      exact srI G X (rfl) dX9_best_15 (by exact ⟨sAg.mono p12.1 (by decide), (fun hf => by have hg := hf.t; rw [p12.2]; unfold fBest; (repeat' split) <;> first | rfl | (exfalso; omega))⟩)
def q_pairs (V : sV) (w : Int32) : Int32 → sV → Prop := fun x V1 => sAg [1, 39, 40, 41, 42, 43, 44] V V1 ∧ (sFr V → x = fPairs w)
set_option maxRecDepth 100000 in
set_option maxHeartbeats 4000000 in
theorem k_pairs {l : Launch} {D : va_G} {cI : ClassId} {a : Nat → Nat} (ha : sInj SX a) (V : sV) (w : Int32) : sMI l D cI SX a V yX9_pairs cX9_pairs 9 .int 6 [.ref (a 0), .int w] (q_pairs V w) := by
  refine sMIof ha (by decide +kernel) (Nat.le_of_ble_eq_true rfl) ?_
  intro p e s m below meth c ls G X hl
  obtain ⟨hx, hb, hml, hown, hts, hlocks, hr, hK⟩ := id G
  have hl : lv_has ls 9 [(0, .ref (a 0)), (1, .int w)] := hl
  refine lv_iload_n hx hb dX9_pairs_0 rfl (lv_at hl 1 rfl) ?_
  refine sZlt (tgt := 9) hx hb (rfl : Int32.toInt w = _) dX9_pairs_1 (by decide) (fun c1 => ?_) (fun c1 => ?_)
  · skip
    refine lv_aload_n hx hb dX9_pairs_9 rfl (lv_at hl 0 rfl) ?_
    refine lv_bipush (v := (-2)) hx hb dX9_pairs_10 (by decide) ?_
    refine scI (ci := 8) (As := [.int (-2)]) (rest := []) G X (k_refuse ha V (-2)) iy_X9_refuse ml_X9_57 rfl rfl rfl rfl hl.1 (by decide) (by decide) (Nat.le_of_ble_eq_true rfl) dX9_pairs_12 (fun y12 V12 H locs p12 X => ?_)
    exact srI G X (rfl) dX9_pairs_15 (by exact ⟨sAg.mono p12.1 (by decide), (fun hf => by have hg := hf.t; rw [p12.2]; unfold fPairs; (repeat' split) <;> first | rfl | (exfalso; omega))⟩)
  · skip
    refine lv_iload_n hx hb dX9_pairs_4 rfl (lv_at hl 1 rfl) ?_
    refine lv_iconst (v := 1) hx hb dX9_pairs_5 (by decide) ?_
    refine sIle (tgt := 16) hx hb (rfl : Int32.toInt w = _) (by decide : (1 : Int32).toInt = 1) dX9_pairs_6 (by decide) (fun c6 => ?_) (fun c6 => ?_)
    · skip
      refine lv_bipush (v := (-9)) hx hb dX9_pairs_16 (by decide) ?_
      refine lv_istore_n (lv' := [(2, .int (-9)), (0, .ref (a 0)), (1, .int w)]) hx hb dX9_pairs_18 rfl hl (by decide) rfl (fun ls hl => ?_)
      refine lv_iconst (v := 0) hx hb dX9_pairs_19 (by decide) ?_
      refine lv_istore_n (lv' := [(3, .int 0), (2, .int (-9)), (0, .ref (a 0)), (1, .int w)]) hx hb dX9_pairs_20 rfl hl (by decide) rfl (fun ls hl => ?_)
      refine lv_aload_n hx hb dX9_pairs_21 rfl (lv_at hl 2 rfl) ?_
      refine lv_iconst (v := 0) hx hb dX9_pairs_22 (by decide) ?_
      refine scI (ci := 8) (As := [.int 0]) (rest := []) G X (k_coalWithout ha V 0) iy_X9_coalWithout ml_X9_184 rfl rfl rfl rfl hl.1 (by decide) (by decide) (Nat.le_of_ble_eq_true rfl) dX9_pairs_23 (fun y23 V23 H locs p23 X => ?_)
      refine lv_istore (lv' := [(4, .int y23), (3, .int 0), (2, .int (-9)), (0, .ref (a 0)), (1, .int w)]) hx hb dX9_pairs_26 hl (by decide) rfl (fun ls hl => ?_)
      refine lv_aload_n hx hb dX9_pairs_28 rfl (lv_at hl 3 rfl) ?_
      refine lv_iload hx hb dX9_pairs_29 (lv_at hl 0 rfl) ?_
      refine scI (ci := 8) (As := [.int y23]) (rest := []) G X (k_idleAlone ha V23 y23) iy_X9_idleAlone ml_X9_195 rfl rfl rfl rfl hl.1 (by decide) (by decide) (Nat.le_of_ble_eq_true rfl) dX9_pairs_31 (fun y31 V31 H locs p31 X => ?_)
      refine lv_istore (lv' := [(5, .int y31), (4, .int y23), (3, .int 0), (2, .int (-9)), (0, .ref (a 0)), (1, .int w)]) hx hb dX9_pairs_34 hl (by decide) rfl (fun ls hl => ?_)
      refine lv_iconst (v := 0) hx hb dX9_pairs_36 (by decide) ?_
      refine lv_istore (lv' := [(6, .int 0), (5, .int y31), (4, .int y23), (3, .int 0), (2, .int (-9)), (0, .ref (a 0)), (1, .int w)]) hx hb dX9_pairs_37 hl (by decide) rfl (fun ls hl => ?_)
      have L39 : ∀ (fu39 : Nat) (i : Int32) (u : Int32) (v : Int32) (Y : sV) (H : Heap) (locs : List Loc) (ls : Array Slot), (0 ≤ i.toInt) → (sAg [39, 40, 41, 42, 43, 44] V Y) → (sFr V → u = 0 ∧ v = -9) → (((V 3 7).toInt - i.toInt).toNat) < fu39 → sWS D cI SX a Y s.heap H locs → lv_has ls 9 [(6, .int i), (5, .int y31), (4, .int y23), (3, .int u), (2, .int v), (0, .ref (a 0)), (1, .int w)] → W p l e (rmD 6) s m ([.ref (a 0), .int w] : List Value).toArray below meth c H locs 0 0 (MQ below (va_Qi (q_pairs V w) (fun V1 t => va_P D vwCl (sWd cI SX a V1) t.heap) (sA SX a s.heap.size)) ([.ref (a 0), .int w] : List Value).toArray s 0 0 (sA SX a s.heap.size)) (F0 m 39 ls []) := by
        intro fu39
        induction fu39 with
        | zero => intro i u v Y H locs ls hi hA hv hm39; exact absurd hm39 (Nat.not_lt_zero _)
        | succ fu39 ih39 =>
          intro i u v Y H locs ls hi hA hv hm39 X hl
          refine lv_iload hx hb dX9_pairs_39 (lv_at hl 0 rfl) ?_
          refine lv_aload_n hx hb dX9_pairs_41 rfl (lv_at hl 5 rfl) ?_
          refine sgR G X 0 0 rfl rfl fl_X9_10 dX9_pairs_42 ?_
          refine sgR G X 2 1 rfl rfl fl_X9_89 dX9_pairs_45 ?_
          refine sgI G X 3 7 rfl rfl fl_X9_190 dX9_pairs_48 ?_
          refine sIge (tgt := 139) hx hb (rfl : Int32.toInt i = _) (rfl : Int32.toInt (Y 3 7) = _) dX9_pairs_51 (by decide) (fun c51 => ?_) (fun c51 => ?_)
          · skip
            rw [hA 3 (by decide)] at c51
            refine lv_iload_n hx hb dX9_pairs_139 rfl (lv_at hl 6 rfl) ?_
            refine sZne (tgt := 147) hx hb (rfl : Int32.toInt w = _) dX9_pairs_140 (by decide) (fun c140 => ?_) (fun c140 => ?_)
            · skip
              refine lv_iload_n hx hb dX9_pairs_147 rfl (lv_at hl 4 rfl) ?_
              exact srI G X (rfl) dX9_pairs_148 (by exact ⟨sAg.mono hA (by decide), fun hf => by obtain ⟨h1, h2⟩ := hv hf; subst h1 h2; unfold fPairs; (repeat' split) <;> first | rfl | (exfalso; omega)⟩)
            · skip
              refine lv_iload_n hx hb dX9_pairs_143 rfl (lv_at hl 3 rfl) ?_
              refine lv_goto (tgt := 148) hx hb dX9_pairs_144 (by decide) ?_
              exact srI G X (rfl) dX9_pairs_148 (by exact ⟨sAg.mono hA (by decide), fun hf => by obtain ⟨h1, h2⟩ := hv hf; subst h1 h2; unfold fPairs; (repeat' split) <;> first | rfl | (exfalso; omega)⟩)
          · skip
            rw [hA 3 (by decide)] at c51
            refine lv_iload hx hb dX9_pairs_54 (lv_at hl 0 rfl) ?_
            refine lv_iconst (v := 1) hx hb dX9_pairs_56 (by decide) ?_
            refine lv_iadd hx hb dX9_pairs_57 ?_
            refine lv_topi (fun x57 e57 => ?_)
            refine lv_istore (lv' := [(7, .int x57), (6, .int i), (5, .int y31), (4, .int y23), (3, .int u), (2, .int v), (0, .ref (a 0)), (1, .int w)]) hx hb dX9_pairs_58 hl (by decide) rfl (fun ls hl => ?_)
            have L60 : ∀ (fu60 : Nat) (j : Int32) (u2 : Int32) (v2 : Int32) (Z : sV) (H : Heap) (locs : List Loc) (ls : Array Slot), (sAg [39, 40, 41, 42, 43, 44] V Z) → (¬ sFr V) → (((V 3 7).toInt - j.toInt).toNat) < fu60 → sWS D cI SX a Z s.heap H locs → lv_has ls 9 [(7, .int j), (6, .int i), (5, .int y31), (4, .int y23), (3, .int u2), (2, .int v2), (0, .ref (a 0)), (1, .int w)] → W p l e (rmD 6) s m ([.ref (a 0), .int w] : List Value).toArray below meth c H locs 0 0 (MQ below (va_Qi (q_pairs V w) (fun V1 t => va_P D vwCl (sWd cI SX a V1) t.heap) (sA SX a s.heap.size)) ([.ref (a 0), .int w] : List Value).toArray s 0 0 (sA SX a s.heap.size)) (F0 m 60 ls []) := by
              intro fu60
              induction fu60 with
              | zero => intro j u2 v2 Z H locs ls hB hF hm60; exact absurd hm60 (Nat.not_lt_zero _)
              | succ fu60 ih60 =>
                intro j u2 v2 Z H locs ls hB hF hm60 X hl
                refine lv_iload hx hb dX9_pairs_60 (lv_at hl 0 rfl) ?_
                refine lv_aload_n hx hb dX9_pairs_62 rfl (lv_at hl 6 rfl) ?_
                refine sgR G X 0 0 rfl rfl fl_X9_10 dX9_pairs_63 ?_
                refine sgR G X 2 1 rfl rfl fl_X9_89 dX9_pairs_66 ?_
                refine sgI G X 3 7 rfl rfl fl_X9_190 dX9_pairs_69 ?_
                refine sIge (tgt := 133) hx hb (rfl : Int32.toInt j = _) (rfl : Int32.toInt (Z 3 7) = _) dX9_pairs_72 (by decide) (fun c72 => ?_) (fun c72 => ?_)
                · skip
                  rw [hB 3 (by decide)] at c72
                  obtain ⟨x133, e133⟩ : ∃ y : Int32, y = i + (1) := ⟨_, rfl⟩
                  refine lv_iinc (v := x133) (lv' := [(6, .int x133), (7, .int j), (5, .int y31), (4, .int y23), (3, .int u2), (2, .int v2), (0, .ref (a 0)), (1, .int w)]) hx hb dX9_pairs_133 hl (k := 1) rfl (by rw [e133]; rfl) (by decide) rfl (fun ls hl => ?_)
                  refine lv_goto (tgt := 39) hx hb dX9_pairs_136 (by decide) ?_
                  exact ih39 x133 u2 v2 Z _ _ _ (by rw [i32_i e133 (by have := i32_hi (V 3 7); omega)]; omega) (hB) (fun hf => absurd hf hF) (by rw [i32_i e133 (by have := i32_hi (V 3 7); omega)]; omega) X (lv_sub hl [0, 2, 3, 4, 5, 6, 7] rfl)
                · skip
                  rw [hB 3 (by decide)] at c72
                  refine lv_iconst (v := 1) hx hb dX9_pairs_75 (by decide) ?_
                  refine lv_iload hx hb dX9_pairs_76 (lv_at hl 1 rfl) ?_
                  refine lv_ishl hx hb dX9_pairs_78 ?_
                  refine lv_topi (fun x78 e78 => ?_)
                  refine lv_iconst (v := 1) hx hb dX9_pairs_79 (by decide) ?_
                  refine lv_iload hx hb dX9_pairs_80 (lv_at hl 0 rfl) ?_
                  refine lv_ishl hx hb dX9_pairs_82 ?_
                  refine lv_topi (fun x82 e82 => ?_)
                  refine lv_ior hx hb dX9_pairs_83 ?_
                  refine lv_topi (fun x83 e83 => ?_)
                  refine lv_istore (lv' := [(8, .int x83), (7, .int j), (6, .int i), (5, .int y31), (4, .int y23), (3, .int u2), (2, .int v2), (0, .ref (a 0)), (1, .int w)]) hx hb dX9_pairs_84 hl (by decide) rfl (fun ls hl => ?_)
                  refine lv_iload hx hb dX9_pairs_86 (lv_at hl 3 rfl) ?_
                  refine lv_iload hx hb dX9_pairs_88 (lv_at hl 0 rfl) ?_
                  refine lv_iand hx hb dX9_pairs_90 ?_
                  refine lv_topi (fun x90 e90 => ?_)
                  refine lv_iload hx hb dX9_pairs_91 (lv_at hl 0 rfl) ?_
                  refine sIne (tgt := 127) hx hb (rfl : Int32.toInt x90 = _) (rfl : Int32.toInt x83 = _) dX9_pairs_93 (by decide) (fun c93 => ?_) (fun c93 => ?_)
                  · skip
                    obtain ⟨x127, e127⟩ : ∃ y : Int32, y = j + (1) := ⟨_, rfl⟩
                    refine lv_iinc (v := x127) (lv' := [(7, .int x127), (8, .int x83), (6, .int i), (5, .int y31), (4, .int y23), (3, .int u2), (2, .int v2), (0, .ref (a 0)), (1, .int w)]) hx hb dX9_pairs_127 hl (k := 1) rfl (by rw [e127]; rfl) (by decide) rfl (fun ls hl => ?_)
                    refine lv_goto (tgt := 60) hx hb dX9_pairs_130 (by decide) ?_
                    exact ih60 x127 u2 v2 Z _ _ _ (by first | exact hB.tr p99.1 | exact hB) (hF) (by rw [i32_i e127 (by have := i32_hi (V 3 7); omega)]; omega) X (lv_sub hl [0, 2, 3, 4, 5, 6, 7, 8] rfl)
                  · skip
                    refine lv_aload_n hx hb dX9_pairs_96 rfl (lv_at hl 7 rfl) ?_
                    refine lv_iload hx hb dX9_pairs_97 (lv_at hl 0 rfl) ?_
                    refine scI (ci := 8) (As := [.int x83]) (rest := []) G X (k_coalWithout ha Z x83) iy_X9_coalWithout ml_X9_184 rfl rfl rfl rfl hl.1 (by decide) (by decide) (Nat.le_of_ble_eq_true rfl) dX9_pairs_99 (fun y99 V99 H locs p99 X => ?_)
                    refine lv_iload hx hb dX9_pairs_102 (lv_at hl 4 rfl) ?_
                    refine sIge (tgt := 127) hx hb (rfl : Int32.toInt y99 = _) (rfl : Int32.toInt y23 = _) dX9_pairs_104 (by decide) (fun c104 => ?_) (fun c104 => ?_)
                    · skip
                      obtain ⟨x127, e127⟩ : ∃ y : Int32, y = j + (1) := ⟨_, rfl⟩
                      refine lv_iinc (v := x127) (lv' := [(7, .int x127), (8, .int x83), (6, .int i), (5, .int y31), (4, .int y23), (3, .int u2), (2, .int v2), (0, .ref (a 0)), (1, .int w)]) hx hb dX9_pairs_127 hl (k := 1) rfl (by rw [e127]; rfl) (by decide) rfl (fun ls hl => ?_)
                      refine lv_goto (tgt := 60) hx hb dX9_pairs_130 (by decide) ?_
                      exact ih60 x127 u2 v2 V99 _ _ _ (by first | exact hB.tr p99.1 | exact hB) (hF) (by rw [i32_i e127 (by have := i32_hi (V 3 7); omega)]; omega) X (lv_sub hl [0, 2, 3, 4, 5, 6, 7, 8] rfl)
                    · skip
                      refine lv_iload_n hx hb dX9_pairs_107 rfl (lv_at hl 5 rfl) ?_
                      refine sZne (tgt := 122) hx hb (rfl : Int32.toInt u2 = _) dX9_pairs_108 (by decide) (fun c108 => ?_) (fun c108 => ?_)
                      · skip
                        refine lv_iload_n hx hb dX9_pairs_122 rfl (lv_at hl 6 rfl) ?_
                        refine lv_istore_n (lv' := [(2, .int v2), (8, .int x83), (7, .int j), (6, .int i), (5, .int y31), (4, .int y23), (3, .int u2), (0, .ref (a 0)), (1, .int w)]) hx hb dX9_pairs_123 rfl hl (by decide) rfl (fun ls hl => ?_)
                        obtain ⟨x124, e124⟩ : ∃ y : Int32, y = u2 + (1) := ⟨_, rfl⟩
                        refine lv_iinc (v := x124) (lv' := [(3, .int x124), (2, .int v2), (8, .int x83), (7, .int j), (6, .int i), (5, .int y31), (4, .int y23), (0, .ref (a 0)), (1, .int w)]) hx hb dX9_pairs_124 hl (k := 6) rfl (by rw [e124]; rfl) (by decide) rfl (fun ls hl => ?_)
                        obtain ⟨x127, e127⟩ : ∃ y : Int32, y = j + (1) := ⟨_, rfl⟩
                        refine lv_iinc (v := x127) (lv' := [(7, .int x127), (3, .int x124), (2, .int v2), (8, .int x83), (6, .int i), (5, .int y31), (4, .int y23), (0, .ref (a 0)), (1, .int w)]) hx hb dX9_pairs_127 hl (k := 3) rfl (by rw [e127]; rfl) (by decide) rfl (fun ls hl => ?_)
                        refine lv_goto (tgt := 60) hx hb dX9_pairs_130 (by decide) ?_
                        exact ih60 x127 x124 v2 V99 _ _ _ (by first | exact hB.tr p99.1 | exact hB) (hF) (by rw [i32_i e127 (by have := i32_hi (V 3 7); omega)]; omega) X (lv_sub hl [0, 4, 5, 6, 1, 2, 7, 8] rfl)
                      · skip
                        refine lv_bipush (v := 10) hx hb dX9_pairs_111 (by decide) ?_
                        refine lv_iload hx hb dX9_pairs_113 (lv_at hl 2 rfl) ?_
                        refine lv_imul hx hb dX9_pairs_115 ?_
                        refine lv_topi (fun x115 e115 => ?_)
                        refine lv_iload hx hb dX9_pairs_116 (lv_at hl 1 rfl) ?_
                        refine lv_iadd hx hb dX9_pairs_118 ?_
                        refine lv_topi (fun x118 e118 => ?_)
                        refine lv_goto (tgt := 123) hx hb dX9_pairs_119 (by decide) ?_
                        refine lv_istore_n (lv' := [(2, .int x118), (8, .int x83), (7, .int j), (6, .int i), (5, .int y31), (4, .int y23), (3, .int u2), (0, .ref (a 0)), (1, .int w)]) hx hb dX9_pairs_123 rfl hl (by decide) rfl (fun ls hl => ?_)
                        obtain ⟨x124, e124⟩ : ∃ y : Int32, y = u2 + (1) := ⟨_, rfl⟩
                        refine lv_iinc (v := x124) (lv' := [(3, .int x124), (2, .int x118), (8, .int x83), (7, .int j), (6, .int i), (5, .int y31), (4, .int y23), (0, .ref (a 0)), (1, .int w)]) hx hb dX9_pairs_124 hl (k := 6) rfl (by rw [e124]; rfl) (by decide) rfl (fun ls hl => ?_)
                        obtain ⟨x127, e127⟩ : ∃ y : Int32, y = j + (1) := ⟨_, rfl⟩
                        refine lv_iinc (v := x127) (lv' := [(7, .int x127), (3, .int x124), (2, .int x118), (8, .int x83), (6, .int i), (5, .int y31), (4, .int y23), (0, .ref (a 0)), (1, .int w)]) hx hb dX9_pairs_127 hl (k := 3) rfl (by rw [e127]; rfl) (by decide) rfl (fun ls hl => ?_)
                        refine lv_goto (tgt := 60) hx hb dX9_pairs_130 (by decide) ?_
                        exact ih60 x127 x124 x118 V99 _ _ _ (by first | exact hB.tr p99.1 | exact hB) (hF) (by rw [i32_i e127 (by have := i32_hi (V 3 7); omega)]; omega) X (lv_sub hl [0, 4, 5, 6, 1, 2, 7, 8] rfl)
            exact L60 _ x57 u v Y _ _ _ (hA) ((fun hf => by exfalso; have hg := hf.t; omega)) (Nat.lt_succ_self _) X (lv_sub hl [0, 1, 2, 3, 4, 5, 6, 7] rfl)
      exact L39 _ 0 0 (-9) V31 _ _ _ (by decide) (((sAg.mono p23.1 (by decide)).tr (sAg.mono p31 (by decide)))) (fun _ => ⟨rfl, rfl⟩) (Nat.lt_succ_self _) X (lv_sub hl [0, 1, 2, 3, 4, 5, 6] rfl)
    · skip
      refine lv_aload_n hx hb dX9_pairs_9 rfl (lv_at hl 0 rfl) ?_
      refine lv_bipush (v := (-2)) hx hb dX9_pairs_10 (by decide) ?_
      refine scI (ci := 8) (As := [.int (-2)]) (rest := []) G X (k_refuse ha V (-2)) iy_X9_refuse ml_X9_57 rfl rfl rfl rfl hl.1 (by decide) (by decide) (Nat.le_of_ble_eq_true rfl) dX9_pairs_12 (fun y12 V12 H locs p12 X => ?_)
      exact srI G X (rfl) dX9_pairs_15 (by exact ⟨sAg.mono p12.1 (by decide), (fun hf => by have hg := hf.t; rw [p12.2]; unfold fPairs; (repeat' split) <;> first | rfl | (exfalso; omega))⟩)
def q_shut (V : sV) (i q : Int32) : Int32 → sV → Prop := fun x V1 => sAg [1, 39, 40, 41, 42, 43, 44] V V1 ∧ (sFr V → x = 1000000001)
set_option maxRecDepth 100000 in
set_option maxHeartbeats 4000000 in
theorem k_shut {l : Launch} {D : va_G} {cI : ClassId} {a : Nat → Nat} (ha : sInj SX a) (V : sV) (i q : Int32) : sMI l D cI SX a V yX9_shut cX9_shut 4 .int 5 [.ref (a 0), .int i, .int q] (q_shut V i q) := by
  refine sMIof ha (by decide +kernel) (Nat.le_of_ble_eq_true rfl) ?_
  intro p e s m below meth c ls G X hl
  obtain ⟨hx, hb, hml, hown, hts, hlocks, hr, hK⟩ := id G
  have hl : lv_has ls 4 [(0, .ref (a 0)), (1, .int i), (2, .int q)] := hl
  refine lv_aload_n hx hb dX9_shut_0 rfl (lv_at hl 0 rfl) ?_
  refine sgR G X 0 0 rfl rfl fl_X9_10 dX9_shut_1 ?_
  refine sgR G X 2 1 rfl rfl fl_X9_89 dX9_shut_4 ?_
  refine lv_iload_n hx hb dX9_shut_7 rfl (lv_at hl 1 rfl) ?_
  refine scI (ci := 2) (As := [.int i]) (rest := []) G X (k_has ha V i) iy_X2_has ml_X9_93 rfl rfl rfl rfl hl.1 (by decide) (by decide) (Nat.le_of_ble_eq_true rfl) dX9_shut_8 (fun y8 V8 H locs p8 X => ?_)
  obtain ⟨p8, z8⟩ := p8
  subst V8
  refine sZeq (tgt := 28) hx hb (rfl : Int32.toInt y8 = _) dX9_shut_11 (by decide) (fun c11 => ?_) (fun c11 => ?_)
  · skip
    refine lv_aload_n hx hb dX9_shut_28 rfl (lv_at hl 0 rfl) ?_
    refine lv_iconst (v := (-1)) hx hb dX9_shut_29 (by decide) ?_
    refine scI (ci := 8) (As := [.int (-1)]) (rest := []) G X (k_refuseFar ha V (-1)) iy_X9_refuseFar ml_X9_155 rfl rfl rfl rfl hl.1 (by decide) (by decide) (Nat.le_of_ble_eq_true rfl) dX9_shut_30 (fun y30 V30 H locs p30 X => ?_)
    exact srI G X (rfl) dX9_shut_33 (by exact ⟨sAg.mono p30.1 (by decide), fun _ => by rw [p30.2]; rfl⟩)
  · skip
    refine lv_aload_n hx hb dX9_shut_14 rfl (lv_at hl 0 rfl) ?_
    refine sgR G X 0 0 rfl rfl fl_X9_10 dX9_shut_15 ?_
    refine sgR G X 2 1 rfl rfl fl_X9_89 dX9_shut_18 ?_
    refine lv_iload_n hx hb dX9_shut_21 rfl (lv_at hl 2 rfl) ?_
    refine scI (ci := 2) (As := [.int q]) (rest := []) G X (k_has ha V q) iy_X2_has ml_X9_93 rfl rfl rfl rfl hl.1 (by decide) (by decide) (Nat.le_of_ble_eq_true rfl) dX9_shut_22 (fun y22 V22 H locs p22 X => ?_)
    obtain ⟨p22, z22⟩ := p22
    subst V22
    refine sZne (tgt := 34) hx hb (rfl : Int32.toInt y22 = _) dX9_shut_25 (by decide) (fun c25 => ?_) (fun c25 => ?_)
    · skip
      refine lv_aload_n hx hb dX9_shut_34 rfl (lv_at hl 0 rfl) ?_
      refine sgR G X 0 0 rfl rfl fl_X9_10 dX9_shut_35 ?_
      refine sgR G X 2 1 rfl rfl fl_X9_89 dX9_shut_38 ?_
      refine lv_iload_n hx hb dX9_shut_41 rfl (lv_at hl 1 rfl) ?_
      refine scI (ci := 2) (As := [.int i]) (rest := []) G X (k_isDoor ha V i) iy_X2_isDoor ml_X9_162 rfl rfl rfl rfl hl.1 (by decide) (by decide) (Nat.le_of_ble_eq_true rfl) dX9_shut_42 (fun y42 V42 H locs p42 X => ?_)
      obtain ⟨p42, z42⟩ := p42
      subst V42
      refine sZne (tgt := 55) hx hb (rfl : Int32.toInt y42 = _) dX9_shut_45 (by decide) (fun c45 => ?_) (fun c45 => ?_)
      · skip
        refine lv_aload_n hx hb dX9_shut_55 rfl (lv_at hl 0 rfl) ?_
        refine lv_iconst (v := 0) hx hb dX9_shut_56 (by decide) ?_
        refine scV (ci := 8) (As := [.int 0]) (rest := []) G X (k_settleNow ha V 0) iy_X9_settleNow ml_X9_172 rfl rfl rfl rfl hl.1 (by decide) (by decide) (Nat.le_of_ble_eq_true rfl) dX9_shut_57 (fun V57 H locs p57 X => ?_)
        refine lv_aload_n hx hb dX9_shut_60 rfl (lv_at hl 0 rfl) ?_
        refine sgR G X 0 3 rfl rfl fl_X9_28 dX9_shut_61 ?_
        refine lv_iload_n hx hb dX9_shut_64 rfl (lv_at hl 2 rfl) ?_
        refine scI (ci := 1) (As := [.int q]) (rest := []) G X (k_flow ha V57 q) iy_X1_flowThrough ml_X9_178 rfl rfl rfl rfl hl.1 (by decide) (by decide) (Nat.le_of_ble_eq_true rfl) dX9_shut_65 (fun y65 V65 H locs p65 X => ?_)
        obtain ⟨p65, z65⟩ := p65
        subst V65
        refine sAbs hx hb hml hl.1 hown hts mm_X9_198 (by decide) (Nat.le_of_ble_eq_true rfl) dX9_shut_68 (fun x68 e68 => ?_)
        refine lv_istore_n (lv' := [(3, .int x68), (0, .ref (a 0)), (1, .int i), (2, .int q)]) hx hb dX9_shut_71 rfl hl (by decide) rfl (fun ls hl => ?_)
        refine lv_aload_n hx hb dX9_shut_72 rfl (lv_at hl 1 rfl) ?_
        refine lv_iconst (v := 1) hx hb dX9_shut_73 (by decide) ?_
        refine lv_iload_n hx hb dX9_shut_74 rfl (lv_at hl 2 rfl) ?_
        refine lv_ishl hx hb dX9_shut_75 ?_
        refine lv_topi (fun x75 e75 => ?_)
        refine scV (ci := 8) (As := [.int x75]) (rest := []) G X (k_settleNow ha V57 x75) iy_X9_settleNow ml_X9_172 rfl rfl rfl rfl hl.1 (by decide) (by decide) (Nat.le_of_ble_eq_true rfl) dX9_shut_76 (fun V76 H locs p76 X => ?_)
        refine lv_aload_n hx hb dX9_shut_79 rfl (lv_at hl 1 rfl) ?_
        refine sgR G X 0 3 rfl rfl fl_X9_28 dX9_shut_80 ?_
        refine lv_iload_n hx hb dX9_shut_83 rfl (lv_at hl 3 rfl) ?_
        refine scI (ci := 1) (As := [.int q]) (rest := []) G X (k_flow ha V76 q) iy_X1_flowThrough ml_X9_178 rfl rfl rfl rfl hl.1 (by decide) (by decide) (Nat.le_of_ble_eq_true rfl) dX9_shut_84 (fun y84 V84 H locs p84 X => ?_)
        obtain ⟨p84, z84⟩ := p84
        subst V84
        refine sAbs hx hb hml hl.1 hown hts mm_X9_198 (by decide) (Nat.le_of_ble_eq_true rfl) dX9_shut_87 (fun x87 e87 => ?_)
        refine lv_iload_n hx hb dX9_shut_90 rfl (lv_at hl 0 rfl) ?_
        refine lv_isub hx hb dX9_shut_91 ?_
        refine lv_topi (fun x91 e91 => ?_)
        exact srI G X (rfl) dX9_shut_92 (by exact ⟨((sAg.mono p57.1 (by decide)).tr (sAg.mono p76.1 (by decide))), (fun hf => by exfalso; have hg := hf.t; omega)⟩)
      · skip
        refine lv_aload_n hx hb dX9_shut_48 rfl (lv_at hl 0 rfl) ?_
        refine lv_bipush (v := (-3)) hx hb dX9_shut_49 (by decide) ?_
        refine scI (ci := 8) (As := [.int (-3)]) (rest := []) G X (k_refuseFar ha V (-3)) iy_X9_refuseFar ml_X9_155 rfl rfl rfl rfl hl.1 (by decide) (by decide) (Nat.le_of_ble_eq_true rfl) dX9_shut_51 (fun y51 V51 H locs p51 X => ?_)
        exact srI G X (rfl) dX9_shut_54 (by exact ⟨sAg.mono p51.1 (by decide), (fun hf => by exfalso; have hg := hf.t; omega)⟩)
    · skip
      refine lv_aload_n hx hb dX9_shut_28 rfl (lv_at hl 0 rfl) ?_
      refine lv_iconst (v := (-1)) hx hb dX9_shut_29 (by decide) ?_
      refine scI (ci := 8) (As := [.int (-1)]) (rest := []) G X (k_refuseFar ha V (-1)) iy_X9_refuseFar ml_X9_155 rfl rfl rfl rfl hl.1 (by decide) (by decide) (Nat.le_of_ble_eq_true rfl) dX9_shut_30 (fun y30 V30 H locs p30 X => ?_)
      exact srI G X (rfl) dX9_shut_33 (by exact ⟨sAg.mono p30.1 (by decide), fun _ => by rw [p30.2]; rfl⟩)
def q_chair (V : sV)  : Int32 → sV → Prop := fun x V1 => sAg [39, 40, 41, 42, 43, 44] V V1 ∧ (sFr V → x = 0)
set_option maxRecDepth 100000 in
set_option maxHeartbeats 4000000 in
theorem k_chair {l : Launch} {D : va_G} {cI : ClassId} {a : Nat → Nat} (ha : sInj SX a) (V : sV)  : sMI l D cI SX a V yX9_chair cX9_chair 5 .int 5 [.ref (a 0)] (q_chair V ) := by
  refine sMIof ha (by decide +kernel) (Nat.le_of_ble_eq_true rfl) ?_
  intro p e s m below meth c ls G X hl
  obtain ⟨hx, hb, hml, hown, hts, hlocks, hr, hK⟩ := id G
  have hl : lv_has ls 5 [(0, .ref (a 0))] := hl
  refine lv_aload_n hx hb dX9_chair_0 rfl (lv_at hl 0 rfl) ?_
  refine lv_iconst (v := 0) hx hb dX9_chair_1 (by decide) ?_
  refine scV (ci := 8) (As := [.int 0]) (rest := []) G X (k_settleNow ha V 0) iy_X9_settleNow ml_X9_172 rfl rfl rfl rfl hl.1 (by decide) (by decide) (Nat.le_of_ble_eq_true rfl) dX9_chair_2 (fun V2 H locs p2 X => ?_)
  refine lv_iconst (v := 0) hx hb dX9_chair_5 (by decide) ?_
  refine lv_istore_n (lv' := [(1, .int 0), (0, .ref (a 0))]) hx hb dX9_chair_6 rfl hl (by decide) rfl (fun ls hl => ?_)
  refine lv_aload_n hx hb dX9_chair_7 rfl (lv_at hl 1 rfl) ?_
  refine sgR G X 0 3 rfl rfl fl_X9_28 dX9_chair_8 ?_
  refine lv_iconst (v := 0) hx hb dX9_chair_11 (by decide) ?_
  refine scI (ci := 1) (As := [.int 0]) (rest := []) G X (k_throughRoom ha V2 0) iy_X1_throughRoom ml_X9_203 rfl rfl rfl rfl hl.1 (by decide) (by decide) (Nat.le_of_ble_eq_true rfl) dX9_chair_12 (fun y12 V12 H locs p12 X => ?_)
  obtain ⟨p12, z12⟩ := p12
  subst V12
  refine lv_istore_n (lv' := [(2, .int y12), (1, .int 0), (0, .ref (a 0))]) hx hb dX9_chair_15 rfl hl (by decide) rfl (fun ls hl => ?_)
  refine lv_iconst (v := 1) hx hb dX9_chair_16 (by decide) ?_
  refine lv_istore_n (lv' := [(3, .int 1), (2, .int y12), (1, .int 0), (0, .ref (a 0))]) hx hb dX9_chair_17 rfl hl (by decide) rfl (fun ls hl => ?_)
  have L18 : ∀ (fu18 : Nat) (i : Int32) (b : Int32) (g : Int32) (H : Heap) (locs : List Loc) (ls : Array Slot), (0 ≤ i.toInt) → (sFr V → b = 0 ∧ g = 0) → (((V2 2 0).toInt - i.toInt).toNat) < fu18 → sWS D cI SX a V2 s.heap H locs → lv_has ls 5 [(3, .int i), (2, .int g), (1, .int b), (0, .ref (a 0))] → W p l e (rmD 5) s m ([.ref (a 0)] : List Value).toArray below meth c H locs 0 0 (MQ below (va_Qi (q_chair V ) (fun V1 t => va_P D vwCl (sWd cI SX a V1) t.heap) (sA SX a s.heap.size)) ([.ref (a 0)] : List Value).toArray s 0 0 (sA SX a s.heap.size)) (F0 m 18 ls []) := by
    intro fu18
    induction fu18 with
    | zero => intro i b g H locs ls hi hv hm18; exact absurd hm18 (Nat.not_lt_zero _)
    | succ fu18 ih18 =>
      intro i b g H locs ls hi hv hm18 X hl
      refine lv_iload_n hx hb dX9_chair_18 rfl (lv_at hl 0 rfl) ?_
      refine lv_aload_n hx hb dX9_chair_19 rfl (lv_at hl 3 rfl) ?_
      refine sgR G X 0 0 rfl rfl fl_X9_10 dX9_chair_20 ?_
      refine sgI G X 2 0 rfl rfl fl_X9_169 dX9_chair_23 ?_
      refine sIge (tgt := 56) hx hb (rfl : Int32.toInt i = _) (rfl : Int32.toInt (V2 2 0) = _) dX9_chair_26 (by decide) (fun c26 => ?_) (fun c26 => ?_)
      · skip
        refine lv_iload_n hx hb dX9_chair_56 rfl (lv_at hl 2 rfl) ?_
        exact srI G X (rfl) dX9_chair_57 (by exact ⟨p2.1, fun hf => (hv hf).1⟩)
      · skip
        refine lv_aload_n hx hb dX9_chair_29 rfl (lv_at hl 3 rfl) ?_
        refine sgR G X 0 3 rfl rfl fl_X9_28 dX9_chair_30 ?_
        refine lv_iload_n hx hb dX9_chair_33 rfl (lv_at hl 0 rfl) ?_
        refine scI (ci := 1) (As := [.int i]) (rest := []) G X (k_throughRoom ha V2 i) iy_X1_throughRoom ml_X9_203 rfl rfl rfl rfl hl.1 (by decide) (by decide) (Nat.le_of_ble_eq_true rfl) dX9_chair_34 (fun y34 V34 H locs p34 X => ?_)
        obtain ⟨p34, z34⟩ := p34
        subst V34
        refine lv_istore (lv' := [(4, .int y34), (3, .int i), (2, .int g), (1, .int b), (0, .ref (a 0))]) hx hb dX9_chair_37 hl (by decide) rfl (fun ls hl => ?_)
        refine lv_iload hx hb dX9_chair_39 (lv_at hl 0 rfl) ?_
        refine lv_iload_n hx hb dX9_chair_41 rfl (lv_at hl 2 rfl) ?_
        refine sIge (tgt := 50) hx hb (rfl : Int32.toInt y34 = _) (rfl : Int32.toInt g = _) dX9_chair_42 (by decide) (fun c42 => ?_) (fun c42 => ?_)
        · skip
          obtain ⟨x50, e50⟩ : ∃ y : Int32, y = i + (1) := ⟨_, rfl⟩
          refine lv_iinc (v := x50) (lv' := [(3, .int x50), (4, .int y34), (2, .int g), (1, .int b), (0, .ref (a 0))]) hx hb dX9_chair_50 hl (k := 1) rfl (by rw [e50]; rfl) (by decide) rfl (fun ls hl => ?_)
          refine lv_goto (tgt := 18) hx hb dX9_chair_53 (by decide) ?_
          exact ih18 x50 b g _ _ _ (by rw [i32_i e50 (by have := i32_hi (V2 2 0); omega)]; omega) (fun hf => by
              obtain ⟨h1, h2⟩ := hv hf
              have h34 := p34 (by rw [p2.1 3 (by decide)]; exact hf.many)
              first | exact ⟨h1, h2⟩ | (exfalso; rw [h34, h2] at c42; exact absurd c42 (by decide))) (by rw [i32_i e50 (by have := i32_hi (V2 2 0); omega)]; omega) X (lv_sub hl [0, 2, 3, 4] rfl)
        · skip
          refine lv_iload_n hx hb dX9_chair_45 rfl (lv_at hl 1 rfl) ?_
          refine lv_istore_n (lv' := [(1, .int i), (4, .int y34), (3, .int i), (2, .int g), (0, .ref (a 0))]) hx hb dX9_chair_46 rfl hl (by decide) rfl (fun ls hl => ?_)
          refine lv_iload hx hb dX9_chair_47 (lv_at hl 1 rfl) ?_
          refine lv_istore_n (lv' := [(2, .int y34), (1, .int i), (4, .int y34), (3, .int i), (0, .ref (a 0))]) hx hb dX9_chair_49 rfl hl (by decide) rfl (fun ls hl => ?_)
          obtain ⟨x50, e50⟩ : ∃ y : Int32, y = i + (1) := ⟨_, rfl⟩
          refine lv_iinc (v := x50) (lv' := [(3, .int x50), (2, .int y34), (1, .int i), (4, .int y34), (0, .ref (a 0))]) hx hb dX9_chair_50 hl (k := 3) rfl (by rw [e50]; rfl) (by decide) rfl (fun ls hl => ?_)
          refine lv_goto (tgt := 18) hx hb dX9_chair_53 (by decide) ?_
          exact ih18 x50 i y34 _ _ _ (by rw [i32_i e50 (by have := i32_hi (V2 2 0); omega)]; omega) (fun hf => by
              obtain ⟨h1, h2⟩ := hv hf
              have h34 := p34 (by rw [p2.1 3 (by decide)]; exact hf.many)
              first | exact ⟨h1, h2⟩ | (exfalso; rw [h34, h2] at c42; exact absurd c42 (by decide))) (by rw [i32_i e50 (by have := i32_hi (V2 2 0); omega)]; omega) X (lv_sub hl [0, 1, 2, 4] rfl)
  exact L18 _ 1 0 y12 _ _ _ (by decide) (fun hf => ⟨rfl, p12 (by rw [p2.1 3 (by decide)]; exact hf.many)⟩) (Nat.lt_succ_self _) X (lv_sub hl [0, 1, 2, 3] rfl)
def q_finger (V : sV)  : Int32 → sV → Prop := fun x V1 => sAg [39, 40, 41, 42, 43, 44] V V1 ∧ (sFr V → x = -9)
set_option maxRecDepth 100000 in
set_option maxHeartbeats 4000000 in
theorem k_finger {l : Launch} {D : va_G} {cI : ClassId} {a : Nat → Nat} (ha : sInj SX a) (V : sV)  : sMI l D cI SX a V yX9_finger cX9_finger 6 .int 5 [.ref (a 0)] (q_finger V ) := by
  refine sMIof ha (by decide +kernel) (Nat.le_of_ble_eq_true rfl) ?_
  intro p e s m below meth c ls G X hl
  obtain ⟨hx, hb, hml, hown, hts, hlocks, hr, hK⟩ := id G
  have hl : lv_has ls 6 [(0, .ref (a 0))] := hl
  refine lv_bipush (v := (-9)) hx hb dX9_finger_0 (by decide) ?_
  refine lv_istore_n (lv' := [(1, .int (-9)), (0, .ref (a 0))]) hx hb dX9_finger_2 rfl hl (by decide) rfl (fun ls hl => ?_)
  refine lv_iconst (v := 0) hx hb dX9_finger_3 (by decide) ?_
  refine lv_istore_n (lv' := [(2, .int 0), (1, .int (-9)), (0, .ref (a 0))]) hx hb dX9_finger_4 rfl hl (by decide) rfl (fun ls hl => ?_)
  refine lv_iconst (v := 0) hx hb dX9_finger_5 (by decide) ?_
  refine lv_istore_n (lv' := [(3, .int 0), (2, .int 0), (1, .int (-9)), (0, .ref (a 0))]) hx hb dX9_finger_6 rfl hl (by decide) rfl (fun ls hl => ?_)
  have L7 : ∀ (fu7 : Nat) (i : Int32) (b : Int32) (g : Int32) (Y : sV) (H : Heap) (locs : List Loc) (ls : Array Slot), (0 ≤ i.toInt) → (sAg [39, 40, 41, 42, 43, 44] V Y) → (sFr V → b = -9) → (((V 3 7).toInt - i.toInt).toNat) < fu7 → sWS D cI SX a Y s.heap H locs → lv_has ls 6 [(3, .int i), (2, .int g), (1, .int b), (0, .ref (a 0))] → W p l e (rmD 5) s m ([.ref (a 0)] : List Value).toArray below meth c H locs 0 0 (MQ below (va_Qi (q_finger V ) (fun V1 t => va_P D vwCl (sWd cI SX a V1) t.heap) (sA SX a s.heap.size)) ([.ref (a 0)] : List Value).toArray s 0 0 (sA SX a s.heap.size)) (F0 m 7 ls []) := by
    intro fu7
    induction fu7 with
    | zero => intro i b g Y H locs ls hi hA hv hm7; exact absurd hm7 (Nat.not_lt_zero _)
    | succ fu7 ih7 =>
      intro i b g Y H locs ls hi hA hv hm7 X hl
      refine lv_iload_n hx hb dX9_finger_7 rfl (lv_at hl 0 rfl) ?_
      refine lv_aload_n hx hb dX9_finger_8 rfl (lv_at hl 3 rfl) ?_
      refine sgR G X 0 0 rfl rfl fl_X9_10 dX9_finger_9 ?_
      refine sgR G X 2 1 rfl rfl fl_X9_89 dX9_finger_12 ?_
      refine sgI G X 3 7 rfl rfl fl_X9_190 dX9_finger_15 ?_
      refine sIge (tgt := 121) hx hb (rfl : Int32.toInt i = _) (rfl : Int32.toInt (Y 3 7) = _) dX9_finger_18 (by decide) (fun c18 => ?_) (fun c18 => ?_)
      · skip
        rw [hA 3 (by decide)] at c18
        refine lv_iload_n hx hb dX9_finger_121 rfl (lv_at hl 2 rfl) ?_
        exact srI G X (rfl) dX9_finger_122 (by exact ⟨hA, hv⟩)
      · skip
        rw [hA 3 (by decide)] at c18
        refine lv_aload_n hx hb dX9_finger_21 rfl (lv_at hl 3 rfl) ?_
        refine sgR G X 0 0 rfl rfl fl_X9_10 dX9_finger_22 ?_
        refine sgR G X 2 1 rfl rfl fl_X9_89 dX9_finger_25 ?_
        refine sgR G X 3 3 rfl rfl fl_X9_114 dX9_finger_28 ?_
        refine lv_iload_n hx hb dX9_finger_31 rfl (lv_at hl 0 rfl) ?_
        refine scSI (As := [.ref (a 7), .int i]) (rest := []) G X (k_at ha Y 7 10 rfl (by first | decide | assumption) i) iy_X5_at ml_X9_102 rfl rfl hl.1 (by decide) (by decide) (Nat.le_of_ble_eq_true rfl) dX9_finger_32 (fun y32 V32 H locs p32 X => ?_)
        obtain ⟨p32, z32⟩ := p32
        subst V32
        refine lv_iconst (v := 1) hx hb dX9_finger_35 (by decide) ?_
        refine lv_iadd hx hb dX9_finger_36 ?_
        refine lv_topi (fun x36 e36 => ?_)
        refine lv_istore (lv' := [(4, .int x36), (3, .int i), (2, .int g), (1, .int b), (0, .ref (a 0))]) hx hb dX9_finger_37 hl (by decide) rfl (fun ls hl => ?_)
        refine lv_aload_n hx hb dX9_finger_39 rfl (lv_at hl 4 rfl) ?_
        refine sgR G X 0 0 rfl rfl fl_X9_10 dX9_finger_40 ?_
        refine sgR G X 2 1 rfl rfl fl_X9_89 dX9_finger_43 ?_
        refine lv_iload_n hx hb dX9_finger_46 rfl (lv_at hl 1 rfl) ?_
        refine scI (ci := 2) (As := [.int i]) (rest := []) G X (k_isDoor ha Y i) iy_X2_isDoor ml_X9_162 rfl rfl rfl rfl hl.1 (by decide) (by decide) (Nat.le_of_ble_eq_true rfl) dX9_finger_47 (fun y47 V47 H locs p47 X => ?_)
        obtain ⟨p47, z47⟩ := p47
        subst V47
        refine sZne (tgt := 115) hx hb (rfl : Int32.toInt y47 = _) dX9_finger_50 (by decide) (fun c50 => ?_) (fun c50 => ?_)
        · skip
          obtain ⟨x115, e115⟩ : ∃ y : Int32, y = i + (1) := ⟨_, rfl⟩
          refine lv_iinc (v := x115) (lv' := [(3, .int x115), (4, .int x36), (2, .int g), (1, .int b), (0, .ref (a 0))]) hx hb dX9_finger_115 hl (k := 1) rfl (by rw [e115]; rfl) (by decide) rfl (fun ls hl => ?_)
          refine lv_goto (tgt := 7) hx hb dX9_finger_118 (by decide) ?_
          exact ih7 x115 b g Y _ _ _ (by rw [i32_i e115 (by have := i32_hi (V 3 7); omega)]; omega) (by first | exact hA.tr p64 | exact hA) ((fun hf => by exfalso; have hg := hf.t; omega)) (by rw [i32_i e115 (by have := i32_hi (V 3 7); omega)]; omega) X (lv_sub hl [0, 2, 3, 4] rfl)
        · skip
          refine lv_iload hx hb dX9_finger_53 (lv_at hl 0 rfl) ?_
          refine lv_bipush (v := 9) hx hb dX9_finger_55 (by decide) ?_
          refine sIgt (tgt := 115) hx hb (rfl : Int32.toInt x36 = _) (by decide : (9 : Int32).toInt = 9) dX9_finger_57 (by decide) (fun c57 => ?_) (fun c57 => ?_)
          · skip
            obtain ⟨x115, e115⟩ : ∃ y : Int32, y = i + (1) := ⟨_, rfl⟩
            refine lv_iinc (v := x115) (lv' := [(3, .int x115), (4, .int x36), (2, .int g), (1, .int b), (0, .ref (a 0))]) hx hb dX9_finger_115 hl (k := 1) rfl (by rw [e115]; rfl) (by decide) rfl (fun ls hl => ?_)
            refine lv_goto (tgt := 7) hx hb dX9_finger_118 (by decide) ?_
            exact ih7 x115 b g Y _ _ _ (by rw [i32_i e115 (by have := i32_hi (V 3 7); omega)]; omega) (by first | exact hA.tr p64 | exact hA) ((fun hf => by exfalso; have hg := hf.t; omega)) (by rw [i32_i e115 (by have := i32_hi (V 3 7); omega)]; omega) X (lv_sub hl [0, 2, 3, 4] rfl)
          · skip
            refine lv_aload_n hx hb dX9_finger_60 rfl (lv_at hl 4 rfl) ?_
            refine lv_iload_n hx hb dX9_finger_61 rfl (lv_at hl 1 rfl) ?_
            refine lv_iload hx hb dX9_finger_62 (lv_at hl 0 rfl) ?_
            refine scV (ci := 8) (As := [.int i, .int x36]) (rest := []) G X (k_settleSized ha Y i x36) iy_X9_settleSized ml_X9_206 rfl rfl rfl rfl hl.1 (by decide) (by decide) (Nat.le_of_ble_eq_true rfl) dX9_finger_64 (fun V64 H locs p64 X => ?_)
            refine lv_aload_n hx hb dX9_finger_67 rfl (lv_at hl 4 rfl) ?_
            refine sgR G X 0 3 rfl rfl fl_X9_28 dX9_finger_68 ?_
            refine scI (ci := 1) (As := []) (rest := []) G X (k_inflow ha V64 ) iy_X1_inflow ml_X9_210 rfl rfl rfl rfl hl.1 (by decide) (by decide) (Nat.le_of_ble_eq_true rfl) dX9_finger_71 (fun y71 V71 H locs p71 X => ?_)
            obtain ⟨p71, z71⟩ := p71
            subst V71
            refine lv_aload_n hx hb dX9_finger_74 rfl (lv_at hl 4 rfl) ?_
            refine sgR G X 0 0 rfl rfl fl_X9_10 dX9_finger_75 ?_
            refine sgR G X 2 3 rfl rfl fl_X9_143 dX9_finger_78 ?_
            refine sgI G X 15 0 rfl rfl fl_X9_146 dX9_finger_81 ?_
            refine lv_imul hx hb dX9_finger_84 ?_
            refine lv_topi (fun x84 e84 => ?_)
            refine lv_istore (lv' := [(5, .int x84), (4, .int x36), (3, .int i), (2, .int g), (1, .int b), (0, .ref (a 0))]) hx hb dX9_finger_85 hl (by decide) rfl (fun ls hl => ?_)
            refine lv_aload_n hx hb dX9_finger_87 rfl (lv_at hl 5 rfl) ?_
            refine sgR G X 0 3 rfl rfl fl_X9_28 dX9_finger_88 ?_
            refine lv_iload_n hx hb dX9_finger_91 rfl (lv_at hl 2 rfl) ?_
            refine scI (ci := 1) (As := [.int i]) (rest := []) G X (k_flow ha V64 i) iy_X1_flowThrough ml_X9_178 rfl rfl rfl rfl hl.1 (by decide) (by decide) (Nat.le_of_ble_eq_true rfl) dX9_finger_92 (fun y92 V92 H locs p92 X => ?_)
            obtain ⟨p92, z92⟩ := p92
            subst V92
            refine sZle (tgt := 115) hx hb (rfl : Int32.toInt y92 = _) dX9_finger_95 (by decide) (fun c95 => ?_) (fun c95 => ?_)
            · skip
              obtain ⟨x115, e115⟩ : ∃ y : Int32, y = i + (1) := ⟨_, rfl⟩
              refine lv_iinc (v := x115) (lv' := [(3, .int x115), (5, .int x84), (4, .int x36), (2, .int g), (1, .int b), (0, .ref (a 0))]) hx hb dX9_finger_115 hl (k := 2) rfl (by rw [e115]; rfl) (by decide) rfl (fun ls hl => ?_)
              refine lv_goto (tgt := 7) hx hb dX9_finger_118 (by decide) ?_
              exact ih7 x115 b g V64 _ _ _ (by rw [i32_i e115 (by have := i32_hi (V 3 7); omega)]; omega) (by first | exact hA.tr p64 | exact hA) ((fun hf => by exfalso; have hg := hf.t; omega)) (by rw [i32_i e115 (by have := i32_hi (V 3 7); omega)]; omega) X (lv_sub hl [0, 3, 4, 5] rfl)
            · skip
              refine lv_iload_n hx hb dX9_finger_98 rfl (lv_at hl 4 rfl) ?_
              refine lv_bipush (v := (-9)) hx hb dX9_finger_99 (by decide) ?_
              refine sIeq (tgt := 110) hx hb (rfl : Int32.toInt b = _) (by decide : ((-9) : Int32).toInt = -9) dX9_finger_101 (by decide) (fun c101 => ?_) (fun c101 => ?_)
              · skip
                refine lv_iload_n hx hb dX9_finger_110 rfl (lv_at hl 2 rfl) ?_
                refine lv_istore_n (lv' := [(1, .int i), (5, .int x84), (4, .int x36), (3, .int i), (2, .int g), (0, .ref (a 0))]) hx hb dX9_finger_111 rfl hl (by decide) rfl (fun ls hl => ?_)
                refine lv_iload hx hb dX9_finger_112 (lv_at hl 1 rfl) ?_
                refine lv_istore_n (lv' := [(2, .int x84), (1, .int i), (5, .int x84), (4, .int x36), (3, .int i), (0, .ref (a 0))]) hx hb dX9_finger_114 rfl hl (by decide) rfl (fun ls hl => ?_)
                obtain ⟨x115, e115⟩ : ∃ y : Int32, y = i + (1) := ⟨_, rfl⟩
                refine lv_iinc (v := x115) (lv' := [(3, .int x115), (2, .int x84), (1, .int i), (5, .int x84), (4, .int x36), (0, .ref (a 0))]) hx hb dX9_finger_115 hl (k := 4) rfl (by rw [e115]; rfl) (by decide) rfl (fun ls hl => ?_)
                refine lv_goto (tgt := 7) hx hb dX9_finger_118 (by decide) ?_
                exact ih7 x115 i x84 V64 _ _ _ (by rw [i32_i e115 (by have := i32_hi (V 3 7); omega)]; omega) (by first | exact hA.tr p64 | exact hA) ((fun hf => by exfalso; have hg := hf.t; omega)) (by rw [i32_i e115 (by have := i32_hi (V 3 7); omega)]; omega) X (lv_sub hl [0, 1, 2, 5] rfl)
              · skip
                refine lv_iload hx hb dX9_finger_104 (lv_at hl 0 rfl) ?_
                refine lv_iload_n hx hb dX9_finger_106 rfl (lv_at hl 3 rfl) ?_
                refine sIge (tgt := 115) hx hb (rfl : Int32.toInt x84 = _) (rfl : Int32.toInt g = _) dX9_finger_107 (by decide) (fun c107 => ?_) (fun c107 => ?_)
                · skip
                  obtain ⟨x115, e115⟩ : ∃ y : Int32, y = i + (1) := ⟨_, rfl⟩
                  refine lv_iinc (v := x115) (lv' := [(3, .int x115), (5, .int x84), (4, .int x36), (2, .int g), (1, .int b), (0, .ref (a 0))]) hx hb dX9_finger_115 hl (k := 2) rfl (by rw [e115]; rfl) (by decide) rfl (fun ls hl => ?_)
                  refine lv_goto (tgt := 7) hx hb dX9_finger_118 (by decide) ?_
                  exact ih7 x115 b g V64 _ _ _ (by rw [i32_i e115 (by have := i32_hi (V 3 7); omega)]; omega) (by first | exact hA.tr p64 | exact hA) ((fun hf => by exfalso; have hg := hf.t; omega)) (by rw [i32_i e115 (by have := i32_hi (V 3 7); omega)]; omega) X (lv_sub hl [0, 3, 4, 5] rfl)
                · skip
                  refine lv_iload_n hx hb dX9_finger_110 rfl (lv_at hl 2 rfl) ?_
                  refine lv_istore_n (lv' := [(1, .int i), (5, .int x84), (4, .int x36), (3, .int i), (2, .int g), (0, .ref (a 0))]) hx hb dX9_finger_111 rfl hl (by decide) rfl (fun ls hl => ?_)
                  refine lv_iload hx hb dX9_finger_112 (lv_at hl 1 rfl) ?_
                  refine lv_istore_n (lv' := [(2, .int x84), (1, .int i), (5, .int x84), (4, .int x36), (3, .int i), (0, .ref (a 0))]) hx hb dX9_finger_114 rfl hl (by decide) rfl (fun ls hl => ?_)
                  obtain ⟨x115, e115⟩ : ∃ y : Int32, y = i + (1) := ⟨_, rfl⟩
                  refine lv_iinc (v := x115) (lv' := [(3, .int x115), (2, .int x84), (1, .int i), (5, .int x84), (4, .int x36), (0, .ref (a 0))]) hx hb dX9_finger_115 hl (k := 4) rfl (by rw [e115]; rfl) (by decide) rfl (fun ls hl => ?_)
                  refine lv_goto (tgt := 7) hx hb dX9_finger_118 (by decide) ?_
                  exact ih7 x115 i x84 V64 _ _ _ (by rw [i32_i e115 (by have := i32_hi (V 3 7); omega)]; omega) (by first | exact hA.tr p64 | exact hA) ((fun hf => by exfalso; have hg := hf.t; omega)) (by rw [i32_i e115 (by have := i32_hi (V 3 7); omega)]; omega) X (lv_sub hl [0, 1, 2, 5] rfl)
  exact L7 _ 0 (-9) 0 V _ _ _ (by decide) (sAg.rf) (fun _ => rfl) (Nat.lt_succ_self _) X (lv_sub hl [0, 1, 2, 3] rfl)
def q_number (V : sV) (v : Int32) : Int32 → sV → Prop := fun x V1 => sAg [1, 39, 40, 41, 42, 43, 44, 50] V V1 ∧ (sFr V → x = fNumber v)
set_option maxRecDepth 100000 in
set_option maxHeartbeats 4000000 in
theorem k_number {l : Launch} {D : va_G} {cI : ClassId} {a : Nat → Nat} (ha : sInj SX a) (V : sV) (v : Int32) : sMI l D cI SX a V yX9_number cX9_number 2 .int 4 [.ref (a 0), .int v] (q_number V v) := by
  refine sMIof ha (by decide +kernel) (Nat.le_of_ble_eq_true rfl) ?_
  intro p e s m below meth c ls G X hl
  obtain ⟨hx, hb, hml, hown, hts, hlocks, hr, hK⟩ := id G
  have hl : lv_has ls 2 [(0, .ref (a 0)), (1, .int v)] := hl
  refine lv_iload_n hx hb dX9_number_0 rfl (lv_at hl 1 rfl) ?_
  refine lv_bipush (v := (-50)) hx hb dX9_number_1 (by decide) ?_
  refine sIge (tgt := 13) hx hb (rfl : Int32.toInt v = _) (by decide : ((-50) : Int32).toInt = -50) dX9_number_3 (by decide) (fun c3 => ?_) (fun c3 => ?_)
  · skip
    refine lv_iload_n hx hb dX9_number_13 rfl (lv_at hl 1 rfl) ?_
    refine lv_bipush (v := 50) hx hb dX9_number_14 (by decide) ?_
    refine sIle (tgt := 26) hx hb (rfl : Int32.toInt v = _) (by decide : (50 : Int32).toInt = 50) dX9_number_16 (by decide) (fun c16 => ?_) (fun c16 => ?_)
    · skip
      refine lv_aload_n hx hb dX9_number_26 rfl (lv_at hl 0 rfl) ?_
      refine sgR G X 0 6 rfl rfl fl_X9_49 dX9_number_27 ?_
      refine lv_iconst (v := 0) hx hb dX9_number_30 (by decide) ?_
      refine lv_iconst (v := 0) hx hb dX9_number_31 (by decide) ?_
      refine lv_iconst (v := 0) hx hb dX9_number_32 (by decide) ?_
      refine lv_iload_n hx hb dX9_number_33 rfl (lv_at hl 1 rfl) ?_
      refine scV (ci := 0) (As := [.int 0, .int 0, .int 0, .int v]) (rest := []) G X (k_airBecome ha V 50 rfl 0 0 0 v) iy_X0_become ml_X9_213 rfl rfl rfl rfl hl.1 (by decide) (by decide) (Nat.le_of_ble_eq_true rfl) dX9_number_34 (fun V34 H locs p34 X => ?_)
      refine lv_aload_n hx hb dX9_number_37 rfl (lv_at hl 0 rfl) ?_
      refine sgR G X 0 3 rfl rfl fl_X9_28 dX9_number_38 ?_
      refine lv_iconst (v := 0) hx hb dX9_number_41 (by decide) ?_
      refine scV (ci := 1) (As := [.int 0]) (rest := []) G X (k_takeSizes ha V34 0) iy_X1_takeSizes ml_X9_217 rfl rfl rfl rfl hl.1 (by decide) (by decide) (Nat.le_of_ble_eq_true rfl) dX9_number_42 (fun V42 H locs p42 X => ?_)
      refine lv_aload_n hx hb dX9_number_45 rfl (lv_at hl 0 rfl) ?_
      refine sgR G X 0 3 rfl rfl fl_X9_28 dX9_number_46 ?_
      refine lv_aload_n hx hb dX9_number_49 rfl (lv_at hl 0 rfl) ?_
      refine sgR G X 0 6 rfl rfl fl_X9_49 dX9_number_50 ?_
      refine scV (ci := 1) (As := [.ref (a 50)]) (rest := []) G X (k_settle ha V42 50 rfl (by first | decide | assumption)) iy_X1_settle ml_X9_220 rfl rfl rfl rfl hl.1 (by decide) (by decide) (Nat.le_of_ble_eq_true rfl) dX9_number_53 (fun V53 H locs p53 X => ?_)
      refine lv_aload_n hx hb dX9_number_56 rfl (lv_at hl 0 rfl) ?_
      refine sgR G X 0 3 rfl rfl fl_X9_28 dX9_number_57 ?_
      refine scI (ci := 1) (As := []) (rest := []) G X (k_inflow ha V53 ) iy_X1_inflow ml_X9_210 rfl rfl rfl rfl hl.1 (by decide) (by decide) (Nat.le_of_ble_eq_true rfl) dX9_number_60 (fun y60 V60 H locs p60 X => ?_)
      obtain ⟨p60, z60⟩ := p60
      subst V60
      exact srI G X (rfl) dX9_number_63 (by (have hB : sAg [39] V34 V42 := p42; exact ⟨(((sAg.mono p34.1 (by decide)).tr (sAg.mono p42 (by decide))).tr (sAg.mono p53.1 (by decide))), fun hf => by rw [p60 (p53.2 (sQ0 (by rw [hB 50 (by decide)]; exact p34.2.2.1) (by rw [hB 3 (by decide), p34.1 3 (by decide)]; exact hf.t.1)) (by rw [hB 45 (by decide), p34.1 45 (by decide)]; exact hf.2.2.1))]; unfold fNumber; rw [if_neg (by omega), if_neg (by omega)]⟩))
    · skip
      refine lv_aload_n hx hb dX9_number_19 rfl (lv_at hl 0 rfl) ?_
      refine lv_bipush (v := (-6)) hx hb dX9_number_20 (by decide) ?_
      refine scI (ci := 8) (As := [.int (-6)]) (rest := []) G X (k_refuse ha V (-6)) iy_X9_refuse ml_X9_57 rfl rfl rfl rfl hl.1 (by decide) (by decide) (Nat.le_of_ble_eq_true rfl) dX9_number_22 (fun y22 V22 H locs p22 X => ?_)
      exact srI G X (rfl) dX9_number_25 (by exact ⟨sAg.mono p22.1 (by decide), (fun hf => by have hg := hf.t; rw [p22.2]; unfold fNumber; (repeat' split) <;> first | rfl | (exfalso; omega))⟩)
  · skip
    refine lv_aload_n hx hb dX9_number_6 rfl (lv_at hl 0 rfl) ?_
    refine lv_bipush (v := (-4)) hx hb dX9_number_7 (by decide) ?_
    refine scI (ci := 8) (As := [.int (-4)]) (rest := []) G X (k_refuse ha V (-4)) iy_X9_refuse ml_X9_57 rfl rfl rfl rfl hl.1 (by decide) (by decide) (Nat.le_of_ble_eq_true rfl) dX9_number_9 (fun y9 V9 H locs p9 X => ?_)
    exact srI G X (rfl) dX9_number_12 (by exact ⟨sAg.mono p9.1 (by decide), (fun hf => by have hg := hf.t; rw [p9.2]; unfold fNumber; (repeat' split) <;> first | rfl | (exfalso; omega))⟩)
def q_winter (V : sV)  : Int32 → sV → Prop := fun x V1 => sAg [39, 40, 41, 42, 43, 44, 50] V V1 ∧ (sFr V → x = 0)
set_option maxRecDepth 100000 in
set_option maxHeartbeats 4000000 in
theorem k_winter {l : Launch} {D : va_G} {cI : ClassId} {a : Nat → Nat} (ha : sInj SX a) (V : sV)  : sMI l D cI SX a V yX9_winter cX9_winter 3 .int 5 [.ref (a 0)] (q_winter V ) := by
  refine sMIof ha (by decide +kernel) (Nat.le_of_ble_eq_true rfl) ?_
  intro p e s m below meth c ls G X hl
  obtain ⟨hx, hb, hml, hown, hts, hlocks, hr, hK⟩ := id G
  have hl : lv_has ls 3 [(0, .ref (a 0))] := hl
  refine lv_iconst (v := 0) hx hb dX9_winter_0 (by decide) ?_
  refine lv_istore_n (lv' := [(1, .int 0), (0, .ref (a 0))]) hx hb dX9_winter_1 rfl hl (by decide) rfl (fun ls hl => ?_)
  refine lv_iconst (v := 0) hx hb dX9_winter_2 (by decide) ?_
  refine lv_istore_n (lv' := [(2, .int 0), (1, .int 0), (0, .ref (a 0))]) hx hb dX9_winter_3 rfl hl (by decide) rfl (fun ls hl => ?_)
  have L4 : ∀ (fu4 : Nat) (i : Int32) (z : Int32) (Y : sV) (H : Heap) (locs : List Loc) (ls : Array Slot), (0 ≤ i.toInt) → (sAg [39, 40, 41, 42, 43, 44, 50] V Y) → (sFr V → z = 0) → (((V 11 3).toInt - i.toInt).toNat) < fu4 → sWS D cI SX a Y s.heap H locs → lv_has ls 3 [(2, .int i), (1, .int z), (0, .ref (a 0))] → W p l e (rmD 5) s m ([.ref (a 0)] : List Value).toArray below meth c H locs 0 0 (MQ below (va_Qi (q_winter V ) (fun V1 t => va_P D vwCl (sWd cI SX a V1) t.heap) (sA SX a s.heap.size)) ([.ref (a 0)] : List Value).toArray s 0 0 (sA SX a s.heap.size)) (F0 m 4 ls []) := by
    intro fu4
    induction fu4 with
    | zero => intro i z Y H locs ls hi hA hv hm4; exact absurd hm4 (Nat.not_lt_zero _)
    | succ fu4 ih4 =>
      intro i z Y H locs ls hi hA hv hm4 X hl
      refine lv_iload_n hx hb dX9_winter_4 rfl (lv_at hl 0 rfl) ?_
      refine lv_aload_n hx hb dX9_winter_5 rfl (lv_at hl 2 rfl) ?_
      refine sgR G X 0 0 rfl rfl fl_X9_10 dX9_winter_6 ?_
      refine sgR G X 2 2 rfl rfl fl_X9_126 dX9_winter_9 ?_
      refine sgI G X 11 3 rfl rfl fl_X9_130 dX9_winter_12 ?_
      refine sIge (tgt := 47) hx hb (rfl : Int32.toInt i = _) (rfl : Int32.toInt (Y 11 3) = _) dX9_winter_15 (by decide) (fun c15 => ?_) (fun c15 => ?_)
      · skip
        rw [hA 11 (by decide)] at c15
        refine lv_iload_n hx hb dX9_winter_47 rfl (lv_at hl 1 rfl) ?_
        exact srI G X (rfl) dX9_winter_48 (by exact ⟨hA, hv⟩)
      · skip
        rw [hA 11 (by decide)] at c15
        refine lv_aload_n hx hb dX9_winter_18 rfl (lv_at hl 2 rfl) ?_
        refine lv_iload_n hx hb dX9_winter_19 rfl (lv_at hl 0 rfl) ?_
        refine scV (ci := 8) (As := [.int i]) (rest := []) G X (k_settleInWeather ha Y i) iy_X9_settleInWeather ml_X9_224 rfl rfl rfl rfl hl.1 (by decide) (by decide) (Nat.le_of_ble_eq_true rfl) dX9_winter_20 (fun V20 H locs p20 X => ?_)
        refine lv_iload_n hx hb dX9_winter_23 rfl (lv_at hl 1 rfl) ?_
        refine lv_aload_n hx hb dX9_winter_24 rfl (lv_at hl 2 rfl) ?_
        refine sgR G X 0 3 rfl rfl fl_X9_28 dX9_winter_25 ?_
        refine scI (ci := 1) (As := []) (rest := [.int z]) G X (k_inflow ha V20 ) iy_X1_inflow ml_X9_210 rfl rfl rfl rfl hl.1 (by decide) (by decide) (Nat.le_of_ble_eq_true rfl) dX9_winter_28 (fun y28 V28 H locs p28 X => ?_)
        obtain ⟨p28, z28⟩ := p28
        subst V28
        refine lv_aload_n hx hb dX9_winter_31 rfl (lv_at hl 2 rfl) ?_
        refine sgR G X 0 6 rfl rfl fl_X9_49 dX9_winter_32 ?_
        refine sgI G X 50 0 rfl rfl fl_X9_146 dX9_winter_35 ?_
        refine lv_imul hx hb dX9_winter_38 ?_
        refine lv_topi (fun x38 e38 => ?_)
        refine lv_iadd hx hb dX9_winter_39 ?_
        refine lv_topi (fun x39 e39 => ?_)
        refine lv_istore_n (lv' := [(1, .int x39), (2, .int i), (0, .ref (a 0))]) hx hb dX9_winter_40 rfl hl (by decide) rfl (fun ls hl => ?_)
        obtain ⟨x41, e41⟩ : ∃ y : Int32, y = i + (1) := ⟨_, rfl⟩
        refine lv_iinc (v := x41) (lv' := [(2, .int x41), (1, .int x39), (0, .ref (a 0))]) hx hb dX9_winter_41 hl (k := 1) rfl (by rw [e41]; rfl) (by decide) rfl (fun ls hl => ?_)
        refine lv_goto (tgt := 4) hx hb dX9_winter_44 (by decide) ?_
        exact ih4 x41 x39 V20 _ _ _ (by rw [i32_i e41 (by have := i32_hi (V 11 3); omega)]; omega) (hA.tr p20) ((fun hf => by exfalso; have hg := hf.t; omega)) (by rw [i32_i e41 (by have := i32_hi (V 11 3); omega)]; omega) X (lv_sub hl [0, 1, 2] rfl)
  exact L4 _ 0 0 V _ _ _ (by decide) (sAg.rf) (fun _ => rfl) (Nat.lt_succ_self _) X (lv_sub hl [0, 1, 2] rfl)
def q_turnsAbout (V : sV)  : Int32 → sV → Prop := fun x V1 => sAg [39, 40, 41, 42, 43, 44, 50] V V1 ∧ (sFr V → x = 0)
set_option maxRecDepth 100000 in
set_option maxHeartbeats 4000000 in
theorem k_turnsAbout {l : Launch} {D : va_G} {cI : ClassId} {a : Nat → Nat} (ha : sInj SX a) (V : sV)  : sMI l D cI SX a V yX9_turnsAbout cX9_turnsAbout 6 .int 5 [.ref (a 0)] (q_turnsAbout V ) := by
  refine sMIof ha (by decide +kernel) (Nat.le_of_ble_eq_true rfl) ?_
  intro p e s m below meth c ls G X hl
  obtain ⟨hx, hb, hml, hown, hts, hlocks, hr, hK⟩ := id G
  have hl : lv_has ls 6 [(0, .ref (a 0))] := hl
  refine lv_iconst (v := 0) hx hb dX9_turnsAbout_0 (by decide) ?_
  refine lv_istore_n (lv' := [(1, .int 0), (0, .ref (a 0))]) hx hb dX9_turnsAbout_1 rfl hl (by decide) rfl (fun ls hl => ?_)
  refine lv_iconst (v := 0) hx hb dX9_turnsAbout_2 (by decide) ?_
  refine lv_istore_n (lv' := [(2, .int 0), (1, .int 0), (0, .ref (a 0))]) hx hb dX9_turnsAbout_3 rfl hl (by decide) rfl (fun ls hl => ?_)
  refine lv_iconst (v := 0) hx hb dX9_turnsAbout_4 (by decide) ?_
  refine lv_istore_n (lv' := [(3, .int 0), (2, .int 0), (1, .int 0), (0, .ref (a 0))]) hx hb dX9_turnsAbout_5 rfl hl (by decide) rfl (fun ls hl => ?_)
  have L6 : ∀ (fu6 : Nat) (i : Int32) (z : Int32) (u : Int32) (Y : sV) (H : Heap) (locs : List Loc) (ls : Array Slot), (0 ≤ i.toInt) → (sAg [39, 40, 41, 42, 43, 44, 50] V Y) → (sFr V → z = 0 ∧ u = 0) → (((V 11 3).toInt - i.toInt).toNat) < fu6 → sWS D cI SX a Y s.heap H locs → lv_has ls 6 [(3, .int i), (2, .int u), (1, .int z), (0, .ref (a 0))] → W p l e (rmD 5) s m ([.ref (a 0)] : List Value).toArray below meth c H locs 0 0 (MQ below (va_Qi (q_turnsAbout V ) (fun V1 t => va_P D vwCl (sWd cI SX a V1) t.heap) (sA SX a s.heap.size)) ([.ref (a 0)] : List Value).toArray s 0 0 (sA SX a s.heap.size)) (F0 m 6 ls []) := by
    intro fu6
    induction fu6 with
    | zero => intro i z u Y H locs ls hi hA hv hm6; exact absurd hm6 (Nat.not_lt_zero _)
    | succ fu6 ih6 =>
      intro i z u Y H locs ls hi hA hv hm6 X hl
      refine lv_iload_n hx hb dX9_turnsAbout_6 rfl (lv_at hl 0 rfl) ?_
      refine lv_aload_n hx hb dX9_turnsAbout_7 rfl (lv_at hl 3 rfl) ?_
      refine sgR G X 0 0 rfl rfl fl_X9_10 dX9_turnsAbout_8 ?_
      refine sgR G X 2 2 rfl rfl fl_X9_126 dX9_turnsAbout_11 ?_
      refine sgI G X 11 3 rfl rfl fl_X9_130 dX9_turnsAbout_14 ?_
      refine sIge (tgt := 98) hx hb (rfl : Int32.toInt i = _) (rfl : Int32.toInt (Y 11 3) = _) dX9_turnsAbout_17 (by decide) (fun c17 => ?_) (fun c17 => ?_)
      · skip
        rw [hA 11 (by decide)] at c17
        refine lv_iload_n hx hb dX9_turnsAbout_98 rfl (lv_at hl 2 rfl) ?_
        refine lv_iload_n hx hb dX9_turnsAbout_99 rfl (lv_at hl 1 rfl) ?_
        refine lv_iand hx hb dX9_turnsAbout_100 ?_
        refine lv_topi (fun x100 e100 => ?_)
        exact srI G X (rfl) dX9_turnsAbout_101 (by exact ⟨hA, fun hf => by obtain ⟨h1, h2⟩ := hv hf; rw [e100, h1, h2]; rfl⟩)
      · skip
        rw [hA 11 (by decide)] at c17
        refine lv_aload_n hx hb dX9_turnsAbout_20 rfl (lv_at hl 3 rfl) ?_
        refine lv_iload_n hx hb dX9_turnsAbout_21 rfl (lv_at hl 0 rfl) ?_
        refine scV (ci := 8) (As := [.int i]) (rest := []) G X (k_settleInWeather ha Y i) iy_X9_settleInWeather ml_X9_224 rfl rfl rfl rfl hl.1 (by decide) (by decide) (Nat.le_of_ble_eq_true rfl) dX9_turnsAbout_22 (fun V22 H locs p22 X => ?_)
        refine lv_iconst (v := 0) hx hb dX9_turnsAbout_25 (by decide) ?_
        refine lv_istore (lv' := [(4, .int 0), (3, .int i), (2, .int u), (1, .int z), (0, .ref (a 0))]) hx hb dX9_turnsAbout_26 hl (by decide) rfl (fun ls hl => ?_)
        have L28 : ∀ (fu28 : Nat) (j : Int32) (z2 : Int32) (u2 : Int32) (H : Heap) (locs : List Loc) (ls : Array Slot), (0 ≤ j.toInt) → (((V22 3 7).toInt - j.toInt).toNat) < fu28 → sWS D cI SX a V22 s.heap H locs → lv_has ls 6 [(4, .int j), (3, .int i), (2, .int u2), (1, .int z2), (0, .ref (a 0))] → W p l e (rmD 5) s m ([.ref (a 0)] : List Value).toArray below meth c H locs 0 0 (MQ below (va_Qi (q_turnsAbout V ) (fun V1 t => va_P D vwCl (sWd cI SX a V1) t.heap) (sA SX a s.heap.size)) ([.ref (a 0)] : List Value).toArray s 0 0 (sA SX a s.heap.size)) (F0 m 28 ls []) := by
          intro fu28
          induction fu28 with
          | zero => intro j z2 u2 H locs ls hj hm28; exact absurd hm28 (Nat.not_lt_zero _)
          | succ fu28 ih28 =>
            intro j z2 u2 H locs ls hj hm28 X hl
            refine lv_iload hx hb dX9_turnsAbout_28 (lv_at hl 0 rfl) ?_
            refine lv_aload_n hx hb dX9_turnsAbout_30 rfl (lv_at hl 4 rfl) ?_
            refine sgR G X 0 0 rfl rfl fl_X9_10 dX9_turnsAbout_31 ?_
            refine sgR G X 2 1 rfl rfl fl_X9_89 dX9_turnsAbout_34 ?_
            refine sgI G X 3 7 rfl rfl fl_X9_190 dX9_turnsAbout_37 ?_
            refine sIge (tgt := 92) hx hb (rfl : Int32.toInt j = _) (rfl : Int32.toInt (V22 3 7) = _) dX9_turnsAbout_40 (by decide) (fun c40 => ?_) (fun c40 => ?_)
            · skip
              obtain ⟨x92, e92⟩ : ∃ y : Int32, y = i + (1) := ⟨_, rfl⟩
              refine lv_iinc (v := x92) (lv' := [(3, .int x92), (4, .int j), (2, .int u2), (1, .int z2), (0, .ref (a 0))]) hx hb dX9_turnsAbout_92 hl (k := 1) rfl (by rw [e92]; rfl) (by decide) rfl (fun ls hl => ?_)
              refine lv_goto (tgt := 6) hx hb dX9_turnsAbout_95 (by decide) ?_
              exact ih6 x92 z2 u2 V22 _ _ _ (by rw [i32_i e92 (by have := i32_hi (V 11 3); omega)]; omega) (hA.tr p22) ((fun hf => by exfalso; have hg := hf.t; omega)) (by rw [i32_i e92 (by have := i32_hi (V 11 3); omega)]; omega) X (lv_sub hl [0, 2, 3, 4] rfl)
            · skip
              refine lv_aload_n hx hb dX9_turnsAbout_43 rfl (lv_at hl 4 rfl) ?_
              refine sgR G X 0 3 rfl rfl fl_X9_28 dX9_turnsAbout_44 ?_
              refine lv_iload hx hb dX9_turnsAbout_47 (lv_at hl 0 rfl) ?_
              refine scI (ci := 1) (As := [.int j]) (rest := []) G X (k_flow ha V22 j) iy_X1_flowThrough ml_X9_178 rfl rfl rfl rfl hl.1 (by decide) (by decide) (Nat.le_of_ble_eq_true rfl) dX9_turnsAbout_49 (fun y49 V49 H locs p49 X => ?_)
              obtain ⟨p49, z49⟩ := p49
              subst V49
              refine lv_istore (lv' := [(5, .int y49), (4, .int j), (3, .int i), (2, .int u2), (1, .int z2), (0, .ref (a 0))]) hx hb dX9_turnsAbout_52 hl (by decide) rfl (fun ls hl => ?_)
              refine lv_iload_n hx hb dX9_turnsAbout_54 rfl (lv_at hl 4 rfl) ?_
              refine lv_iload hx hb dX9_turnsAbout_55 (lv_at hl 0 rfl) ?_
              refine sZle (tgt := 67) hx hb (rfl : Int32.toInt y49 = _) dX9_turnsAbout_57 (by decide) (fun c57 => ?_) (fun c57 => ?_)
              · skip
                refine lv_iconst (v := 0) hx hb dX9_turnsAbout_67 (by decide) ?_
                refine lv_ior hx hb dX9_turnsAbout_68 ?_
                refine lv_topi (fun x68 e68 => ?_)
                refine lv_istore_n (lv' := [(1, .int x68), (5, .int y49), (4, .int j), (3, .int i), (2, .int u2), (0, .ref (a 0))]) hx hb dX9_turnsAbout_69 rfl hl (by decide) rfl (fun ls hl => ?_)
                refine lv_iload_n hx hb dX9_turnsAbout_70 rfl (lv_at hl 4 rfl) ?_
                refine lv_iload hx hb dX9_turnsAbout_71 (lv_at hl 1 rfl) ?_
                refine sZge (tgt := 83) hx hb (rfl : Int32.toInt y49 = _) dX9_turnsAbout_73 (by decide) (fun c73 => ?_) (fun c73 => ?_)
                · skip
                  refine lv_iconst (v := 0) hx hb dX9_turnsAbout_83 (by decide) ?_
                  refine lv_ior hx hb dX9_turnsAbout_84 ?_
                  refine lv_topi (fun x84 e84 => ?_)
                  refine lv_istore_n (lv' := [(2, .int x84), (1, .int x68), (5, .int y49), (4, .int j), (3, .int i), (0, .ref (a 0))]) hx hb dX9_turnsAbout_85 rfl hl (by decide) rfl (fun ls hl => ?_)
                  obtain ⟨x86, e86⟩ : ∃ y : Int32, y = j + (1) := ⟨_, rfl⟩
                  refine lv_iinc (v := x86) (lv' := [(4, .int x86), (2, .int x84), (1, .int x68), (5, .int y49), (3, .int i), (0, .ref (a 0))]) hx hb dX9_turnsAbout_86 hl (k := 3) rfl (by rw [e86]; rfl) (by decide) rfl (fun ls hl => ?_)
                  refine lv_goto (tgt := 28) hx hb dX9_turnsAbout_89 (by decide) ?_
                  exact ih28 x86 x68 x84 _ _ _ (by rw [i32_i e86 (by have := i32_hi (V22 3 7); omega)]; omega) (by rw [i32_i e86 (by have := i32_hi (V22 3 7); omega)]; omega) X (lv_sub hl [0, 4, 1, 2, 5] rfl)
                · skip
                  refine lv_iconst (v := 1) hx hb dX9_turnsAbout_76 (by decide) ?_
                  refine lv_iload hx hb dX9_turnsAbout_77 (lv_at hl 2 rfl) ?_
                  refine lv_ishl hx hb dX9_turnsAbout_79 ?_
                  refine lv_topi (fun x79 e79 => ?_)
                  refine lv_goto (tgt := 84) hx hb dX9_turnsAbout_80 (by decide) ?_
                  refine lv_ior hx hb dX9_turnsAbout_84 ?_
                  refine lv_topi (fun x84 e84 => ?_)
                  refine lv_istore_n (lv' := [(2, .int x84), (1, .int x68), (5, .int y49), (4, .int j), (3, .int i), (0, .ref (a 0))]) hx hb dX9_turnsAbout_85 rfl hl (by decide) rfl (fun ls hl => ?_)
                  obtain ⟨x86, e86⟩ : ∃ y : Int32, y = j + (1) := ⟨_, rfl⟩
                  refine lv_iinc (v := x86) (lv' := [(4, .int x86), (2, .int x84), (1, .int x68), (5, .int y49), (3, .int i), (0, .ref (a 0))]) hx hb dX9_turnsAbout_86 hl (k := 3) rfl (by rw [e86]; rfl) (by decide) rfl (fun ls hl => ?_)
                  refine lv_goto (tgt := 28) hx hb dX9_turnsAbout_89 (by decide) ?_
                  exact ih28 x86 x68 x84 _ _ _ (by rw [i32_i e86 (by have := i32_hi (V22 3 7); omega)]; omega) (by rw [i32_i e86 (by have := i32_hi (V22 3 7); omega)]; omega) X (lv_sub hl [0, 4, 1, 2, 5] rfl)
              · skip
                refine lv_iconst (v := 1) hx hb dX9_turnsAbout_60 (by decide) ?_
                refine lv_iload hx hb dX9_turnsAbout_61 (lv_at hl 1 rfl) ?_
                refine lv_ishl hx hb dX9_turnsAbout_63 ?_
                refine lv_topi (fun x63 e63 => ?_)
                refine lv_goto (tgt := 68) hx hb dX9_turnsAbout_64 (by decide) ?_
                refine lv_ior hx hb dX9_turnsAbout_68 ?_
                refine lv_topi (fun x68 e68 => ?_)
                refine lv_istore_n (lv' := [(1, .int x68), (5, .int y49), (4, .int j), (3, .int i), (2, .int u2), (0, .ref (a 0))]) hx hb dX9_turnsAbout_69 rfl hl (by decide) rfl (fun ls hl => ?_)
                refine lv_iload_n hx hb dX9_turnsAbout_70 rfl (lv_at hl 4 rfl) ?_
                refine lv_iload hx hb dX9_turnsAbout_71 (lv_at hl 1 rfl) ?_
                refine sZge (tgt := 83) hx hb (rfl : Int32.toInt y49 = _) dX9_turnsAbout_73 (by decide) (fun c73 => ?_) (fun c73 => ?_)
                · skip
                  refine lv_iconst (v := 0) hx hb dX9_turnsAbout_83 (by decide) ?_
                  refine lv_ior hx hb dX9_turnsAbout_84 ?_
                  refine lv_topi (fun x84 e84 => ?_)
                  refine lv_istore_n (lv' := [(2, .int x84), (1, .int x68), (5, .int y49), (4, .int j), (3, .int i), (0, .ref (a 0))]) hx hb dX9_turnsAbout_85 rfl hl (by decide) rfl (fun ls hl => ?_)
                  obtain ⟨x86, e86⟩ : ∃ y : Int32, y = j + (1) := ⟨_, rfl⟩
                  refine lv_iinc (v := x86) (lv' := [(4, .int x86), (2, .int x84), (1, .int x68), (5, .int y49), (3, .int i), (0, .ref (a 0))]) hx hb dX9_turnsAbout_86 hl (k := 3) rfl (by rw [e86]; rfl) (by decide) rfl (fun ls hl => ?_)
                  refine lv_goto (tgt := 28) hx hb dX9_turnsAbout_89 (by decide) ?_
                  exact ih28 x86 x68 x84 _ _ _ (by rw [i32_i e86 (by have := i32_hi (V22 3 7); omega)]; omega) (by rw [i32_i e86 (by have := i32_hi (V22 3 7); omega)]; omega) X (lv_sub hl [0, 4, 1, 2, 5] rfl)
                · skip
                  refine lv_iconst (v := 1) hx hb dX9_turnsAbout_76 (by decide) ?_
                  refine lv_iload hx hb dX9_turnsAbout_77 (lv_at hl 2 rfl) ?_
                  refine lv_ishl hx hb dX9_turnsAbout_79 ?_
                  refine lv_topi (fun x79 e79 => ?_)
                  refine lv_goto (tgt := 84) hx hb dX9_turnsAbout_80 (by decide) ?_
                  refine lv_ior hx hb dX9_turnsAbout_84 ?_
                  refine lv_topi (fun x84 e84 => ?_)
                  refine lv_istore_n (lv' := [(2, .int x84), (1, .int x68), (5, .int y49), (4, .int j), (3, .int i), (0, .ref (a 0))]) hx hb dX9_turnsAbout_85 rfl hl (by decide) rfl (fun ls hl => ?_)
                  obtain ⟨x86, e86⟩ : ∃ y : Int32, y = j + (1) := ⟨_, rfl⟩
                  refine lv_iinc (v := x86) (lv' := [(4, .int x86), (2, .int x84), (1, .int x68), (5, .int y49), (3, .int i), (0, .ref (a 0))]) hx hb dX9_turnsAbout_86 hl (k := 3) rfl (by rw [e86]; rfl) (by decide) rfl (fun ls hl => ?_)
                  refine lv_goto (tgt := 28) hx hb dX9_turnsAbout_89 (by decide) ?_
                  exact ih28 x86 x68 x84 _ _ _ (by rw [i32_i e86 (by have := i32_hi (V22 3 7); omega)]; omega) (by rw [i32_i e86 (by have := i32_hi (V22 3 7); omega)]; omega) X (lv_sub hl [0, 4, 1, 2, 5] rfl)
        exact L28 _ 0 z u _ _ _ (by decide) (Nat.lt_succ_self _) X (lv_sub hl [0, 1, 2, 3, 4] rfl)
  exact L6 _ 0 0 0 V _ _ _ (by decide) (sAg.rf) (fun _ => ⟨rfl, rfl⟩) (Nat.lt_succ_self _) X (lv_sub hl [0, 1, 2, 3] rfl)
def q_sizes (V : sV) (q v w : Int32) : Int32 → sV → Prop := fun x V1 => sAg [1, 39, 40, 41, 42, 43, 44] V V1 ∧ (sFr V → x = -1)
set_option maxRecDepth 100000 in
set_option maxHeartbeats 4000000 in
theorem k_sizes {l : Launch} {D : va_G} {cI : ClassId} {a : Nat → Nat} (ha : sInj SX a) (V : sV) (q v w : Int32) : sMI l D cI SX a V yX9_sizes cX9_sizes 8 .int 5 [.ref (a 0), .int q, .int v, .int w] (q_sizes V q v w) := by
  refine sMIof ha (by decide +kernel) (Nat.le_of_ble_eq_true rfl) ?_
  intro p e s m below meth c ls G X hl
  obtain ⟨hx, hb, hml, hown, hts, hlocks, hr, hK⟩ := id G
  have hl : lv_has ls 8 [(0, .ref (a 0)), (1, .int q), (2, .int v), (3, .int w)] := hl
  refine lv_aload_n hx hb dX9_sizes_0 rfl (lv_at hl 0 rfl) ?_
  refine sgR G X 0 0 rfl rfl fl_X9_10 dX9_sizes_1 ?_
  refine sgR G X 2 1 rfl rfl fl_X9_89 dX9_sizes_4 ?_
  refine lv_iload_n hx hb dX9_sizes_7 rfl (lv_at hl 1 rfl) ?_
  refine scI (ci := 2) (As := [.int q]) (rest := []) G X (k_has ha V q) iy_X2_has ml_X9_93 rfl rfl rfl rfl hl.1 (by decide) (by decide) (Nat.le_of_ble_eq_true rfl) dX9_sizes_8 (fun y8 V8 H locs p8 X => ?_)
  obtain ⟨p8, z8⟩ := p8
  subst V8
  refine sZne (tgt := 20) hx hb (rfl : Int32.toInt y8 = _) dX9_sizes_11 (by decide) (fun c11 => ?_) (fun c11 => ?_)
  · skip
    refine lv_iload_n hx hb dX9_sizes_20 rfl (lv_at hl 3 rfl) ?_
    refine sZlt (tgt := 29) hx hb (rfl : Int32.toInt w = _) dX9_sizes_21 (by decide) (fun c21 => ?_) (fun c21 => ?_)
    · skip
      refine lv_aload_n hx hb dX9_sizes_29 rfl (lv_at hl 0 rfl) ?_
      refine lv_bipush (v := (-2)) hx hb dX9_sizes_30 (by decide) ?_
      refine scI (ci := 8) (As := [.int (-2)]) (rest := []) G X (k_refuse ha V (-2)) iy_X9_refuse ml_X9_57 rfl rfl rfl rfl hl.1 (by decide) (by decide) (Nat.le_of_ble_eq_true rfl) dX9_sizes_32 (fun y32 V32 H locs p32 X => ?_)
      exact srI G X (rfl) dX9_sizes_35 (by exact ⟨sAg.mono p32.1 (by decide), (fun hf => by exfalso; have hg := hf.t; omega)⟩)
    · skip
      refine lv_iload_n hx hb dX9_sizes_24 rfl (lv_at hl 3 rfl) ?_
      refine lv_iconst (v := 2) hx hb dX9_sizes_25 (by decide) ?_
      refine sIle (tgt := 36) hx hb (rfl : Int32.toInt w = _) (by decide : (2 : Int32).toInt = 2) dX9_sizes_26 (by decide) (fun c26 => ?_) (fun c26 => ?_)
      · skip
        refine lv_bipush (v := (-9)) hx hb dX9_sizes_36 (by decide) ?_
        refine lv_istore (lv' := [(4, .int (-9)), (0, .ref (a 0)), (1, .int q), (2, .int v), (3, .int w)]) hx hb dX9_sizes_38 hl (by decide) rfl (fun ls hl => ?_)
        refine lv_bipush (v := (-9)) hx hb dX9_sizes_40 (by decide) ?_
        refine lv_istore (lv' := [(5, .int (-9)), (4, .int (-9)), (0, .ref (a 0)), (1, .int q), (2, .int v), (3, .int w)]) hx hb dX9_sizes_42 hl (by decide) rfl (fun ls hl => ?_)
        refine lv_iconst (v := 0) hx hb dX9_sizes_44 (by decide) ?_
        refine lv_istore (lv' := [(6, .int 0), (5, .int (-9)), (4, .int (-9)), (0, .ref (a 0)), (1, .int q), (2, .int v), (3, .int w)]) hx hb dX9_sizes_45 hl (by decide) rfl (fun ls hl => ?_)
        refine lv_iconst (v := 0) hx hb dX9_sizes_47 (by decide) ?_
        refine lv_istore (lv' := [(7, .int 0), (6, .int 0), (5, .int (-9)), (4, .int (-9)), (0, .ref (a 0)), (1, .int q), (2, .int v), (3, .int w)]) hx hb dX9_sizes_48 hl (by decide) rfl (fun ls hl => ?_)
        have L50 : ∀ (fu50 : Nat) (i : Int32) (b : Int32) (g : Int32) (u : Int32) (Y : sV) (H : Heap) (locs : List Loc) (ls : Array Slot), (0 ≤ i.toInt) → (sAg [39, 40, 41, 42, 43, 44] V Y) → ((10 - i.toInt).toNat) < fu50 → sWS D cI SX a Y s.heap H locs → lv_has ls 8 [(7, .int i), (6, .int u), (5, .int g), (4, .int b), (0, .ref (a 0)), (1, .int q), (2, .int v), (3, .int w)] → W p l e (rmD 5) s m ([.ref (a 0), .int q, .int v, .int w] : List Value).toArray below meth c H locs 0 0 (MQ below (va_Qi (q_sizes V q v w) (fun V1 t => va_P D vwCl (sWd cI SX a V1) t.heap) (sA SX a s.heap.size)) ([.ref (a 0), .int q, .int v, .int w] : List Value).toArray s 0 0 (sA SX a s.heap.size)) (F0 m 50 ls []) := by
          intro fu50
          induction fu50 with
          | zero => intro i b g u Y H locs ls hi hA hm50; exact absurd hm50 (Nat.not_lt_zero _)
          | succ fu50 ih50 =>
            intro i b g u Y H locs ls hi hA hm50 X hl
            refine lv_iload hx hb dX9_sizes_50 (lv_at hl 0 rfl) ?_
            refine lv_bipush (v := 9) hx hb dX9_sizes_52 (by decide) ?_
            refine sIgt (tgt := 103) hx hb (rfl : Int32.toInt i = _) (by decide : (9 : Int32).toInt = 9) dX9_sizes_54 (by decide) (fun c54 => ?_) (fun c54 => ?_)
            · skip
              refine lv_iload_n hx hb dX9_sizes_103 rfl (lv_at hl 7 rfl) ?_
              refine sZne (tgt := 112) hx hb (rfl : Int32.toInt w = _) dX9_sizes_104 (by decide) (fun c104 => ?_) (fun c104 => ?_)
              · skip
                refine lv_iload_n hx hb dX9_sizes_112 rfl (lv_at hl 7 rfl) ?_
                refine lv_iconst (v := 1) hx hb dX9_sizes_113 (by decide) ?_
                refine sIne (tgt := 122) hx hb (rfl : Int32.toInt w = _) (by decide : (1 : Int32).toInt = 1) dX9_sizes_114 (by decide) (fun c114 => ?_) (fun c114 => ?_)
                · skip
                  refine lv_iload hx hb dX9_sizes_122 (lv_at hl 1 rfl) ?_
                  exact srI G X (rfl) dX9_sizes_124 (by exact ⟨sAg.mono hA (by decide), (fun hf => by exfalso; have hg := hf.t; omega)⟩)
                · skip
                  refine lv_iload hx hb dX9_sizes_117 (lv_at hl 2 rfl) ?_
                  refine lv_goto (tgt := 124) hx hb dX9_sizes_119 (by decide) ?_
                  exact srI G X (rfl) dX9_sizes_124 (by exact ⟨sAg.mono hA (by decide), (fun hf => by exfalso; have hg := hf.t; omega)⟩)
              · skip
                refine lv_iload hx hb dX9_sizes_107 (lv_at hl 3 rfl) ?_
                refine lv_goto (tgt := 124) hx hb dX9_sizes_109 (by decide) ?_
                exact srI G X (rfl) dX9_sizes_124 (by exact ⟨sAg.mono hA (by decide), (fun hf => by exfalso; have hg := hf.t; omega)⟩)
            · skip
              refine lv_aload_n hx hb dX9_sizes_57 rfl (lv_at hl 4 rfl) ?_
              refine lv_iload_n hx hb dX9_sizes_58 rfl (lv_at hl 5 rfl) ?_
              refine lv_iload hx hb dX9_sizes_59 (lv_at hl 0 rfl) ?_
              refine scV (ci := 8) (As := [.int q, .int i]) (rest := []) G X (k_settleSized ha Y q i) iy_X9_settleSized ml_X9_206 rfl rfl rfl rfl hl.1 (by decide) (by decide) (Nat.le_of_ble_eq_true rfl) dX9_sizes_61 (fun V61 H locs p61 X => ?_)
              refine lv_aload_n hx hb dX9_sizes_64 rfl (lv_at hl 4 rfl) ?_
              refine sgR G X 0 3 rfl rfl fl_X9_28 dX9_sizes_65 ?_
              refine lv_iload_n hx hb dX9_sizes_68 rfl (lv_at hl 5 rfl) ?_
              refine scI (ci := 1) (As := [.int q]) (rest := []) G X (k_flow ha V61 q) iy_X1_flowThrough ml_X9_178 rfl rfl rfl rfl hl.1 (by decide) (by decide) (Nat.le_of_ble_eq_true rfl) dX9_sizes_69 (fun y69 V69 H locs p69 X => ?_)
              obtain ⟨p69, z69⟩ := p69
              subst V69
              refine lv_iload_n hx hb dX9_sizes_72 rfl (lv_at hl 6 rfl) ?_
              refine sIne (tgt := 97) hx hb (rfl : Int32.toInt y69 = _) (rfl : Int32.toInt v = _) dX9_sizes_73 (by decide) (fun c73 => ?_) (fun c73 => ?_)
              · skip
                obtain ⟨x97, e97⟩ : ∃ y : Int32, y = i + (1) := ⟨_, rfl⟩
                refine lv_iinc (v := x97) (lv' := [(7, .int x97), (6, .int u), (5, .int g), (4, .int b), (0, .ref (a 0)), (1, .int q), (2, .int v), (3, .int w)]) hx hb dX9_sizes_97 hl (k := 0) rfl (by rw [e97]; rfl) (by decide) rfl (fun ls hl => ?_)
                refine lv_goto (tgt := 50) hx hb dX9_sizes_100 (by decide) ?_
                exact ih50 x97 b g u V61 _ _ _ (by rw [i32_i e97 (by omega)]; omega) (hA.tr p61) (by rw [i32_i e97 (by omega)]; omega) X (lv_sub hl [0, 1, 2, 3, 4, 5, 6, 7] rfl)
              · skip
                refine lv_iload hx hb dX9_sizes_76 (lv_at hl 1 rfl) ?_
                refine sZne (tgt := 86) hx hb (rfl : Int32.toInt u = _) dX9_sizes_78 (by decide) (fun c78 => ?_) (fun c78 => ?_)
                · skip
                  refine lv_iload hx hb dX9_sizes_86 (lv_at hl 3 rfl) ?_
                  refine lv_istore (lv' := [(4, .int b), (7, .int i), (6, .int u), (5, .int g), (0, .ref (a 0)), (1, .int q), (2, .int v), (3, .int w)]) hx hb dX9_sizes_88 hl (by decide) rfl (fun ls hl => ?_)
                  refine lv_iload hx hb dX9_sizes_90 (lv_at hl 1 rfl) ?_
                  refine lv_istore (lv' := [(5, .int i), (4, .int b), (7, .int i), (6, .int u), (0, .ref (a 0)), (1, .int q), (2, .int v), (3, .int w)]) hx hb dX9_sizes_92 hl (by decide) rfl (fun ls hl => ?_)
                  obtain ⟨x94, e94⟩ : ∃ y : Int32, y = u + (1) := ⟨_, rfl⟩
                  refine lv_iinc (v := x94) (lv' := [(6, .int x94), (5, .int i), (4, .int b), (7, .int i), (0, .ref (a 0)), (1, .int q), (2, .int v), (3, .int w)]) hx hb dX9_sizes_94 hl (k := 3) rfl (by rw [e94]; rfl) (by decide) rfl (fun ls hl => ?_)
                  obtain ⟨x97, e97⟩ : ∃ y : Int32, y = i + (1) := ⟨_, rfl⟩
                  refine lv_iinc (v := x97) (lv' := [(7, .int x97), (6, .int x94), (5, .int i), (4, .int b), (0, .ref (a 0)), (1, .int q), (2, .int v), (3, .int w)]) hx hb dX9_sizes_97 hl (k := 3) rfl (by rw [e97]; rfl) (by decide) rfl (fun ls hl => ?_)
                  refine lv_goto (tgt := 50) hx hb dX9_sizes_100 (by decide) ?_
                  exact ih50 x97 b i x94 V61 _ _ _ (by rw [i32_i e97 (by omega)]; omega) (hA.tr p61) (by rw [i32_i e97 (by omega)]; omega) X (lv_sub hl [0, 1, 2, 3, 4, 5, 6, 7] rfl)
                · skip
                  refine lv_iload hx hb dX9_sizes_81 (lv_at hl 0 rfl) ?_
                  refine lv_goto (tgt := 88) hx hb dX9_sizes_83 (by decide) ?_
                  refine lv_istore (lv' := [(4, .int i), (7, .int i), (6, .int u), (5, .int g), (0, .ref (a 0)), (1, .int q), (2, .int v), (3, .int w)]) hx hb dX9_sizes_88 hl (by decide) rfl (fun ls hl => ?_)
                  refine lv_iload hx hb dX9_sizes_90 (lv_at hl 1 rfl) ?_
                  refine lv_istore (lv' := [(5, .int i), (4, .int i), (7, .int i), (6, .int u), (0, .ref (a 0)), (1, .int q), (2, .int v), (3, .int w)]) hx hb dX9_sizes_92 hl (by decide) rfl (fun ls hl => ?_)
                  obtain ⟨x94, e94⟩ : ∃ y : Int32, y = u + (1) := ⟨_, rfl⟩
                  refine lv_iinc (v := x94) (lv' := [(6, .int x94), (5, .int i), (4, .int i), (7, .int i), (0, .ref (a 0)), (1, .int q), (2, .int v), (3, .int w)]) hx hb dX9_sizes_94 hl (k := 3) rfl (by rw [e94]; rfl) (by decide) rfl (fun ls hl => ?_)
                  obtain ⟨x97, e97⟩ : ∃ y : Int32, y = i + (1) := ⟨_, rfl⟩
                  refine lv_iinc (v := x97) (lv' := [(7, .int x97), (6, .int x94), (5, .int i), (4, .int i), (0, .ref (a 0)), (1, .int q), (2, .int v), (3, .int w)]) hx hb dX9_sizes_97 hl (k := 3) rfl (by rw [e97]; rfl) (by decide) rfl (fun ls hl => ?_)
                  refine lv_goto (tgt := 50) hx hb dX9_sizes_100 (by decide) ?_
                  exact ih50 x97 i i x94 V61 _ _ _ (by rw [i32_i e97 (by omega)]; omega) (hA.tr p61) (by rw [i32_i e97 (by omega)]; omega) X (lv_sub hl [0, 1, 2, 3, 4, 5, 6, 7] rfl)
        exact L50 _ 0 (-9) (-9) 0 V _ _ _ (by decide) (sAg.rf) (Nat.lt_succ_self _) X (lv_sub hl [0, 1, 2, 3, 4, 5, 6, 7] rfl)
      · skip
        refine lv_aload_n hx hb dX9_sizes_29 rfl (lv_at hl 0 rfl) ?_
        refine lv_bipush (v := (-2)) hx hb dX9_sizes_30 (by decide) ?_
        refine scI (ci := 8) (As := [.int (-2)]) (rest := []) G X (k_refuse ha V (-2)) iy_X9_refuse ml_X9_57 rfl rfl rfl rfl hl.1 (by decide) (by decide) (Nat.le_of_ble_eq_true rfl) dX9_sizes_32 (fun y32 V32 H locs p32 X => ?_)
        exact srI G X (rfl) dX9_sizes_35 (by exact ⟨sAg.mono p32.1 (by decide), (fun hf => by exfalso; have hg := hf.t; omega)⟩)
  · skip
    refine lv_aload_n hx hb dX9_sizes_14 rfl (lv_at hl 0 rfl) ?_
    refine lv_iconst (v := (-1)) hx hb dX9_sizes_15 (by decide) ?_
    refine scI (ci := 8) (As := [.int (-1)]) (rest := []) G X (k_refuse ha V (-1)) iy_X9_refuse ml_X9_57 rfl rfl rfl rfl hl.1 (by decide) (by decide) (Nat.le_of_ble_eq_true rfl) dX9_sizes_16 (fun y16 V16 H locs p16 X => ?_)
    exact srI G X (rfl) dX9_sizes_19 (by exact ⟨sAg.mono p16.1 (by decide), fun _ => p16.2⟩)
def q_hidden (V : sV) (v q : Int32) : Int32 → sV → Prop := fun x V1 => sAg [1, 3, 4, 5, 6, 7, 8, 9, 10, 39, 40, 41, 42, 43, 44] V V1 ∧ (sFr V → x = fHidden v q)
set_option maxRecDepth 100000 in
set_option maxHeartbeats 4000000 in
theorem k_hidden {l : Launch} {D : va_G} {cI : ClassId} {a : Nat → Nat} (ha : sInj SX a) (V : sV) (v q : Int32) : sMI l D cI SX a V yX9_hidden cX9_hidden 5 .int 5 [.ref (a 0), .int v, .int q] (q_hidden V v q) := by
  refine sMIof ha (by decide +kernel) (Nat.le_of_ble_eq_true rfl) ?_
  intro p e s m below meth c ls G X hl
  obtain ⟨hx, hb, hml, hown, hts, hlocks, hr, hK⟩ := id G
  have hl : lv_has ls 5 [(0, .ref (a 0)), (1, .int v), (2, .int q)] := hl
  refine lv_iload_n hx hb dX9_hidden_0 rfl (lv_at hl 1 rfl) ?_
  refine sZlt (tgt := 8) hx hb (rfl : Int32.toInt v = _) dX9_hidden_1 (by decide) (fun c1 => ?_) (fun c1 => ?_)
  · skip
    refine lv_aload_n hx hb dX9_hidden_8 rfl (lv_at hl 0 rfl) ?_
    refine lv_bipush (v := (-4)) hx hb dX9_hidden_9 (by decide) ?_
    refine scI (ci := 8) (As := [.int (-4)]) (rest := []) G X (k_refuse ha V (-4)) iy_X9_refuse ml_X9_57 rfl rfl rfl rfl hl.1 (by decide) (by decide) (Nat.le_of_ble_eq_true rfl) dX9_hidden_11 (fun y11 V11 H locs p11 X => ?_)
    exact srI G X (rfl) dX9_hidden_14 (by exact ⟨sAg.mono p11.1 (by decide), (fun hf => by have hg := hf.t; rw [p11.2]; unfold fHidden; (repeat' split) <;> first | rfl | (exfalso; omega))⟩)
  · skip
    refine lv_iload_n hx hb dX9_hidden_4 rfl (lv_at hl 2 rfl) ?_
    refine sZge (tgt := 15) hx hb (rfl : Int32.toInt q = _) dX9_hidden_5 (by decide) (fun c5 => ?_) (fun c5 => ?_)
    · skip
      refine lv_iload_n hx hb dX9_hidden_15 rfl (lv_at hl 1 rfl) ?_
      refine lv_bipush (v := 9) hx hb dX9_hidden_16 (by decide) ?_
      refine sIgt (tgt := 34) hx hb (rfl : Int32.toInt v = _) (by decide : (9 : Int32).toInt = 9) dX9_hidden_18 (by decide) (fun c18 => ?_) (fun c18 => ?_)
      · skip
        refine lv_aload_n hx hb dX9_hidden_34 rfl (lv_at hl 0 rfl) ?_
        refine lv_bipush (v := (-6)) hx hb dX9_hidden_35 (by decide) ?_
        refine scI (ci := 8) (As := [.int (-6)]) (rest := []) G X (k_refuse ha V (-6)) iy_X9_refuse ml_X9_57 rfl rfl rfl rfl hl.1 (by decide) (by decide) (Nat.le_of_ble_eq_true rfl) dX9_hidden_37 (fun y37 V37 H locs p37 X => ?_)
        exact srI G X (rfl) dX9_hidden_40 (by exact ⟨sAg.mono p37.1 (by decide), (fun hf => by have hg := hf.t; rw [p37.2]; unfold fHidden; (repeat' split) <;> first | rfl | (exfalso; omega))⟩)
      · skip
        refine lv_aload_n hx hb dX9_hidden_21 rfl (lv_at hl 0 rfl) ?_
        refine sgR G X 0 0 rfl rfl fl_X9_10 dX9_hidden_22 ?_
        refine sgR G X 2 1 rfl rfl fl_X9_89 dX9_hidden_25 ?_
        refine scI (ci := 2) (As := []) (rest := []) G X (k_oFull ha V ) iy_X2_isFull ml_X9_227 rfl rfl rfl rfl hl.1 (by decide) (by decide) (Nat.le_of_ble_eq_true rfl) dX9_hidden_28 (fun y28 V28 H locs p28 X => ?_)
        obtain ⟨p28, z28⟩ := p28
        subst V28
        refine sZeq (tgt := 41) hx hb (rfl : Int32.toInt y28 = _) dX9_hidden_31 (by decide) (fun c31 => ?_) (fun c31 => ?_)
        · skip
          refine lv_bipush (v := (-9)) hx hb dX9_hidden_41 (by decide) ?_
          refine lv_istore_n (lv' := [(3, .int (-9)), (0, .ref (a 0)), (1, .int v), (2, .int q)]) hx hb dX9_hidden_43 rfl hl (by decide) rfl (fun ls hl => ?_)
          refine lv_iconst (v := 0) hx hb dX9_hidden_44 (by decide) ?_
          refine lv_istore (lv' := [(4, .int 0), (3, .int (-9)), (0, .ref (a 0)), (1, .int v), (2, .int q)]) hx hb dX9_hidden_45 hl (by decide) rfl (fun ls hl => ?_)
          have L47 : ∀ (fu47 : Nat) (i : Int32) (b : Int32) (Y : sV) (H : Heap) (locs : List Loc) (ls : Array Slot), (0 ≤ i.toInt) → (sAg [3, 4, 5, 6, 7, 8, 9, 10, 39, 40, 41, 42, 43, 44] V Y) → (sFr V → (Y 3 7).toInt = 0 ∧ ((b.toInt = -9 ∧ (i.toInt = 0 ∨ q.toInt ≠ 0)) ∨ (b.toInt = 0 ∧ q.toInt = 0))) → (((V 2 0).toInt - i.toInt).toNat) < fu47 → sWS D cI SX a Y s.heap H locs → lv_has ls 5 [(4, .int i), (3, .int b), (0, .ref (a 0)), (1, .int v), (2, .int q)] → W p l e (rmD 5) s m ([.ref (a 0), .int v, .int q] : List Value).toArray below meth c H locs 0 0 (MQ below (va_Qi (q_hidden V v q) (fun V1 t => va_P D vwCl (sWd cI SX a V1) t.heap) (sA SX a s.heap.size)) ([.ref (a 0), .int v, .int q] : List Value).toArray s 0 0 (sA SX a s.heap.size)) (F0 m 47 ls []) := by
            intro fu47
            induction fu47 with
            | zero => intro i b Y H locs ls hi hA hv hm47; exact absurd hm47 (Nat.not_lt_zero _)
            | succ fu47 ih47 =>
              intro i b Y H locs ls hi hA hv hm47 X hl
              refine lv_iload hx hb dX9_hidden_47 (lv_at hl 0 rfl) ?_
              refine lv_aload_n hx hb dX9_hidden_49 rfl (lv_at hl 2 rfl) ?_
              refine sgR G X 0 0 rfl rfl fl_X9_10 dX9_hidden_50 ?_
              refine sgI G X 2 0 rfl rfl fl_X9_169 dX9_hidden_53 ?_
              refine sIge (tgt := 112) hx hb (rfl : Int32.toInt i = _) (rfl : Int32.toInt (Y 2 0) = _) dX9_hidden_56 (by decide) (fun c56 => ?_) (fun c56 => ?_)
              · skip
                rw [hA 2 (by decide)] at c56
                refine lv_iload_n hx hb dX9_hidden_112 rfl (lv_at hl 1 rfl) ?_
                exact srI G X (rfl) dX9_hidden_113 (by exact ⟨sAg.mono hA (by decide), fun hf => by have h1 := hv hf; have hg := hf.t; unfold fHidden; rw [if_neg (by omega), if_neg (by omega), if_neg (by omega)]; exact if hq : q.toInt = 0 then by rw [if_pos hq]; exact i32_0 (by omega) else by rw [if_neg hq]; exact Int32.toInt_inj.mp (show b.toInt = -9 from by omega)⟩)
              · skip
                rw [hA 2 (by decide)] at c56
                refine lv_iload_n hx hb dX9_hidden_59 rfl (lv_at hl 1 rfl) ?_
                refine lv_bipush (v := (-9)) hx hb dX9_hidden_60 (by decide) ?_
                refine sIne (tgt := 112) hx hb (rfl : Int32.toInt b = _) (by decide : ((-9) : Int32).toInt = -9) dX9_hidden_62 (by decide) (fun c62 => ?_) (fun c62 => ?_)
                · skip
                  refine lv_iload_n hx hb dX9_hidden_112 rfl (lv_at hl 1 rfl) ?_
                  exact srI G X (rfl) dX9_hidden_113 (by exact ⟨sAg.mono hA (by decide), fun hf => by have h1 := hv hf; have hg := hf.t; unfold fHidden; rw [if_neg (by omega), if_neg (by omega), if_neg (by omega)]; exact if hq : q.toInt = 0 then by rw [if_pos hq]; exact i32_0 (by omega) else by rw [if_neg hq]; exact Int32.toInt_inj.mp (show b.toInt = -9 from by omega)⟩)
                · skip
                  refine lv_aload_n hx hb dX9_hidden_65 rfl (lv_at hl 2 rfl) ?_
                  refine sgR G X 0 0 rfl rfl fl_X9_10 dX9_hidden_66 ?_
                  refine sgR G X 2 1 rfl rfl fl_X9_89 dX9_hidden_69 ?_
                  refine lv_iload hx hb dX9_hidden_72 (lv_at hl 0 rfl) ?_
                  refine lv_bipush (v := (-9)) hx hb dX9_hidden_74 (by decide) ?_
                  refine lv_iconst (v := 0) hx hb dX9_hidden_76 (by decide) ?_
                  refine lv_iload_n hx hb dX9_hidden_77 rfl (lv_at hl 3 rfl) ?_
                  refine lv_iconst (v := 5) hx hb dX9_hidden_78 (by decide) ?_
                  refine lv_iconst (v := 0) hx hb dX9_hidden_79 (by decide) ?_
                  refine lv_iconst (v := 0) hx hb dX9_hidden_80 (by decide) ?_
                  refine scV (ci := 2) (As := [.int i, .int (-9), .int 0, .int v, .int 5, .int 0, .int 0]) (rest := []) G X (k_oAdd ha Y i (-9) 0 v 5 0 0) iy_X2_add ml_X9_228 rfl rfl rfl rfl hl.1 (by decide) (by decide) (Nat.le_of_ble_eq_true rfl) dX9_hidden_81 (fun V81 H locs p81 X => ?_)
                  refine lv_aload_n hx hb dX9_hidden_84 rfl (lv_at hl 2 rfl) ?_
                  refine lv_iconst (v := 0) hx hb dX9_hidden_85 (by decide) ?_
                  refine scI (ci := 8) (As := [.int 0]) (rest := []) G X (k_coalWithout ha V81 0) iy_X9_coalWithout ml_X9_184 rfl rfl rfl rfl hl.1 (by decide) (by decide) (Nat.le_of_ble_eq_true rfl) dX9_hidden_86 (fun y86 V86 H locs p86 X => ?_)
                  refine lv_iload_n hx hb dX9_hidden_89 rfl (lv_at hl 4 rfl) ?_
                  refine sIne (tgt := 96) hx hb (rfl : Int32.toInt y86 = _) (rfl : Int32.toInt q = _) dX9_hidden_90 (by decide) (fun c90 => ?_) (fun c90 => ?_)
                  · skip
                    refine lv_aload_n hx hb dX9_hidden_96 rfl (lv_at hl 2 rfl) ?_
                    refine sgR G X 0 0 rfl rfl fl_X9_10 dX9_hidden_97 ?_
                    refine sgR G X 2 1 rfl rfl fl_X9_89 dX9_hidden_100 ?_
                    refine scV (ci := 2) (As := []) (rest := []) G X (k_dropLast ha V86 ) iy_X2_dropLast ml_X9_231 rfl rfl rfl rfl hl.1 (by decide) (by decide) (Nat.le_of_ble_eq_true rfl) dX9_hidden_103 (fun V103 H locs p103 X => ?_)
                    obtain ⟨x106, e106⟩ : ∃ y : Int32, y = i + (1) := ⟨_, rfl⟩
                    refine lv_iinc (v := x106) (lv' := [(4, .int x106), (3, .int b), (0, .ref (a 0)), (1, .int v), (2, .int q)]) hx hb dX9_hidden_106 hl (k := 0) rfl (by rw [e106]; rfl) (by decide) rfl (fun ls hl => ?_)
                    refine lv_goto (tgt := 47) hx hb dX9_hidden_109 (by decide) ?_
                    exact ih47 x106 b V103 _ _ _ (by rw [i32_i e106 (by have := i32_hi (V 2 0); omega)]; omega) (((hA.tr (sAg.mono p81.1 (by decide))).tr (sAg.mono p86.1 (by decide))).tr (by obtain ⟨z, ez, -⟩ := p103; rw [ez]; exact sAg.rf.up (by decide))) (fun hf => by
                        obtain ⟨h1, h2⟩ := hv hf
                        have hY : Y 3 7 = 0 := i32_0 h1
                        obtain ⟨g1, g4, g5, g6, g7, g8, g9, g10⟩ := p81.2 (by omega)
                        rw [hY] at g1 g6 g8
                        have hq : sQuiet V81 15 := ⟨by rw [p81.1 15 (by decide), hA 15 (by decide)]; exact hf.2.1, by rw [g1]; decide, fun j h3 h4 => by
                            have h5 : j = 0 := i32_0 (by rw [g1] at h4; have h6 : j.toInt < 1 := h4; omega)
                            subst h5
                            rw [g6, g8]
                            exact ⟨rAt_put_s (by decide) (by decide), rAt_put_s (by decide) (by decide)⟩⟩
                        have hy := p86.2 hq (by rw [p81.1 45 (by decide), hA 45 (by decide)]; exact hf.2.2.1)
                        rw [hy, Int32.toInt_zero] at c90
                        obtain ⟨z, ez, hz⟩ := p103
                        have hz0 : z.toInt = 0 := by rw [hz, p86.1 3 (by decide), g1]; decide
                        have hV : V103 3 7 = z := by rw [ez, sUp_s]; rfl
                        rw [hV]
                        refine ⟨hz0, ?_⟩
                        have h9 : x106.toInt = i.toInt + 1 := i32_i e106 (by have := i32_hi (V 2 0); omega)
                        omega) (by rw [i32_i e106 (by have := i32_hi (V 2 0); omega)]; omega) X (lv_sub hl [0, 1, 2, 3, 4] rfl)
                  · skip
                    refine lv_iload hx hb dX9_hidden_93 (lv_at hl 0 rfl) ?_
                    refine lv_istore_n (lv' := [(3, .int i), (4, .int i), (0, .ref (a 0)), (1, .int v), (2, .int q)]) hx hb dX9_hidden_95 rfl hl (by decide) rfl (fun ls hl => ?_)
                    refine lv_aload_n hx hb dX9_hidden_96 rfl (lv_at hl 2 rfl) ?_
                    refine sgR G X 0 0 rfl rfl fl_X9_10 dX9_hidden_97 ?_
                    refine sgR G X 2 1 rfl rfl fl_X9_89 dX9_hidden_100 ?_
                    refine scV (ci := 2) (As := []) (rest := []) G X (k_dropLast ha V86 ) iy_X2_dropLast ml_X9_231 rfl rfl rfl rfl hl.1 (by decide) (by decide) (Nat.le_of_ble_eq_true rfl) dX9_hidden_103 (fun V103 H locs p103 X => ?_)
                    obtain ⟨x106, e106⟩ : ∃ y : Int32, y = i + (1) := ⟨_, rfl⟩
                    refine lv_iinc (v := x106) (lv' := [(4, .int x106), (3, .int i), (0, .ref (a 0)), (1, .int v), (2, .int q)]) hx hb dX9_hidden_106 hl (k := 1) rfl (by rw [e106]; rfl) (by decide) rfl (fun ls hl => ?_)
                    refine lv_goto (tgt := 47) hx hb dX9_hidden_109 (by decide) ?_
                    exact ih47 x106 i V103 _ _ _ (by rw [i32_i e106 (by have := i32_hi (V 2 0); omega)]; omega) (((hA.tr (sAg.mono p81.1 (by decide))).tr (sAg.mono p86.1 (by decide))).tr (by obtain ⟨z, ez, -⟩ := p103; rw [ez]; exact sAg.rf.up (by decide))) (fun hf => by
                        obtain ⟨h1, h2⟩ := hv hf
                        have hY : Y 3 7 = 0 := i32_0 h1
                        obtain ⟨g1, g4, g5, g6, g7, g8, g9, g10⟩ := p81.2 (by omega)
                        rw [hY] at g1 g6 g8
                        have hq : sQuiet V81 15 := ⟨by rw [p81.1 15 (by decide), hA 15 (by decide)]; exact hf.2.1, by rw [g1]; decide, fun j h3 h4 => by
                            have h5 : j = 0 := i32_0 (by rw [g1] at h4; have h6 : j.toInt < 1 := h4; omega)
                            subst h5
                            rw [g6, g8]
                            exact ⟨rAt_put_s (by decide) (by decide), rAt_put_s (by decide) (by decide)⟩⟩
                        have hy := p86.2 hq (by rw [p81.1 45 (by decide), hA 45 (by decide)]; exact hf.2.2.1)
                        rw [hy, Int32.toInt_zero] at c90
                        obtain ⟨z, ez, hz⟩ := p103
                        have hz0 : z.toInt = 0 := by rw [hz, p86.1 3 (by decide), g1]; decide
                        have hV : V103 3 7 = z := by rw [ez, sUp_s]; rfl
                        rw [hV]
                        refine ⟨hz0, ?_⟩
                        have h9 : x106.toInt = i.toInt + 1 := i32_i e106 (by have := i32_hi (V 2 0); omega)
                        omega) (by rw [i32_i e106 (by have := i32_hi (V 2 0); omega)]; omega) X (lv_sub hl [0, 1, 2, 3, 4] rfl)
          exact L47 _ 0 (-9) V _ _ _ (by decide) (sAg.rf) (fun hf => ⟨hf.t.1, Or.inl ⟨by decide, Or.inl rfl⟩⟩) (Nat.lt_succ_self _) X (lv_sub hl [0, 1, 2, 3, 4] rfl)
        · skip
          refine lv_aload_n hx hb dX9_hidden_34 rfl (lv_at hl 0 rfl) ?_
          refine lv_bipush (v := (-6)) hx hb dX9_hidden_35 (by decide) ?_
          refine scI (ci := 8) (As := [.int (-6)]) (rest := []) G X (k_refuse ha V (-6)) iy_X9_refuse ml_X9_57 rfl rfl rfl rfl hl.1 (by decide) (by decide) (Nat.le_of_ble_eq_true rfl) dX9_hidden_37 (fun y37 V37 H locs p37 X => ?_)
          exact srI G X (rfl) dX9_hidden_40 (by exact ⟨sAg.mono p37.1 (by decide), (fun hf => by have hg := hf.t; rw [p37.2]; unfold fHidden; (repeat' split) <;> first | rfl | (exfalso; omega))⟩)
    · skip
      refine lv_aload_n hx hb dX9_hidden_8 rfl (lv_at hl 0 rfl) ?_
      refine lv_bipush (v := (-4)) hx hb dX9_hidden_9 (by decide) ?_
      refine scI (ci := 8) (As := [.int (-4)]) (rest := []) G X (k_refuse ha V (-4)) iy_X9_refuse ml_X9_57 rfl rfl rfl rfl hl.1 (by decide) (by decide) (Nat.le_of_ble_eq_true rfl) dX9_hidden_11 (fun y11 V11 H locs p11 X => ?_)
      exact srI G X (rfl) dX9_hidden_14 (by exact ⟨sAg.mono p11.1 (by decide), (fun hf => by have hg := hf.t; rw [p11.2]; unfold fHidden; (repeat' split) <;> first | rfl | (exfalso; omega))⟩)
def q_days (V : sV) (q w : Int32) : Int32 → sV → Prop := fun x V1 => sAg [1, 39, 40, 41, 42, 43, 44, 49, 50] V V1 ∧ (sFr V → x = fDays q)
set_option maxRecDepth 100000 in
set_option maxHeartbeats 4000000 in
theorem k_days {l : Launch} {D : va_G} {cI : ClassId} {a : Nat → Nat} (ha : sInj SX a) (V : sV) (q w : Int32) : sMI l D cI SX a V yX9_days cX9_days 8 .int 4 [.ref (a 0), .int q, .int w] (q_days V q w) := by
  refine sMIof ha (by decide +kernel) (Nat.le_of_ble_eq_true rfl) ?_
  intro p e s m below meth c ls G X hl
  obtain ⟨hx, hb, hml, hown, hts, hlocks, hr, hK⟩ := id G
  have hl : lv_has ls 8 [(0, .ref (a 0)), (1, .int q), (2, .int w)] := hl
  refine lv_iload_n hx hb dX9_days_0 rfl (lv_at hl 1 rfl) ?_
  refine lv_iconst (v := 1) hx hb dX9_days_1 (by decide) ?_
  refine sIge (tgt := 12) hx hb (rfl : Int32.toInt q = _) (by decide : (1 : Int32).toInt = 1) dX9_days_2 (by decide) (fun c2 => ?_) (fun c2 => ?_)
  · skip
    refine lv_iload_n hx hb dX9_days_12 rfl (lv_at hl 1 rfl) ?_
    refine lv_bipush (v := 30) hx hb dX9_days_13 (by decide) ?_
    refine sIle (tgt := 25) hx hb (rfl : Int32.toInt q = _) (by decide : (30 : Int32).toInt = 30) dX9_days_15 (by decide) (fun c15 => ?_) (fun c15 => ?_)
    · skip
      refine lv_iconst (v := 0) hx hb dX9_days_25 (by decide) ?_
      refine lv_istore_n (lv' := [(3, .int 0), (0, .ref (a 0)), (1, .int q), (2, .int w)]) hx hb dX9_days_26 rfl hl (by decide) rfl (fun ls hl => ?_)
      refine lv_aload_n hx hb dX9_days_27 rfl (lv_at hl 1 rfl) ?_
      refine sgR G X 0 5 rfl rfl fl_X9_42 dX9_days_28 ?_
      refine lv_iload_n hx hb dX9_days_31 rfl (lv_at hl 3 rfl) ?_
      refine spI G X 49 0 rfl rfl fp_X9_234 dX9_days_32 (fun H locs X => ?_)
      refine lv_aload_n hx hb dX9_days_35 rfl (lv_at hl 1 rfl) ?_
      refine sgR G X 0 3 rfl rfl fl_X9_28 dX9_days_36 ?_
      refine lv_iconst (v := 0) hx hb dX9_days_39 (by decide) ?_
      refine scV (ci := 1) (As := [.int 0]) (rest := []) G X (k_takeSizes ha (sUp V 49 (upd (V 49) 0 w)) 0) iy_X1_takeSizes ml_X9_217 rfl rfl rfl rfl hl.1 (by decide) (by decide) (Nat.le_of_ble_eq_true rfl) dX9_days_40 (fun V40 H locs p40 X => ?_)
      refine lv_iconst (v := 0) hx hb dX9_days_43 (by decide) ?_
      refine lv_istore (lv' := [(4, .int 0), (3, .int 0), (0, .ref (a 0)), (1, .int q), (2, .int w)]) hx hb dX9_days_44 hl (by decide) rfl (fun ls hl => ?_)
      have L46 : ∀ (fu46 : Nat) (i : Int32) (z : Int32) (Y : sV) (H : Heap) (locs : List Loc) (ls : Array Slot), (0 ≤ i.toInt) → (sAg [39, 40, 41, 42, 43, 44, 49, 50] V Y) → (sFr V → z = 0) → (((q).toInt - i.toInt).toNat) < fu46 → sWS D cI SX a Y s.heap H locs → lv_has ls 8 [(4, .int i), (3, .int z), (0, .ref (a 0)), (1, .int q), (2, .int w)] → W p l e (rmD 4) s m ([.ref (a 0), .int q, .int w] : List Value).toArray below meth c H locs 0 0 (MQ below (va_Qi (q_days V q w) (fun V1 t => va_P D vwCl (sWd cI SX a V1) t.heap) (sA SX a s.heap.size)) ([.ref (a 0), .int q, .int w] : List Value).toArray s 0 0 (sA SX a s.heap.size)) (F0 m 46 ls []) := by
        intro fu46
        induction fu46 with
        | zero => intro i z Y H locs ls hi hA hv hm46; exact absurd hm46 (Nat.not_lt_zero _)
        | succ fu46 ih46 =>
          intro i z Y H locs ls hi hA hv hm46 X hl
          refine lv_iload hx hb dX9_days_46 (lv_at hl 0 rfl) ?_
          refine lv_iload_n hx hb dX9_days_48 rfl (lv_at hl 3 rfl) ?_
          refine sIge (tgt := 142) hx hb (rfl : Int32.toInt i = _) (rfl : Int32.toInt q = _) dX9_days_49 (by decide) (fun c49 => ?_) (fun c49 => ?_)
          · skip
            refine lv_iload_n hx hb dX9_days_142 rfl (lv_at hl 1 rfl) ?_
            exact srI G X (rfl) dX9_days_143 (by exact ⟨sAg.mono hA (by decide), fun hf => by rw [hv hf]; unfold fDays; rw [if_neg (by omega), if_neg (by omega)]⟩)
          · skip
            refine lv_aload_n hx hb dX9_days_52 rfl (lv_at hl 2 rfl) ?_
            refine sgR G X 0 5 rfl rfl fl_X9_42 dX9_days_53 ?_
            refine lv_bipush (v := 41) hx hb dX9_days_56 (by decide) ?_
            refine scI (ci := 5) (As := [.int 41]) (rest := []) G X (k_draw ha Y 41) iy_X6_draw ml_X9_237 rfl rfl rfl rfl hl.1 (by decide) (by decide) (Nat.le_of_ble_eq_true rfl) dX9_days_58 (fun y58 V58 H locs p58 X => ?_)
            refine lv_istore (lv' := [(5, .int y58), (4, .int i), (3, .int z), (0, .ref (a 0)), (1, .int q), (2, .int w)]) hx hb dX9_days_61 hl (by decide) rfl (fun ls hl => ?_)
            refine lv_aload_n hx hb dX9_days_63 rfl (lv_at hl 3 rfl) ?_
            refine sgR G X 0 5 rfl rfl fl_X9_42 dX9_days_64 ?_
            refine lv_bipush (v := 21) hx hb dX9_days_67 (by decide) ?_
            refine scI (ci := 5) (As := [.int 21]) (rest := []) G X (k_draw ha V58 21) iy_X6_draw ml_X9_237 rfl rfl rfl rfl hl.1 (by decide) (by decide) (Nat.le_of_ble_eq_true rfl) dX9_days_69 (fun y69 V69 H locs p69 X => ?_)
            refine lv_istore (lv' := [(6, .int y69), (5, .int y58), (4, .int i), (3, .int z), (0, .ref (a 0)), (1, .int q), (2, .int w)]) hx hb dX9_days_72 hl (by decide) rfl (fun ls hl => ?_)
            refine lv_aload_n hx hb dX9_days_74 rfl (lv_at hl 4 rfl) ?_
            refine sgR G X 0 5 rfl rfl fl_X9_42 dX9_days_75 ?_
            refine lv_iconst (v := 4) hx hb dX9_days_78 (by decide) ?_
            refine scI (ci := 5) (As := [.int 4]) (rest := []) G X (k_draw ha V69 4) iy_X6_draw ml_X9_237 rfl rfl rfl rfl hl.1 (by decide) (by decide) (Nat.le_of_ble_eq_true rfl) dX9_days_79 (fun y79 V79 H locs p79 X => ?_)
            refine lv_istore (lv' := [(7, .int y79), (6, .int y69), (5, .int y58), (4, .int i), (3, .int z), (0, .ref (a 0)), (1, .int q), (2, .int w)]) hx hb dX9_days_82 hl (by decide) rfl (fun ls hl => ?_)
            refine lv_aload_n hx hb dX9_days_84 rfl (lv_at hl 5 rfl) ?_
            refine sgR G X 0 6 rfl rfl fl_X9_49 dX9_days_85 ?_
            refine lv_iload hx hb dX9_days_88 (lv_at hl 2 rfl) ?_
            refine lv_iload hx hb dX9_days_90 (lv_at hl 1 rfl) ?_
            refine lv_iload hx hb dX9_days_92 (lv_at hl 0 rfl) ?_
            refine lv_aload_n hx hb dX9_days_94 rfl (lv_at hl 5 rfl) ?_
            refine sgR G X 0 0 rfl rfl fl_X9_10 dX9_days_95 ?_
            refine sgR G X 2 3 rfl rfl fl_X9_143 dX9_days_98 ?_
            refine sgI G X 15 3 rfl rfl fl_X9_152 dX9_days_101 ?_
            refine scV (ci := 0) (As := [.int y58, .int y69, .int y79, .int (V79 15 3)]) (rest := []) G X (k_airBecome ha V79 50 rfl y58 y69 y79 (V79 15 3)) iy_X0_become ml_X9_213 rfl rfl rfl rfl hl.1 (by decide) (by decide) (Nat.le_of_ble_eq_true rfl) dX9_days_104 (fun V104 H locs p104 X => ?_)
            refine lv_aload_n hx hb dX9_days_107 rfl (lv_at hl 5 rfl) ?_
            refine sgR G X 0 3 rfl rfl fl_X9_28 dX9_days_108 ?_
            refine lv_aload_n hx hb dX9_days_111 rfl (lv_at hl 5 rfl) ?_
            refine sgR G X 0 6 rfl rfl fl_X9_49 dX9_days_112 ?_
            refine scV (ci := 1) (As := [.ref (a 50)]) (rest := []) G X (k_settle ha V104 50 rfl (by first | decide | assumption)) iy_X1_settle ml_X9_220 rfl rfl rfl rfl hl.1 (by decide) (by decide) (Nat.le_of_ble_eq_true rfl) dX9_days_115 (fun V115 H locs p115 X => ?_)
            refine lv_iload_n hx hb dX9_days_118 rfl (lv_at hl 4 rfl) ?_
            refine lv_aload_n hx hb dX9_days_119 rfl (lv_at hl 5 rfl) ?_
            refine sgR G X 0 3 rfl rfl fl_X9_28 dX9_days_120 ?_
            refine scI (ci := 1) (As := []) (rest := [.int z]) G X (k_smoking ha V115 ) iy_X1_smoking ml_X9_187 rfl rfl rfl rfl hl.1 (by decide) (by decide) (Nat.le_of_ble_eq_true rfl) dX9_days_123 (fun y123 V123 H locs p123 X => ?_)
            obtain ⟨p123, z123⟩ := p123
            subst V123
            refine sZeq (tgt := 133) hx hb (rfl : Int32.toInt y123 = _) dX9_days_126 (by decide) (fun c126 => ?_) (fun c126 => ?_)
            · skip
              refine lv_iconst (v := 0) hx hb dX9_days_133 (by decide) ?_
              refine lv_iadd hx hb dX9_days_134 ?_
              refine lv_topi (fun x134 e134 => ?_)
              refine lv_istore_n (lv' := [(3, .int x134), (7, .int y79), (6, .int y69), (5, .int y58), (4, .int i), (0, .ref (a 0)), (1, .int q), (2, .int w)]) hx hb dX9_days_135 rfl hl (by decide) rfl (fun ls hl => ?_)
              obtain ⟨x136, e136⟩ : ∃ y : Int32, y = i + (1) := ⟨_, rfl⟩
              refine lv_iinc (v := x136) (lv' := [(4, .int x136), (3, .int x134), (7, .int y79), (6, .int y69), (5, .int y58), (0, .ref (a 0)), (1, .int q), (2, .int w)]) hx hb dX9_days_136 hl (k := 4) rfl (by rw [e136]; rfl) (by decide) rfl (fun ls hl => ?_)
              refine lv_goto (tgt := 46) hx hb dX9_days_139 (by decide) ?_
              exact ih46 x136 x134 V115 _ _ _ (by rw [i32_i e136 (by have := i32_hi (q); omega)]; omega) (((((hA.tr (sAg.mono p58 (by decide))).tr (sAg.mono p69 (by decide))).tr (sAg.mono p79 (by decide))).tr (sAg.mono p104.1 (by decide))).tr (sAg.mono p115.1 (by decide))) (fun hf => by
                  have hB := ((((hA.tr (sAg.mono p58 (by decide))).tr (sAg.mono p69 (by decide))).tr (sAg.mono p79 (by decide))).tr (sAg.mono p104.1 (by decide))).tr (sAg.mono p115.1 (by decide) : sAg [39, 40, 41, 42, 43, 44, 49, 50] _ _)
                  have h1 := p123.2 (by rw [hB 3 (by decide)]; exact hf.many)
                  first | (exfalso; rw [h1] at c126; exact c126 rfl) | (rw [e134, hv hf]; rfl)) (by rw [i32_i e136 (by have := i32_hi (q); omega)]; omega) X (lv_sub hl [0, 1, 5, 6, 7] rfl)
            · skip
              refine lv_iconst (v := 1) hx hb dX9_days_129 (by decide) ?_
              refine lv_goto (tgt := 134) hx hb dX9_days_130 (by decide) ?_
              refine lv_iadd hx hb dX9_days_134 ?_
              refine lv_topi (fun x134 e134 => ?_)
              refine lv_istore_n (lv' := [(3, .int x134), (7, .int y79), (6, .int y69), (5, .int y58), (4, .int i), (0, .ref (a 0)), (1, .int q), (2, .int w)]) hx hb dX9_days_135 rfl hl (by decide) rfl (fun ls hl => ?_)
              obtain ⟨x136, e136⟩ : ∃ y : Int32, y = i + (1) := ⟨_, rfl⟩
              refine lv_iinc (v := x136) (lv' := [(4, .int x136), (3, .int x134), (7, .int y79), (6, .int y69), (5, .int y58), (0, .ref (a 0)), (1, .int q), (2, .int w)]) hx hb dX9_days_136 hl (k := 4) rfl (by rw [e136]; rfl) (by decide) rfl (fun ls hl => ?_)
              refine lv_goto (tgt := 46) hx hb dX9_days_139 (by decide) ?_
              exact ih46 x136 x134 V115 _ _ _ (by rw [i32_i e136 (by have := i32_hi (q); omega)]; omega) (((((hA.tr (sAg.mono p58 (by decide))).tr (sAg.mono p69 (by decide))).tr (sAg.mono p79 (by decide))).tr (sAg.mono p104.1 (by decide))).tr (sAg.mono p115.1 (by decide))) (fun hf => by
                  have hB := ((((hA.tr (sAg.mono p58 (by decide))).tr (sAg.mono p69 (by decide))).tr (sAg.mono p79 (by decide))).tr (sAg.mono p104.1 (by decide))).tr (sAg.mono p115.1 (by decide) : sAg [39, 40, 41, 42, 43, 44, 49, 50] _ _)
                  have h1 := p123.2 (by rw [hB 3 (by decide)]; exact hf.many)
                  first | (exfalso; rw [h1] at c126; exact c126 rfl) | (rw [e134, hv hf]; rfl)) (by rw [i32_i e136 (by have := i32_hi (q); omega)]; omega) X (lv_sub hl [0, 1, 5, 6, 7] rfl)
      exact L46 _ 0 0 V40 _ _ _ (by decide) ((sAg.rf.up (by decide)).tr (sAg.mono p40 (by decide))) (fun _ => rfl) (Nat.lt_succ_self _) X (lv_sub hl [0, 1, 2, 3, 4] rfl)
    · skip
      refine lv_aload_n hx hb dX9_days_18 rfl (lv_at hl 0 rfl) ?_
      refine lv_bipush (v := (-6)) hx hb dX9_days_19 (by decide) ?_
      refine scI (ci := 8) (As := [.int (-6)]) (rest := []) G X (k_refuse ha V (-6)) iy_X9_refuse ml_X9_57 rfl rfl rfl rfl hl.1 (by decide) (by decide) (Nat.le_of_ble_eq_true rfl) dX9_days_21 (fun y21 V21 H locs p21 X => ?_)
      exact srI G X (rfl) dX9_days_24 (by exact ⟨sAg.mono p21.1 (by decide), (fun hf => by have hg := hf.t; rw [p21.2]; unfold fDays; (repeat' split) <;> first | rfl | (exfalso; omega))⟩)
  · skip
    refine lv_aload_n hx hb dX9_days_5 rfl (lv_at hl 0 rfl) ?_
    refine lv_bipush (v := (-4)) hx hb dX9_days_6 (by decide) ?_
    refine scI (ci := 8) (As := [.int (-4)]) (rest := []) G X (k_refuse ha V (-4)) iy_X9_refuse ml_X9_57 rfl rfl rfl rfl hl.1 (by decide) (by decide) (Nat.le_of_ble_eq_true rfl) dX9_days_8 (fun y8 V8 H locs p8 X => ?_)
    exact srI G X (rfl) dX9_days_11 (by exact ⟨sAg.mono p8.1 (by decide), (fun hf => by have hg := hf.t; rw [p8.2]; unfold fDays; (repeat' split) <;> first | rfl | (exfalso; omega))⟩)
def q_row (V : sV) (i : Int32) : Int32 → sV → Prop := fun x V1 => sAg [1, 18, 19] V V1 ∧ (sFr V → x = fRow i)
set_option maxRecDepth 100000 in
set_option maxHeartbeats 4000000 in
theorem k_row {l : Launch} {D : va_G} {cI : ClassId} {a : Nat → Nat} (ha : sInj SX a) (V : sV) (i : Int32) : sMI l D cI SX a V yX9_row cX9_row 2 .int 3 [.ref (a 0), .int i] (q_row V i) := by
  refine sMIof ha (by decide +kernel) (Nat.le_of_ble_eq_true rfl) ?_
  intro p e s m below meth c ls G X hl
  obtain ⟨hx, hb, hml, hown, hts, hlocks, hr, hK⟩ := id G
  have hl : lv_has ls 2 [(0, .ref (a 0)), (1, .int i)] := hl
  refine lv_iload_n hx hb dX9_row_0 rfl (lv_at hl 1 rfl) ?_
  refine sZge (tgt := 11) hx hb (rfl : Int32.toInt i = _) dX9_row_1 (by decide) (fun c1 => ?_) (fun c1 => ?_)
  · skip
    refine lv_iload_n hx hb dX9_row_11 rfl (lv_at hl 1 rfl) ?_
    refine lv_iconst (v := 2) hx hb dX9_row_12 (by decide) ?_
    refine sIgt (tgt := 29) hx hb (rfl : Int32.toInt i = _) (by decide : (2 : Int32).toInt = 2) dX9_row_13 (by decide) (fun c13 => ?_) (fun c13 => ?_)
    · skip
      refine lv_aload_n hx hb dX9_row_29 rfl (lv_at hl 0 rfl) ?_
      refine lv_bipush (v := (-6)) hx hb dX9_row_30 (by decide) ?_
      refine scI (ci := 8) (As := [.int (-6)]) (rest := []) G X (k_refuse ha V (-6)) iy_X9_refuse ml_X9_57 rfl rfl rfl rfl hl.1 (by decide) (by decide) (Nat.le_of_ble_eq_true rfl) dX9_row_32 (fun y32 V32 H locs p32 X => ?_)
      exact srI G X (rfl) dX9_row_35 (by exact ⟨sAg.mono p32.1 (by decide), (fun hf => by have hg := hf.t; rw [p32.2]; unfold fRow; (repeat' split) <;> first | rfl | (exfalso; omega))⟩)
    · skip
      refine lv_aload_n hx hb dX9_row_16 rfl (lv_at hl 0 rfl) ?_
      refine sgR G X 0 0 rfl rfl fl_X9_10 dX9_row_17 ?_
      refine sgR G X 2 5 rfl rfl fl_X9_240 dX9_row_20 ?_
      refine scI (ci := 4) (As := []) (rest := []) G X (k_rowFull ha V 18 19 10 rfl rfl (by first | decide | assumption) (by first | decide | assumption)) iy_X4_isFull ml_X9_65 rfl rfl rfl rfl hl.1 (by decide) (by decide) (Nat.le_of_ble_eq_true rfl) dX9_row_23 (fun y23 V23 H locs p23 X => ?_)
      obtain ⟨p23, z23⟩ := p23
      subst V23
      refine sZeq (tgt := 36) hx hb (rfl : Int32.toInt y23 = _) dX9_row_26 (by decide) (fun c26 => ?_) (fun c26 => ?_)
      · skip
        refine lv_aload_n hx hb dX9_row_36 rfl (lv_at hl 0 rfl) ?_
        refine sgR G X 0 0 rfl rfl fl_X9_10 dX9_row_37 ?_
        refine sgR G X 2 5 rfl rfl fl_X9_240 dX9_row_40 ?_
        refine lv_iload_n hx hb dX9_row_43 rfl (lv_at hl 1 rfl) ?_
        refine scV (ci := 4) (As := [.int i]) (rest := []) G X (k_rowAdd ha V 18 19 10 rfl rfl (by first | decide | assumption) (by first | decide | assumption) i) iy_X4_add ml_X9_71 rfl rfl rfl rfl hl.1 (by decide) (by decide) (Nat.le_of_ble_eq_true rfl) dX9_row_44 (fun V44 H locs p44 X => ?_)
        refine lv_aload_n hx hb dX9_row_47 rfl (lv_at hl 0 rfl) ?_
        refine sgR G X 0 0 rfl rfl fl_X9_10 dX9_row_48 ?_
        refine sgR G X 2 5 rfl rfl fl_X9_240 dX9_row_51 ?_
        refine sgI G X 18 1 rfl rfl fl_X9_75 dX9_row_54 ?_
        exact srI G X (rfl) dX9_row_57 (by exact ⟨sAg.mono p44.1 (by decide), (fun hf => by have hg := hf.t; rw [p44.2 (by omega), hf.2.2.2.2.2.2.1]; unfold fRow; (repeat' split) <;> first | rfl | (exfalso; omega))⟩)
      · skip
        refine lv_aload_n hx hb dX9_row_29 rfl (lv_at hl 0 rfl) ?_
        refine lv_bipush (v := (-6)) hx hb dX9_row_30 (by decide) ?_
        refine scI (ci := 8) (As := [.int (-6)]) (rest := []) G X (k_refuse ha V (-6)) iy_X9_refuse ml_X9_57 rfl rfl rfl rfl hl.1 (by decide) (by decide) (Nat.le_of_ble_eq_true rfl) dX9_row_32 (fun y32 V32 H locs p32 X => ?_)
        exact srI G X (rfl) dX9_row_35 (by exact ⟨sAg.mono p32.1 (by decide), (fun hf => by have hg := hf.t; rw [p32.2]; unfold fRow; (repeat' split) <;> first | rfl | (exfalso; omega))⟩)
  · skip
    refine lv_aload_n hx hb dX9_row_4 rfl (lv_at hl 0 rfl) ?_
    refine lv_bipush (v := (-4)) hx hb dX9_row_5 (by decide) ?_
    refine scI (ci := 8) (As := [.int (-4)]) (rest := []) G X (k_refuse ha V (-4)) iy_X9_refuse ml_X9_57 rfl rfl rfl rfl hl.1 (by decide) (by decide) (Nat.le_of_ble_eq_true rfl) dX9_row_7 (fun y7 V7 H locs p7 X => ?_)
    exact srI G X (rfl) dX9_row_10 (by exact ⟨sAg.mono p7.1 (by decide), (fun hf => by have hg := hf.t; rw [p7.2]; unfold fRow; (repeat' split) <;> first | rfl | (exfalso; omega))⟩)
def q_judge (V : sV)  : Int32 → sV → Prop := fun x V1 => sAg [39, 40, 41, 42, 43, 44, 18] V V1 ∧ (sFr V → x = -9)
set_option maxRecDepth 100000 in
set_option maxHeartbeats 4000000 in
theorem k_judge {l : Launch} {D : va_G} {cI : ClassId} {a : Nat → Nat} (ha : sInj SX a) (V : sV)  : sMI l D cI SX a V yX9_judge cX9_judge 2 .int 6 [.ref (a 0)] (q_judge V ) := by
  refine sMIof ha (by decide +kernel) (Nat.le_of_ble_eq_true rfl) ?_
  intro p e s m below meth c ls G X hl
  obtain ⟨hx, hb, hml, hown, hts, hlocks, hr, hK⟩ := id G
  have hl : lv_has ls 2 [(0, .ref (a 0))] := hl
  refine lv_aload_n hx hb dX9_judge_0 rfl (lv_at hl 0 rfl) ?_
  refine scI (ci := 8) (As := []) (rest := []) G X (k_firstNotSo ha V ) iy_X9_firstNotSo ml_X9_243 rfl rfl rfl rfl hl.1 (by decide) (by decide) (Nat.le_of_ble_eq_true rfl) dX9_judge_1 (fun y1 V1 H locs p1 X => ?_)
  refine lv_istore_n (lv' := [(1, .int y1), (0, .ref (a 0))]) hx hb dX9_judge_4 rfl hl (by decide) rfl (fun ls hl => ?_)
  refine lv_aload_n hx hb dX9_judge_5 rfl (lv_at hl 1 rfl) ?_
  refine sgR G X 0 0 rfl rfl fl_X9_10 dX9_judge_6 ?_
  refine sgR G X 2 5 rfl rfl fl_X9_240 dX9_judge_9 ?_
  refine scV (ci := 4) (As := []) (rest := []) G X (k_rowClear ha V1 18 19 10 rfl rfl (by first | decide | assumption) (by first | decide | assumption)) iy_X4_clear ml_X9_86 rfl rfl rfl rfl hl.1 (by decide) (by decide) (Nat.le_of_ble_eq_true rfl) dX9_judge_12 (fun V12 H locs p12 X => ?_)
  refine lv_iload_n hx hb dX9_judge_15 rfl (lv_at hl 0 rfl) ?_
  exact srI G X (rfl) dX9_judge_16 (by exact ⟨(sAg.mono p1.1 (by decide)).tr (by rw [show V12 = _ from p12]; exact sAg.rf.up (by decide)), p1.2⟩)
def q_image (V : sV) : Int32 → sV → Prop := fun x V1 => sAg [0, 20, 21, 22, 23, 24, 25, 26, 27, 28, 29, 30, 31, 32, 33, 34, 35, 36, 37] V V1 ∧ (V1 33 0 = V 15 0 ∧ V1 33 1 = V 15 1 ∧ V1 33 2 = V 15 2 ∧ V1 33 3 = V 15 3) ∧ V1 0 2 = 1 ∧ (sFr V → x = 0)
set_option maxRecDepth 100000 in
set_option maxHeartbeats 4000000 in
theorem k_image {l : Launch} {D : va_G} {cI : ClassId} {a : Nat → Nat} (ha : sInj SX a) (V : sV)  : sMI l D cI SX a V yX9_image cX9_image 1 .int 3 [.ref (a 0)] (q_image V) := by
  refine sMIof ha (by decide +kernel) (Nat.le_of_ble_eq_true rfl) ?_
  intro p e s m below meth c ls G X hl
  obtain ⟨hx, hb, hml, hown, hts, hlocks, hr, hK⟩ := id G
  have hl : lv_has ls 1 [(0, .ref (a 0))] := hl
  refine lv_aload_n hx hb dX9_image_0 rfl (lv_at hl 0 rfl) ?_
  refine sgR G X 0 1 rfl rfl fl_X9_16 dX9_image_1 ?_
  refine lv_aload_n hx hb dX9_image_4 rfl (lv_at hl 0 rfl) ?_
  refine sgR G X 0 0 rfl rfl fl_X9_10 dX9_image_5 ?_
  refine scV (ci := 6) (As := [.ref (a 2)]) (rest := []) G X (k_told20 ha V ) iy_X7_become ml_X9_246 rfl rfl rfl rfl hl.1 (by decide) (by decide) (Nat.le_of_ble_eq_true rfl) dX9_image_8 (fun V8 H locs p8 X => ?_)
  refine lv_aload_n hx hb dX9_image_11 rfl (lv_at hl 0 rfl) ?_
  refine lv_iconst (v := 1) hx hb dX9_image_12 (by decide) ?_
  refine spT G X 0 2 rfl rfl fp_X9_19 1 rfl rfl dX9_image_13 (fun H locs X => ?_)
  refine lv_aload_n hx hb dX9_image_16 rfl (lv_at hl 0 rfl) ?_
  refine sgR G X 0 0 rfl rfl fl_X9_10 dX9_image_17 ?_
  refine sgR G X 2 1 rfl rfl fl_X9_89 dX9_image_20 ?_
  refine sgI G X 3 7 rfl rfl fl_X9_190 dX9_image_23 ?_
  refine sTop (y := V8 3 7) rfl ?_
  exact srI G X (rfl) dX9_image_26 (by exact ⟨(sAg.mono p8.1 (by decide)).up (by decide), by rw [sUp_n _ _ (by decide)]; exact p8.2, by rw [sUp_s]; rfl, fun hf => by rw [p8.1 3 (by decide)]; exact hf.1⟩)
def q_on (V : sV) : Int32 → sV → Prop := fun x V1 => sAg [1, 2, 3, 4, 5, 6, 7, 8, 9, 10, 11, 12, 13, 14, 15, 16, 17, 18, 19] V V1 ∧ (V 0 2 = 0 → x = -3 ∧ V1 15 = V 15) ∧ (V 0 2 ≠ 0 → V1 15 0 = V 33 0 ∧ V1 15 1 = V 33 1 ∧ V1 15 2 = V 33 2 ∧ V1 15 3 = V 33 3)
set_option maxRecDepth 100000 in
set_option maxHeartbeats 4000000 in
theorem k_on {l : Launch} {D : va_G} {cI : ClassId} {a : Nat → Nat} (ha : sInj SX a) (V : sV)  : sMI l D cI SX a V yX9_on cX9_on 1 .int 3 [.ref (a 0)] (q_on V) := by
  refine sMIof ha (by decide +kernel) (Nat.le_of_ble_eq_true rfl) ?_
  intro p e s m below meth c ls G X hl
  obtain ⟨hx, hb, hml, hown, hts, hlocks, hr, hK⟩ := id G
  have hl : lv_has ls 1 [(0, .ref (a 0))] := hl
  refine lv_aload_n hx hb dX9_on_0 rfl (lv_at hl 0 rfl) ?_
  refine sgI G X 0 2 rfl rfl fl_X9_19 dX9_on_1 ?_
  refine sZne (tgt := 14) hx hb (rfl : Int32.toInt (V 0 2) = _) dX9_on_4 (by decide) (fun c4 => ?_) (fun c4 => ?_)
  · skip
    refine lv_aload_n hx hb dX9_on_14 rfl (lv_at hl 0 rfl) ?_
    refine sgR G X 0 0 rfl rfl fl_X9_10 dX9_on_15 ?_
    refine lv_aload_n hx hb dX9_on_18 rfl (lv_at hl 0 rfl) ?_
    refine sgR G X 0 1 rfl rfl fl_X9_16 dX9_on_19 ?_
    refine scV (ci := 6) (As := [.ref (a 20)]) (rest := []) G X (k_told2 ha V ) iy_X7_become ml_X9_246 rfl rfl rfl rfl hl.1 (by decide) (by decide) (Nat.le_of_ble_eq_true rfl) dX9_on_22 (fun V22 H locs p22 X => ?_)
    refine lv_aload_n hx hb dX9_on_25 rfl (lv_at hl 0 rfl) ?_
    refine sgR G X 0 0 rfl rfl fl_X9_10 dX9_on_26 ?_
    refine sgR G X 2 1 rfl rfl fl_X9_89 dX9_on_29 ?_
    refine sgI G X 3 7 rfl rfl fl_X9_190 dX9_on_32 ?_
    exact srI G X (rfl) dX9_on_35 (by exact ⟨sAg.mono p22.1 (by decide), fun h => absurd (show (V 0 2).toInt = 0 from by rw [h]; rfl) c4, fun _ => p22.2⟩)
  · skip
    refine lv_aload_n hx hb dX9_on_7 rfl (lv_at hl 0 rfl) ?_
    refine lv_bipush (v := (-3)) hx hb dX9_on_8 (by decide) ?_
    refine scI (ci := 8) (As := [.int (-3)]) (rest := []) G X (k_refuse ha V (-3)) iy_X9_refuse ml_X9_57 rfl rfl rfl rfl hl.1 (by decide) (by decide) (Nat.le_of_ble_eq_true rfl) dX9_on_10 (fun y10 V10 H locs p10 X => ?_)
    exact srI G X (rfl) dX9_on_13 (by exact ⟨sAg.mono p10.1 (by decide), fun _ => ⟨p10.2, p10.1 15 (by decide)⟩, fun h => absurd (i32_0 c4) h⟩)
def q_count (V : sV) (w : Int32) : Int32 → sV → Prop := fun x V1 => (sFr V → x = fCount w) ∧ V1 = V
set_option maxRecDepth 100000 in
set_option maxHeartbeats 4000000 in
theorem k_count {l : Launch} {D : va_G} {cI : ClassId} {a : Nat → Nat} (ha : sInj SX a) (V : sV) (w : Int32) : sMI l D cI SX a V yX9_count cX9_count 2 .int 3 [.ref (a 0), .int w] (q_count V w) := by
  refine sMIof ha (by decide +kernel) (Nat.le_of_ble_eq_true rfl) ?_
  intro p e s m below meth c ls G X hl
  obtain ⟨hx, hb, hml, hown, hts, hlocks, hr, hK⟩ := id G
  have hl : lv_has ls 2 [(0, .ref (a 0)), (1, .int w)] := hl
  refine lv_iload_n hx hb dX9_count_0 rfl (lv_at hl 1 rfl) ?_
  by_cases hs1 : Int32.toInt w < 0 ∨ 6 < Int32.toInt w
  · refine lv_tableOut (tgt := 118) hx hb dX9_count_1 hs1 (by decide) ?_
    refine lv_iload_n hx hb dX9_count_118 rfl (lv_at hl 1 rfl) ?_
    refine lv_bipush (v := 11) hx hb dX9_count_119 (by decide) ?_
    refine sIlt (tgt := 144) hx hb (rfl : Int32.toInt w = _) (by decide : (11 : Int32).toInt = 11) dX9_count_121 (by decide) (fun c121 => ?_) (fun c121 => ?_)
    · skip
      refine lv_bipush (v := (-9)) hx hb dX9_count_144 (by decide) ?_
      exact srI G X (rfl) dX9_count_146 (by first | exact ⟨fun hf => by rw [p138, rAt_zero (fun j _ => hf.2.2.2.2.2.2.2.2.1 j)]; unfold fCount; rw [if_neg (by omega), if_neg (by omega), if_pos (by omega)], rfl⟩ | exact ⟨fun hf => by unfold fCount; rw [if_neg (by omega), if_neg (by omega), if_neg (by omega)], rfl⟩)
    · skip
      refine lv_iload_n hx hb dX9_count_124 rfl (lv_at hl 1 rfl) ?_
      refine lv_bipush (v := 16) hx hb dX9_count_125 (by decide) ?_
      refine sIgt (tgt := 144) hx hb (rfl : Int32.toInt w = _) (by decide : (16 : Int32).toInt = 16) dX9_count_127 (by decide) (fun c127 => ?_) (fun c127 => ?_)
      · skip
        refine lv_bipush (v := (-9)) hx hb dX9_count_144 (by decide) ?_
        exact srI G X (rfl) dX9_count_146 (by first | exact ⟨fun hf => by rw [p138, rAt_zero (fun j _ => hf.2.2.2.2.2.2.2.2.1 j)]; unfold fCount; rw [if_neg (by omega), if_neg (by omega), if_pos (by omega)], rfl⟩ | exact ⟨fun hf => by unfold fCount; rw [if_neg (by omega), if_neg (by omega), if_neg (by omega)], rfl⟩)
      · skip
        refine lv_aload_n hx hb dX9_count_130 rfl (lv_at hl 0 rfl) ?_
        refine sgR G X 0 7 rfl rfl fl_X9_53 dX9_count_131 ?_
        refine lv_iload_n hx hb dX9_count_134 rfl (lv_at hl 1 rfl) ?_
        refine lv_bipush (v := 10) hx hb dX9_count_135 (by decide) ?_
        refine lv_isub hx hb dX9_count_137 ?_
        refine lv_topi (fun x137 e137 => ?_)
        refine scSI (As := [.ref (a 1), .int x137]) (rest := []) G X (k_at ha V 1 7 rfl (by first | decide | assumption) x137) iy_X5_at ml_X9_102 rfl rfl hl.1 (by decide) (by decide) (Nat.le_of_ble_eq_true rfl) dX9_count_138 (fun y138 V138 H locs p138 X => ?_)
        obtain ⟨p138, z138⟩ := p138
        subst V138
        refine lv_goto (tgt := 146) hx hb dX9_count_141 (by decide) ?_
        exact srI G X (rfl) dX9_count_146 (by first | exact ⟨fun hf => by rw [p138, rAt_zero (fun j _ => hf.2.2.2.2.2.2.2.2.1 j)]; unfold fCount; rw [if_neg (by omega), if_neg (by omega), if_pos (by omega)], rfl⟩ | exact ⟨fun hf => by unfold fCount; rw [if_neg (by omega), if_neg (by omega), if_neg (by omega)], rfl⟩)
  by_cases hs1_0 : Int32.toInt w = 0
  · refine lv_tableIn (tgt := 44) (off := 43) hx hb dX9_count_1 (by rw [hs1_0]; decide) (by rw [hs1_0]; decide) (by rw [hs1_0]; rfl) (by decide) ?_
    refine lv_aload_n hx hb dX9_count_44 rfl (lv_at hl 0 rfl) ?_
    refine sgR G X 0 0 rfl rfl fl_X9_10 dX9_count_45 ?_
    refine sgI G X 2 0 rfl rfl fl_X9_169 dX9_count_48 ?_
    exact srI G X (rfl) dX9_count_51 (by exact ⟨fun hf => by rw [hf.2.2.2.2.1]; unfold fCount; rw [if_pos (by omega)], rfl⟩)
  by_cases hs1_1 : Int32.toInt w = 1
  · refine lv_tableIn (tgt := 52) (off := 51) hx hb dX9_count_1 (by rw [hs1_1]; decide) (by rw [hs1_1]; decide) (by rw [hs1_1]; rfl) (by decide) ?_
    refine lv_aload_n hx hb dX9_count_52 rfl (lv_at hl 0 rfl) ?_
    refine sgR G X 0 0 rfl rfl fl_X9_10 dX9_count_53 ?_
    refine sgR G X 2 1 rfl rfl fl_X9_89 dX9_count_56 ?_
    refine sgI G X 3 7 rfl rfl fl_X9_190 dX9_count_59 ?_
    exact srI G X (rfl) dX9_count_62 (by exact ⟨fun hf => by rw [hf.1]; unfold fCount; rw [if_neg (by omega), if_pos (by omega)], rfl⟩)
  by_cases hs1_2 : Int32.toInt w = 2
  · refine lv_tableIn (tgt := 63) (off := 62) hx hb dX9_count_1 (by rw [hs1_2]; decide) (by rw [hs1_2]; decide) (by rw [hs1_2]; rfl) (by decide) ?_
    refine lv_aload_n hx hb dX9_count_63 rfl (lv_at hl 0 rfl) ?_
    refine sgR G X 0 0 rfl rfl fl_X9_10 dX9_count_64 ?_
    refine sgR G X 2 1 rfl rfl fl_X9_89 dX9_count_67 ?_
    refine scI (ci := 2) (As := []) (rest := []) G X (k_doors ha V ) iy_X2_doors ml_X9_248 rfl rfl rfl rfl hl.1 (by decide) (by decide) (Nat.le_of_ble_eq_true rfl) dX9_count_70 (fun y70 V70 H locs p70 X => ?_)
    obtain ⟨p70, z70⟩ := p70
    subst V70
    exact srI G X (rfl) dX9_count_73 (by exact ⟨fun hf => by rw [p70 hf.many]; unfold fCount; rw [if_neg (by omega), if_pos (by omega)], rfl⟩)
  by_cases hs1_3 : Int32.toInt w = 3
  · refine lv_tableIn (tgt := 74) (off := 73) hx hb dX9_count_1 (by rw [hs1_3]; decide) (by rw [hs1_3]; decide) (by rw [hs1_3]; rfl) (by decide) ?_
    refine lv_aload_n hx hb dX9_count_74 rfl (lv_at hl 0 rfl) ?_
    refine sgR G X 0 0 rfl rfl fl_X9_10 dX9_count_75 ?_
    refine sgR G X 2 2 rfl rfl fl_X9_126 dX9_count_78 ?_
    refine sgI G X 11 3 rfl rfl fl_X9_130 dX9_count_81 ?_
    exact srI G X (rfl) dX9_count_84 (by exact ⟨fun hf => by rw [hf.2.2.2.1]; unfold fCount; rw [if_neg (by omega), if_pos (by omega)], rfl⟩)
  by_cases hs1_4 : Int32.toInt w = 4
  · refine lv_tableIn (tgt := 85) (off := 84) hx hb dX9_count_1 (by rw [hs1_4]; decide) (by rw [hs1_4]; decide) (by rw [hs1_4]; rfl) (by decide) ?_
    refine lv_aload_n hx hb dX9_count_85 rfl (lv_at hl 0 rfl) ?_
    refine sgR G X 0 0 rfl rfl fl_X9_10 dX9_count_86 ?_
    refine sgR G X 2 1 rfl rfl fl_X9_89 dX9_count_89 ?_
    refine scI (ci := 2) (As := []) (rest := []) G X (k_allSizes ha V ) iy_X2_allSizes ml_X9_251 rfl rfl rfl rfl hl.1 (by decide) (by decide) (Nat.le_of_ble_eq_true rfl) dX9_count_92 (fun y92 V92 H locs p92 X => ?_)
    obtain ⟨p92, z92⟩ := p92
    subst V92
    exact srI G X (rfl) dX9_count_95 (by exact ⟨fun hf => by rw [p92 hf.many]; unfold fCount; rw [if_neg (by omega), if_pos (by omega)], rfl⟩)
  by_cases hs1_5 : Int32.toInt w = 5
  · refine lv_tableIn (tgt := 96) (off := 95) hx hb dX9_count_1 (by rw [hs1_5]; decide) (by rw [hs1_5]; decide) (by rw [hs1_5]; rfl) (by decide) ?_
    refine lv_aload_n hx hb dX9_count_96 rfl (lv_at hl 0 rfl) ?_
    refine sgR G X 0 0 rfl rfl fl_X9_10 dX9_count_97 ?_
    refine sgR G X 2 5 rfl rfl fl_X9_240 dX9_count_100 ?_
    refine sgI G X 18 1 rfl rfl fl_X9_75 dX9_count_103 ?_
    exact srI G X (rfl) dX9_count_106 (by exact ⟨fun hf => by rw [hf.2.2.2.2.2.2.1]; unfold fCount; rw [if_neg (by omega), if_pos (by omega)], rfl⟩)
  by_cases hs1_6 : Int32.toInt w = 6
  · refine lv_tableIn (tgt := 107) (off := 106) hx hb dX9_count_1 (by rw [hs1_6]; decide) (by rw [hs1_6]; decide) (by rw [hs1_6]; rfl) (by decide) ?_
    refine lv_aload_n hx hb dX9_count_107 rfl (lv_at hl 0 rfl) ?_
    refine sgR G X 0 0 rfl rfl fl_X9_10 dX9_count_108 ?_
    refine sgR G X 2 4 rfl rfl fl_X9_61 dX9_count_111 ?_
    refine sgI G X 16 1 rfl rfl fl_X9_75 dX9_count_114 ?_
    exact srI G X (rfl) dX9_count_117 (by exact ⟨fun hf => by rw [hf.2.2.2.2.2.1]; unfold fCount; rw [if_neg (by omega), if_pos (by omega)], rfl⟩)
  exact absurd hs1 (by omega)
