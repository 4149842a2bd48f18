theorem m_and {x z : Int32} (e : x = z &&& 2147483647) : 0 ≤ x.toInt := by
  obtain ⟨j, hj, h⟩ := pk_andE z (m := 2147483647) 31 (by decide)
  rw [e, h, nI_toInt (by omega)]
  omega
theorem m_div256 {x y : Int32} (e : x = y / 256) (h : 0 ≤ y.toInt) : 0 ≤ x.toInt := by
  have hh := i32_hi y
  have h2 : x.toInt = y.toInt.tdiv 256 := by
    rw [e, Int32.toInt_div]
    show (y.toInt.tdiv 256).bmod (2 ^ 32) = _
    rw [Int.tdiv_eq_ediv_of_nonneg h]
    exact Int.bmod_eq_of_le (by omega) (by omega)
  rw [h2, Int.tdiv_eq_ediv_of_nonneg h]
  omega
theorem m_rem {x y : Int32} {d : Nat} (e : x = y - y / nI d * nI d) (h : 0 ≤ y.toInt) (hd : 0 < d ∧ d ≤ 41) : 0 ≤ x.toInt ∧ x.toInt < d := by
  obtain ⟨j, hj, rfl⟩ := nI_of (x := y) (by rw [Int32.lt_iff_toInt_lt, Int32.toInt_zero]; omega)
  rw [pk_rem hj hd.1 (by omega)] at e
  have h1 := Nat.mod_lt j hd.1
  rw [e, nI_toInt (by omega)]
  omega
theorem mby_back {f : Nat → Int32} {a b c : Int32} : upd (upd (upd (upd (upd (upd f 0 a) 1 b) 2 c) 0 (f 0)) 1 (f 1)) 2 (f 2) = f := by
  funext j
  simp only [upd]
  by_cases h2 : j = 2
  · subst h2; simp
  · by_cases h1 : j = 1
    · subst h1; simp
    · by_cases h0 : j = 0
      · subst h0; simp
      · simp [h0, h1, h2]
theorem upd_back {f : Nat → Int32} {k : Nat} {x y : Int32} (h : y = f k) : upd (upd f k x) k y = f := by
  funext j
  simp only [upd]
  by_cases hj : j = k
  · subst hj; simp [h]
  · simp [hj]
/-- the reference's put -/
theorem mI.put {V V1 : sV} {k : Nat} {i1 i2 i3 i5 x : Int32} (h : mI V) (hA : sAg [0, 2, 3, 4, 5, 6, 7, 8] V V1) (h0 : V1 0 = upd (V 0) 3 x) (hx : 0 ≤ x.toInt ∧ x.toInt ≤ 10) (h2 : V1 2 = upd (V 2) k i1) (h3 : V1 3 = upd (V 3) k i2) (h4 : V1 4 = upd (V 4) k i3) (h6 : V1 6 = upd (V 6) k i5)
    (g1 : 0 ≤ i1.toInt ∧ i1.toInt ≤ 5) (g2 : i3.toInt = 7 → 0 ≤ i2.toInt ∧ i2.toInt ≤ 5) (g5 : 0 ≤ i5.toInt ∧ i5.toInt ≤ 9) : mI V1 := by
  unfold mI
  rw [h0, h2, h3, h4, h6, hA 9 (by decide), hA 10 (by decide), hA 16 (by decide), hA 17 (by decide)]
  refine ⟨mF_3 h.1 hx, fun q hq => ?_, h.2.2⟩
  have hh := h.2.1 q hq
  show (0 ≤ (if q = k then i1 else V 2 q).toInt ∧ (if q = k then i1 else V 2 q).toInt ≤ 5) ∧ ((if q = k then i3 else V 4 q).toInt = 7 → 0 ≤ (if q = k then i2 else V 3 q).toInt ∧ (if q = k then i2 else V 3 q).toInt ≤ 5) ∧ (0 ≤ (if q = k then i5 else V 6 q).toInt ∧ (if q = k then i5 else V 6 q).toInt ≤ 9)
  by_cases e : q = k
  · rw [if_pos e, if_pos e, if_pos e, if_pos e]; exact ⟨g1, g2, g5⟩
  · rw [if_neg e, if_neg e, if_neg e, if_neg e]; exact hh
def q_m_best (V : sV) (q w : Int32) : Int32 → sV → Prop := fun x V1 => mK V V1 ∧ (mFr V → x = fBest q w)
set_option maxRecDepth 100000 in
set_option maxHeartbeats 4000000 in
theorem k_m_best {l : Launch} {D : va_G} {cI : ClassId} {a : Nat → Nat} (ha : sInj SM a) (V : sV) (q w : Int32) (hm : mI V) : sMI l D cI SM a V yX10_best cX10_best 12 .int 5 [.ref (a 0), .int q, .int w] (q_m_best V q w) := by
  refine sMIof ha (by decide +kernel) (Nat.le_of_ble_eq_true rfl) ?_
  intro p e s m below meth c ls G X hl
  obtain ⟨hx, hb, hml, hown, hts, hlocks, hr, hK⟩ := id G
  have hl : lv_has ls 12 [(0, .ref (a 0)), (1, .int q), (2, .int w)] := hl
  obtain ⟨mf0, mf1, mf3, mf11, mf14, mf15⟩ := hm.1
  refine lv_iload_n hx hb dX10_best_0 rfl (lv_at hl 2 rfl) ?_
  refine sZlt (tgt := 9) hx hb (rfl : Int32.toInt w = _) dX10_best_1 (by decide) (fun c1 => ?_) (fun c1 => ?_)
  · skip
    refine lv_aload_n hx hb dX10_best_9 rfl (lv_at hl 0 rfl) ?_
    refine lv_bipush (v := (-2)) hx hb dX10_best_10 (by decide) ?_
    refine scI (ci := 9) (As := [.int (-2)]) (rest := []) G X (k_m_no ha V (-2) (by decide) (by decide)) iy_X10_no ml_X10_68 rfl rfl rfl rfl hl.1 (by decide) (by decide) (Nat.le_of_ble_eq_true rfl) dX10_best_12 (fun y12 V12 H locs p12 X => ?_)
    exact srI G X (rfl) dX10_best_15 (by exact ⟨(mK.ag hm ((sAg.mono p12.1 (by decide)) : sAg [1, 5, 7, 8, 11, 12, 13, 14, 15] V _) (by decide)), (fun hf => by have hg := hf.t; rw [p12.2]; unfold fBest; (repeat' split) <;> first | rfl | (exfalso; omega))⟩)
  · skip
    refine lv_iload_n hx hb dX10_best_4 rfl (lv_at hl 2 rfl) ?_
    refine lv_iconst (v := 1) hx hb dX10_best_5 (by decide) ?_
    refine sIle (tgt := 16) hx hb (rfl : Int32.toInt w = _) (by decide : (1 : Int32).toInt = 1) dX10_best_6 (by decide) (fun c6 => ?_) (fun c6 => ?_)
    · skip
      refine lv_iload_n hx hb dX10_best_16 rfl (lv_at hl 1 rfl) ?_
      refine sZge (tgt := 27) hx hb (rfl : Int32.toInt q = _) dX10_best_17 (by decide) (fun c17 => ?_) (fun c17 => ?_)
      · skip
        refine lv_iload_n hx hb dX10_best_27 rfl (lv_at hl 1 rfl) ?_
        refine lv_bipush (v := 99) hx hb dX10_best_28 (by decide) ?_
        refine sIle (tgt := 40) hx hb (rfl : Int32.toInt q = _) (by decide : (99 : Int32).toInt = 99) dX10_best_30 (by decide) (fun c30 => ?_) (fun c30 => ?_)
        · skip
          refine lv_bipush (v := (-9)) hx hb dX10_best_40 (by decide) ?_
          refine lv_istore_n (lv' := [(3, .int (-9)), (0, .ref (a 0)), (1, .int q), (2, .int w)]) hx hb dX10_best_42 rfl hl (by decide) rfl (fun ls hl => ?_)
          refine lv_bipush (v := (-9)) hx hb dX10_best_43 (by decide) ?_
          refine lv_istore (lv' := [(4, .int (-9)), (3, .int (-9)), (0, .ref (a 0)), (1, .int q), (2, .int w)]) hx hb dX10_best_45 hl (by decide) rfl (fun ls hl => ?_)
          refine lv_iconst (v := 0) hx hb dX10_best_47 (by decide) ?_
          refine lv_istore (lv' := [(5, .int 0), (4, .int (-9)), (3, .int (-9)), (0, .ref (a 0)), (1, .int q), (2, .int w)]) hx hb dX10_best_48 hl (by decide) rfl (fun ls hl => ?_)
          have L50 : ∀ (fu50 : Nat) (i : Int32) (b : Int32) (g : Int32) (Y : sV) (H : Heap) (locs : List Loc) (ls : Array Slot), (0 ≤ i.toInt) → (sAg [5, 13, 14] V Y) → (mFr V → (i.toInt = 0 ∧ b.toInt = -9) ∨ (i.toInt = 1 ∧ b.toInt = 0 ∧ g.toInt = 0)) → ((Int32.toInt (1 <<< (V 0 3 &&& 31)) - i.toInt).toNat) < fu50 → sWS D cI SM a Y s.heap H locs → lv_has ls 12 [(5, .int i), (4, .int g), (3, .int b), (0, .ref (a 0)), (1, .int q), (2, .int w)] → W p l e (rmD 5) s m ([.ref (a 0), .int q, .int w] : List Value).toArray below meth c H locs 0 0 (MQ below (va_Qi (q_m_best V q w) (fun V1 t => va_P D vwCl (sWd cI SM a V1) t.heap) (sA SM a s.heap.size)) ([.ref (a 0), .int q, .int w] : List Value).toArray s 0 0 (sA SM a s.heap.size)) (F0 m 50 ls []) := by
            intro fu50
            induction fu50 with
            | zero => intro i b g Y H locs ls hi hA hv hm50; exact absurd hm50 (Nat.not_lt_zero _)
            | succ fu50 ih50 =>
              intro i b g Y H locs ls hi hA hv hm50 X hl
              have hmY : mI Y := hm.ag hA (by decide)
              have hY3 : (Y 0 3).toInt = (V 0 3).toInt := by rw [hA 0 (by decide)]
              refine lv_iload hx hb dX10_best_50 (lv_at hl 0 rfl) ?_
              refine lv_iconst (v := 1) hx hb dX10_best_52 (by decide) ?_
              refine lv_aload_n hx hb dX10_best_53 rfl (lv_at hl 3 rfl) ?_
              refine sgI G X 0 3 rfl rfl fl_X10_65 dX10_best_54 ?_
              refine lv_ishl hx hb dX10_best_57 ?_
              refine lv_topi (fun x57 e57 => ?_)
              rw [hA 0 (by decide)] at e57
              have t57 := congrArg Int32.toInt e57
              refine sIge (tgt := 206) hx hb (rfl : Int32.toInt i = _) (rfl : Int32.toInt x57 = _) dX10_best_58 (by decide) (fun c58 => ?_) (fun c58 => ?_)
              · skip
                refine lv_iload_n hx hb dX10_best_206 rfl (lv_at hl 5 rfl) ?_
                refine sZne (tgt := 214) hx hb (rfl : Int32.toInt w = _) dX10_best_207 (by decide) (fun c207 => ?_) (fun c207 => ?_)
                · skip
                  refine lv_iload hx hb dX10_best_214 (lv_at hl 1 rfl) ?_
                  exact srI G X (rfl) dX10_best_216 (by exact ⟨(mK.ag hm ((sAg.mono hA (by decide)) : sAg [1, 5, 7, 8, 11, 12, 13, 14, 15] V _) (by decide)), fun hf => by obtain h2 := hv hf; have hg := hf.t; rw [hf.1] at t57; have t58 : x57.toInt = 1 := t57; have hb0 : b = 0 := i32_0 (by omega); have hg0 : g = 0 := i32_0 (by omega); unfold fBest; rw [if_neg (by omega), if_neg (by omega), if_neg (by omega), if_neg (by omega)]; first | exact hb0 | exact hg0⟩)
                · skip
                  refine lv_iload_n hx hb dX10_best_210 rfl (lv_at hl 2 rfl) ?_
                  refine lv_goto (tgt := 216) hx hb dX10_best_211 (by decide) ?_
                  exact srI G X (rfl) dX10_best_216 (by exact ⟨(mK.ag hm ((sAg.mono hA (by decide)) : sAg [1, 5, 7, 8, 11, 12, 13, 14, 15] V _) (by decide)), fun hf => by obtain h2 := hv hf; have hg := hf.t; rw [hf.1] at t57; have t58 : x57.toInt = 1 := t57; have hb0 : b = 0 := i32_0 (by omega); have hg0 : g = 0 := i32_0 (by omega); unfold fBest; rw [if_neg (by omega), if_neg (by omega), if_neg (by omega), if_neg (by omega)]; first | exact hb0 | exact hg0⟩)
              · skip
                refine lv_iload hx hb dX10_best_61 (lv_at hl 0 rfl) ?_
                refine scSI (As := [.int i]) (rest := []) G X (k_bitCount ha Y i) iy_J6_bitCount_0f7a4 ml_X10_170 rfl rfl hl.1 (by decide) (by decide) (Nat.le_of_ble_eq_true rfl) dX10_best_63 (fun y63 V63 H locs p63 X => ?_)
                obtain ⟨p63, z63⟩ := p63
                subst V63
                refine lv_iconst (v := 3) hx hb dX10_best_66 (by decide) ?_
                refine sIle (tgt := 73) hx hb (rfl : Int32.toInt y63 = _) (by decide : (3 : Int32).toInt = 3) dX10_best_67 (by decide) (fun c67 => ?_) (fun c67 => ?_)
                · skip
                  refine lv_iconst (v := 0) hx hb dX10_best_73 (by decide) ?_
                  refine lv_istore (lv' := [(6, .int 0), (5, .int i), (4, .int g), (3, .int b), (0, .ref (a 0)), (1, .int q), (2, .int w)]) hx hb dX10_best_74 hl (by decide) rfl (fun ls hl => ?_)
                  refine lv_iconst (v := 1) hx hb dX10_best_76 (by decide) ?_
                  refine lv_istore (lv' := [(7, .int 1), (6, .int 0), (5, .int i), (4, .int g), (3, .int b), (0, .ref (a 0)), (1, .int q), (2, .int w)]) hx hb dX10_best_77 hl (by decide) rfl (fun ls hl => ?_)
                  refine lv_iconst (v := 0) hx hb dX10_best_79 (by decide) ?_
                  refine lv_istore (lv' := [(8, .int 0), (7, .int 1), (6, .int 0), (5, .int i), (4, .int g), (3, .int b), (0, .ref (a 0)), (1, .int q), (2, .int w)]) hx hb dX10_best_80 hl (by decide) rfl (fun ls hl => ?_)
                  have L82 : ∀ (fu82 : Nat) (h : Int32) (z : Int32) (u : Int32) (H : Heap) (locs : List Loc) (ls : Array Slot), (0 ≤ h.toInt) → (mFr V → z = 0 ∧ u.toInt = 1) → (((Y 0 3).toInt - h.toInt).toNat) < fu82 → sWS D cI SM a Y s.heap H locs → lv_has ls 12 [(8, .int h), (7, .int u), (6, .int z), (5, .int i), (4, .int g), (3, .int b), (0, .ref (a 0)), (1, .int q), (2, .int w)] → W p l e (rmD 5) s m ([.ref (a 0), .int q, .int w] : List Value).toArray below meth c H locs 0 0 (MQ below (va_Qi (q_m_best V q w) (fun V1 t => va_P D vwCl (sWd cI SM a V1) t.heap) (sA SM a s.heap.size)) ([.ref (a 0), .int q, .int w] : List Value).toArray s 0 0 (sA SM a s.heap.size)) (F0 m 82 ls []) := by
                    intro fu82
                    induction fu82 with
                    | zero => intro h z u H locs ls hh1 hz hm82; exact absurd hm82 (Nat.not_lt_zero _)
                    | succ fu82 ih82 =>
                      intro h z u H locs ls hh1 hz hm82 X hl
                      refine lv_iload hx hb dX10_best_82 (lv_at hl 0 rfl) ?_
                      refine lv_aload_n hx hb dX10_best_84 rfl (lv_at hl 6 rfl) ?_
                      refine sgI G X 0 3 rfl rfl fl_X10_65 dX10_best_85 ?_
                      refine sIge (tgt := 134) hx hb (rfl : Int32.toInt h = _) (rfl : Int32.toInt (Y 0 3) = _) dX10_best_88 (by decide) (fun c88 => ?_) (fun c88 => ?_)
                      · skip
                        refine lv_iload hx hb dX10_best_134 (lv_at hl 1 rfl) ?_
                        refine sZeq (tgt := 200) hx hb (rfl : Int32.toInt u = _) dX10_best_136 (by decide) (fun c136 => ?_) (fun c136 => ?_)
                        · skip
                          obtain ⟨x200, e200⟩ : ∃ y : Int32, y = i + (1) := ⟨_, rfl⟩
                          refine lv_iinc (v := x200) (lv' := [(5, .int x200), (8, .int h), (7, .int u), (6, .int z), (4, .int g), (3, .int b), (0, .ref (a 0)), (1, .int q), (2, .int w)]) hx hb dX10_best_200 hl (k := 3) rfl (by rw [e200]; rfl) (by decide) rfl (fun ls hl => ?_)
                          refine lv_goto (tgt := 50) hx hb dX10_best_203 (by decide) ?_
                          exact ih50 x200 b g Y _ _ _ (by rw [i32_i e200 (by have := i32_hi x57; omega)]; omega) (by first | exact ((hA.tr (sAg.mono p151 (by decide))).tr (sAg.mono p157.1 (by decide))).tr (sAg.mono p171 (by decide)) | exact hA) (fun hf => by
                              have h2 := hv hf
                              have hg := hf.t
                              have t200 := i32_i e200 (by have := i32_hi x57; omega)
                              rw [hf.1] at t57
                              have t58 : x57.toInt = 1 := t57
                              have h63 := p63 (i32_0 (by omega))
                              rw [h63, Int32.toInt_zero] at c67
                              first | (exfalso; omega) | skip
                              all_goals (
                                obtain ⟨hz0, hu1⟩ := hz hf
                                try rw [hz0, Int32.toInt_zero] at c142
                                first | (exfalso; omega) | skip
                              )
                              all_goals (
                                have hA5 : sAg [5, 13, 14] V V151 := hA.tr (sAg.mono p151 (by decide))
                                have h10 := p157.2.2.2 (hf.quiet.ag hA5 (by decide)) (by rw [hA5 15 (by decide)]; exact hf.2.2.1)
                                have h11 := p163.2 (by rw [p157.1 0 (by decide), hA5 0 (by decide)]; exact hg.1)
                                first | (exfalso; rw [h11] at c176; exact c176 rfl) | skip
                              )
                              all_goals (
                                rw [h10] at *
                                first | (exfalso; omega) | exact Or.inr ⟨by omega, by omega, rfl⟩)) (by rw [i32_i e200 (by have := i32_hi x57; omega)]; omega) X (lv_sub hl [0, 4, 5, 6, 7, 8] rfl)
                        · skip
                          refine lv_iload hx hb dX10_best_139 (lv_at hl 2 rfl) ?_
                          refine lv_iload_n hx hb dX10_best_141 rfl (lv_at hl 7 rfl) ?_
                          refine sIle (tgt := 148) hx hb (rfl : Int32.toInt z = _) (rfl : Int32.toInt q = _) dX10_best_142 (by decide) (fun c142 => ?_) (fun c142 => ?_)
                          · skip
                            refine lv_aload_n hx hb dX10_best_148 rfl (lv_at hl 6 rfl) ?_
                            refine lv_iload hx hb dX10_best_149 (lv_at hl 3 rfl) ?_
                            refine scL (ci := 9) (As := [.int i]) (rest := []) G X (k_m_stop ha Y i (by assumption)) iy_X10_stop ml_X10_159 rfl rfl rfl rfl hl.1 (by decide) (by decide) (Nat.le_of_ble_eq_true rfl) dX10_best_151 (fun y151 V151 H locs p151 X => ?_)
                            have hmV151 : mI V151 := hm.ag (sAg.mono (hA.tr (sAg.mono p151 (by decide))) (by decide) : sAg [5, 12, 13, 14] V _) (by decide)
                            refine lv_lstore (lv' := [(8, .long y151), (7, .int u), (6, .int z), (5, .int i), (4, .int g), (3, .int b), (0, .ref (a 0)), (1, .int q), (2, .int w)]) hx hb dX10_best_154 hl (by decide) rfl (fun ls hl => ?_)
                            refine lv_aload_n hx hb dX10_best_156 rfl (lv_at hl 6 rfl) ?_
                            refine scI (ci := 9) (As := []) (rest := []) G X (k_m_coal ha V151 (by assumption)) iy_X10_coal ml_X10_163 rfl rfl rfl rfl hl.1 (by decide) (by decide) (Nat.le_of_ble_eq_true rfl) dX10_best_157 (fun y157 V157 H locs p157 X => ?_)
                            have hmV157 : mI V157 := hm.ag (sAg.mono ((hA.tr (sAg.mono p151 (by decide))).tr (sAg.mono p157.1 (by decide))) (by decide) : sAg [5, 12, 13, 14] V _) (by decide)
                            obtain ⟨hP157, hO157⟩ := And.intro p157.2.1 p157.2.2.1
                            refine lv_istore (lv' := [(10, .int y157), (8, .long y151), (7, .int u), (6, .int z), (5, .int i), (4, .int g), (3, .int b), (0, .ref (a 0)), (1, .int q), (2, .int w)]) hx hb dX10_best_160 hl (by decide) rfl (fun ls hl => ?_)
                            refine lv_aload_n hx hb dX10_best_162 rfl (lv_at hl 7 rfl) ?_
                            refine scI (ci := 9) (As := []) (rest := []) G X (k_m_smoke ha V157 (by assumption) (by assumption) (by assumption)) iy_X10_smoke ml_X10_153 rfl rfl rfl rfl hl.1 (by decide) (by decide) (Nat.le_of_ble_eq_true rfl) dX10_best_163 (fun y163 V163 H locs p163 X => ?_)
                            obtain ⟨p163, z163⟩ := p163
                            subst V163
                            refine lv_istore (lv' := [(11, .int y163), (10, .int y157), (8, .long y151), (7, .int u), (6, .int z), (5, .int i), (4, .int g), (3, .int b), (0, .ref (a 0)), (1, .int q), (2, .int w)]) hx hb dX10_best_166 hl (by decide) rfl (fun ls hl => ?_)
                            refine lv_aload_n hx hb dX10_best_168 rfl (lv_at hl 8 rfl) ?_
                            refine lv_lload hx hb dX10_best_169 (lv_at hl 2 rfl) ?_
                            refine scV (ci := 9) (As := [.long y151]) (rest := []) G X (k_m_open ha V157 y151 (by assumption)) iy_X10_open ml_X10_166 rfl rfl rfl rfl hl.1 (by decide) (by decide) (Nat.le_of_ble_eq_true rfl) dX10_best_171 (fun V171 H locs p171 X => ?_)
                            refine lv_iload hx hb dX10_best_174 (lv_at hl 0 rfl) ?_
                            refine sZne (tgt := 200) hx hb (rfl : Int32.toInt y163 = _) dX10_best_176 (by decide) (fun c176 => ?_) (fun c176 => ?_)
                            · skip
                              obtain ⟨x200, e200⟩ : ∃ y : Int32, y = i + (1) := ⟨_, rfl⟩
                              refine lv_iinc (v := x200) (lv' := [(5, .int x200), (11, .int y163), (10, .int y157), (8, .long y151), (7, .int u), (6, .int z), (4, .int g), (3, .int b), (0, .ref (a 0)), (1, .int q), (2, .int w)]) hx hb dX10_best_200 hl (k := 5) rfl (by rw [e200]; rfl) (by decide) rfl (fun ls hl => ?_)
                              refine lv_goto (tgt := 50) hx hb dX10_best_203 (by decide) ?_
                              exact ih50 x200 b g V171 _ _ _ (by rw [i32_i e200 (by have := i32_hi x57; omega)]; omega) (by first | exact ((hA.tr (sAg.mono p151 (by decide))).tr (sAg.mono p157.1 (by decide))).tr (sAg.mono p171 (by decide)) | exact hA) (fun hf => by
                                  have h2 := hv hf
                                  have hg := hf.t
                                  have t200 := i32_i e200 (by have := i32_hi x57; omega)
                                  rw [hf.1] at t57
                                  have t58 : x57.toInt = 1 := t57
                                  have h63 := p63 (i32_0 (by omega))
                                  rw [h63, Int32.toInt_zero] at c67
                                  first | (exfalso; omega) | skip
                                  all_goals (
                                    obtain ⟨hz0, hu1⟩ := hz hf
                                    try rw [hz0, Int32.toInt_zero] at c142
                                    first | (exfalso; omega) | skip
                                  )
                                  all_goals (
                                    have hA5 : sAg [5, 13, 14] V V151 := hA.tr (sAg.mono p151 (by decide))
                                    have h10 := p157.2.2.2 (hf.quiet.ag hA5 (by decide)) (by rw [hA5 15 (by decide)]; exact hf.2.2.1)
                                    have h11 := p163.2 (by rw [p157.1 0 (by decide), hA5 0 (by decide)]; exact hg.1)
                                    first | (exfalso; rw [h11] at c176; exact c176 rfl) | skip
                                  )
                                  all_goals (
                                    rw [h10] at *
                                    first | (exfalso; omega) | exact Or.inr ⟨by omega, by omega, rfl⟩)) (by rw [i32_i e200 (by have := i32_hi x57; omega)]; omega) X (lv_sub hl [0, 6, 7, 8, 9, 10] rfl)
                            · skip
                              refine lv_iload_n hx hb dX10_best_179 rfl (lv_at hl 7 rfl) ?_
                              refine sZlt (tgt := 193) hx hb (rfl : Int32.toInt b = _) dX10_best_180 (by decide) (fun c180 => ?_) (fun c180 => ?_)
                              · skip
                                refine lv_iload hx hb dX10_best_193 (lv_at hl 5 rfl) ?_
                                refine lv_istore_n (lv' := [(3, .int i), (11, .int y163), (10, .int y157), (8, .long y151), (7, .int u), (6, .int z), (5, .int i), (4, .int g), (0, .ref (a 0)), (1, .int q), (2, .int w)]) hx hb dX10_best_195 rfl hl (by decide) rfl (fun ls hl => ?_)
                                refine lv_iload hx hb dX10_best_196 (lv_at hl 2 rfl) ?_
                                refine lv_istore (lv' := [(4, .int y157), (3, .int i), (11, .int y163), (10, .int y157), (8, .long y151), (7, .int u), (6, .int z), (5, .int i), (0, .ref (a 0)), (1, .int q), (2, .int w)]) hx hb dX10_best_198 hl (by decide) rfl (fun ls hl => ?_)
                                obtain ⟨x200, e200⟩ : ∃ y : Int32, y = i + (1) := ⟨_, rfl⟩
                                refine lv_iinc (v := x200) (lv' := [(5, .int x200), (4, .int y157), (3, .int i), (11, .int y163), (10, .int y157), (8, .long y151), (7, .int u), (6, .int z), (0, .ref (a 0)), (1, .int q), (2, .int w)]) hx hb dX10_best_200 hl (k := 7) rfl (by rw [e200]; rfl) (by decide) rfl (fun ls hl => ?_)
                                refine lv_goto (tgt := 50) hx hb dX10_best_203 (by decide) ?_
                                exact ih50 x200 i y157 V171 _ _ _ (by rw [i32_i e200 (by have := i32_hi x57; omega)]; omega) (by first | exact ((hA.tr (sAg.mono p151 (by decide))).tr (sAg.mono p157.1 (by decide))).tr (sAg.mono p171 (by decide)) | exact hA) (fun hf => by
                                    have h2 := hv hf
                                    have hg := hf.t
                                    have t200 := i32_i e200 (by have := i32_hi x57; omega)
                                    rw [hf.1] at t57
                                    have t58 : x57.toInt = 1 := t57
                                    have h63 := p63 (i32_0 (by omega))
                                    rw [h63, Int32.toInt_zero] at c67
                                    first | (exfalso; omega) | skip
                                    all_goals (
                                      obtain ⟨hz0, hu1⟩ := hz hf
                                      try rw [hz0, Int32.toInt_zero] at c142
                                      first | (exfalso; omega) | skip
                                    )
                                    all_goals (
                                      have hA5 : sAg [5, 13, 14] V V151 := hA.tr (sAg.mono p151 (by decide))
                                      have h10 := p157.2.2.2 (hf.quiet.ag hA5 (by decide)) (by rw [hA5 15 (by decide)]; exact hf.2.2.1)
                                      have h11 := p163.2 (by rw [p157.1 0 (by decide), hA5 0 (by decide)]; exact hg.1)
                                      first | (exfalso; rw [h11] at c176; exact c176 rfl) | skip
                                    )
                                    all_goals (
                                      rw [h10] at *
                                      first | (exfalso; omega) | exact Or.inr ⟨by omega, by omega, rfl⟩)) (by rw [i32_i e200 (by have := i32_hi x57; omega)]; omega) X (lv_sub hl [0, 1, 2, 8, 9, 10] rfl)
                              · skip
                                refine lv_iload hx hb dX10_best_183 (lv_at hl 1 rfl) ?_
                                refine lv_iload hx hb dX10_best_185 (lv_at hl 6 rfl) ?_
                                refine sIlt (tgt := 193) hx hb (rfl : Int32.toInt y157 = _) (rfl : Int32.toInt g = _) dX10_best_187 (by decide) (fun c187 => ?_) (fun c187 => ?_)
                                · skip
                                  refine lv_iload hx hb dX10_best_193 (lv_at hl 5 rfl) ?_
                                  refine lv_istore_n (lv' := [(3, .int i), (11, .int y163), (10, .int y157), (8, .long y151), (7, .int u), (6, .int z), (5, .int i), (4, .int g), (0, .ref (a 0)), (1, .int q), (2, .int w)]) hx hb dX10_best_195 rfl hl (by decide) rfl (fun ls hl => ?_)
                                  refine lv_iload hx hb dX10_best_196 (lv_at hl 2 rfl) ?_
                                  refine lv_istore (lv' := [(4, .int y157), (3, .int i), (11, .int y163), (10, .int y157), (8, .long y151), (7, .int u), (6, .int z), (5, .int i), (0, .ref (a 0)), (1, .int q), (2, .int w)]) hx hb dX10_best_198 hl (by decide) rfl (fun ls hl => ?_)
                                  obtain ⟨x200, e200⟩ : ∃ y : Int32, y = i + (1) := ⟨_, rfl⟩
                                  refine lv_iinc (v := x200) (lv' := [(5, .int x200), (4, .int y157), (3, .int i), (11, .int y163), (10, .int y157), (8, .long y151), (7, .int u), (6, .int z), (0, .ref (a 0)), (1, .int q), (2, .int w)]) hx hb dX10_best_200 hl (k := 7) rfl (by rw [e200]; rfl) (by decide) rfl (fun ls hl => ?_)
                                  refine lv_goto (tgt := 50) hx hb dX10_best_203 (by decide) ?_
                                  exact ih50 x200 i y157 V171 _ _ _ (by rw [i32_i e200 (by have := i32_hi x57; omega)]; omega) (by first | exact ((hA.tr (sAg.mono p151 (by decide))).tr (sAg.mono p157.1 (by decide))).tr (sAg.mono p171 (by decide)) | exact hA) (fun hf => by
                                      have h2 := hv hf
                                      have hg := hf.t
                                      have t200 := i32_i e200 (by have := i32_hi x57; omega)
                                      rw [hf.1] at t57
                                      have t58 : x57.toInt = 1 := t57
                                      have h63 := p63 (i32_0 (by omega))
                                      rw [h63, Int32.toInt_zero] at c67
                                      first | (exfalso; omega) | skip
                                      all_goals (
                                        obtain ⟨hz0, hu1⟩ := hz hf
                                        try rw [hz0, Int32.toInt_zero] at c142
                                        first | (exfalso; omega) | skip
                                      )
                                      all_goals (
                                        have hA5 : sAg [5, 13, 14] V V151 := hA.tr (sAg.mono p151 (by decide))
                                        have h10 := p157.2.2.2 (hf.quiet.ag hA5 (by decide)) (by rw [hA5 15 (by decide)]; exact hf.2.2.1)
                                        have h11 := p163.2 (by rw [p157.1 0 (by decide), hA5 0 (by decide)]; exact hg.1)
                                        first | (exfalso; rw [h11] at c176; exact c176 rfl) | skip
                                      )
                                      all_goals (
                                        rw [h10] at *
                                        first | (exfalso; omega) | exact Or.inr ⟨by omega, by omega, rfl⟩)) (by rw [i32_i e200 (by have := i32_hi x57; omega)]; omega) X (lv_sub hl [0, 1, 2, 8, 9, 10] rfl)
                                · skip
                                  refine lv_goto (tgt := 200) hx hb dX10_best_190 (by decide) ?_
                                  obtain ⟨x200, e200⟩ : ∃ y : Int32, y = i + (1) := ⟨_, rfl⟩
                                  refine lv_iinc (v := x200) (lv' := [(5, .int x200), (11, .int y163), (10, .int y157), (8, .long y151), (7, .int u), (6, .int z), (4, .int g), (3, .int b), (0, .ref (a 0)), (1, .int q), (2, .int w)]) hx hb dX10_best_200 hl (k := 5) rfl (by rw [e200]; rfl) (by decide) rfl (fun ls hl => ?_)
                                  refine lv_goto (tgt := 50) hx hb dX10_best_203 (by decide) ?_
                                  exact ih50 x200 b g V171 _ _ _ (by rw [i32_i e200 (by have := i32_hi x57; omega)]; omega) (by first | exact ((hA.tr (sAg.mono p151 (by decide))).tr (sAg.mono p157.1 (by decide))).tr (sAg.mono p171 (by decide)) | exact hA) (fun hf => by
                                      have h2 := hv hf
                                      have hg := hf.t
                                      have t200 := i32_i e200 (by have := i32_hi x57; omega)
                                      rw [hf.1] at t57
                                      have t58 : x57.toInt = 1 := t57
                                      have h63 := p63 (i32_0 (by omega))
                                      rw [h63, Int32.toInt_zero] at c67
                                      first | (exfalso; omega) | skip
                                      all_goals (
                                        obtain ⟨hz0, hu1⟩ := hz hf
                                        try rw [hz0, Int32.toInt_zero] at c142
                                        first | (exfalso; omega) | skip
                                      )
                                      all_goals (
                                        have hA5 : sAg [5, 13, 14] V V151 := hA.tr (sAg.mono p151 (by decide))
                                        have h10 := p157.2.2.2 (hf.quiet.ag hA5 (by decide)) (by rw [hA5 15 (by decide)]; exact hf.2.2.1)
                                        have h11 := p163.2 (by rw [p157.1 0 (by decide), hA5 0 (by decide)]; exact hg.1)
                                        first | (exfalso; rw [h11] at c176; exact c176 rfl) | skip
                                      )
                                      all_goals (
                                        rw [h10] at *
                                        first | (exfalso; omega) | exact Or.inr ⟨by omega, by omega, rfl⟩)) (by rw [i32_i e200 (by have := i32_hi x57; omega)]; omega) X (lv_sub hl [0, 6, 7, 8, 9, 10] rfl)
                          · skip
                            refine lv_goto (tgt := 200) hx hb dX10_best_145 (by decide) ?_
                            obtain ⟨x200, e200⟩ : ∃ y : Int32, y = i + (1) := ⟨_, rfl⟩
                            refine lv_iinc (v := x200) (lv' := [(5, .int x200), (8, .int h), (7, .int u), (6, .int z), (4, .int g), (3, .int b), (0, .ref (a 0)), (1, .int q), (2, .int w)]) hx hb dX10_best_200 hl (k := 3) rfl (by rw [e200]; rfl) (by decide) rfl (fun ls hl => ?_)
                            refine lv_goto (tgt := 50) hx hb dX10_best_203 (by decide) ?_
                            exact ih50 x200 b g Y _ _ _ (by rw [i32_i e200 (by have := i32_hi x57; omega)]; omega) (by first | exact ((hA.tr (sAg.mono p151 (by decide))).tr (sAg.mono p157.1 (by decide))).tr (sAg.mono p171 (by decide)) | exact hA) (fun hf => by
                                have h2 := hv hf
                                have hg := hf.t
                                have t200 := i32_i e200 (by have := i32_hi x57; omega)
                                rw [hf.1] at t57
                                have t58 : x57.toInt = 1 := t57
                                have h63 := p63 (i32_0 (by omega))
                                rw [h63, Int32.toInt_zero] at c67
                                first | (exfalso; omega) | skip
                                all_goals (
                                  obtain ⟨hz0, hu1⟩ := hz hf
                                  try rw [hz0, Int32.toInt_zero] at c142
                                  first | (exfalso; omega) | skip
                                )
                                all_goals (
                                  have hA5 : sAg [5, 13, 14] V V151 := hA.tr (sAg.mono p151 (by decide))
                                  have h10 := p157.2.2.2 (hf.quiet.ag hA5 (by decide)) (by rw [hA5 15 (by decide)]; exact hf.2.2.1)
                                  have h11 := p163.2 (by rw [p157.1 0 (by decide), hA5 0 (by decide)]; exact hg.1)
                                  first | (exfalso; rw [h11] at c176; exact c176 rfl) | skip
                                )
                                all_goals (
                                  rw [h10] at *
                                  first | (exfalso; omega) | exact Or.inr ⟨by omega, by omega, rfl⟩)) (by rw [i32_i e200 (by have := i32_hi x57; omega)]; omega) X (lv_sub hl [0, 4, 5, 6, 7, 8] rfl)
                      · skip
                        refine lv_iload hx hb dX10_best_91 (lv_at hl 3 rfl) ?_
                        refine lv_iload hx hb dX10_best_93 (lv_at hl 0 rfl) ?_
                        refine lv_ishr hx hb dX10_best_95 ?_
                        refine lv_topi (fun x95 e95 => ?_)
                        refine lv_iconst (v := 1) hx hb dX10_best_96 (by decide) ?_
                        refine lv_iand hx hb dX10_best_97 ?_
                        refine lv_topi (fun x97 e97 => ?_)
                        refine sZne (tgt := 104) hx hb (rfl : Int32.toInt x97 = _) dX10_best_98 (by decide) (fun c98 => ?_) (fun c98 => ?_)
                        · skip
                          refine lv_iload hx hb dX10_best_104 (lv_at hl 2 rfl) ?_
                          refine lv_aload_n hx hb dX10_best_106 rfl (lv_at hl 6 rfl) ?_
                          refine sgR G X 0 10 rfl rfl fl_X10_31 dX10_best_107 ?_
                          refine lv_iload hx hb dX10_best_110 (lv_at hl 0 rfl) ?_
                          refine sld G X 8 rfl (i32_in (by omega) (by omega)) dX10_best_112 ?_
                          refine lv_topi (fun x112 e112 => ?_)
                          refine lv_iadd hx hb dX10_best_113 ?_
                          refine lv_topi (fun x113 e113 => ?_)
                          refine lv_istore (lv' := [(6, .int x113), (8, .int h), (7, .int u), (5, .int i), (4, .int g), (3, .int b), (0, .ref (a 0)), (1, .int q), (2, .int w)]) hx hb dX10_best_114 hl (by decide) rfl (fun ls hl => ?_)
                          refine lv_aload_n hx hb dX10_best_116 rfl (lv_at hl 6 rfl) ?_
                          refine lv_iload hx hb dX10_best_117 (lv_at hl 1 rfl) ?_
                          refine scI (ci := 9) (As := [.int h]) (rest := []) G X (k_m_isDoor ha Y h (by first | assumption | omega) (by first | assumption | omega)) iy_X10_isDoor ml_X10_129 rfl rfl rfl rfl hl.1 (by decide) (by decide) (Nat.le_of_ble_eq_true rfl) dX10_best_119 (fun y119 V119 H locs p119 X => ?_)
                          obtain ⟨p119, z119⟩ := p119
                          subst V119
                          refine sZeq (tgt := 128) hx hb (rfl : Int32.toInt y119 = _) dX10_best_122 (by decide) (fun c122 => ?_) (fun c122 => ?_)
                          · skip
                            obtain ⟨x128, e128⟩ : ∃ y : Int32, y = h + (1) := ⟨_, rfl⟩
                            refine lv_iinc (v := x128) (lv' := [(8, .int x128), (6, .int x113), (7, .int u), (5, .int i), (4, .int g), (3, .int b), (0, .ref (a 0)), (1, .int q), (2, .int w)]) hx hb dX10_best_128 hl (k := 1) rfl (by rw [e128]; rfl) (by decide) rfl (fun ls hl => ?_)
                            refine lv_goto (tgt := 82) hx hb dX10_best_131 (by decide) ?_
                            exact ih82 x128 x113 u _ _ _ (by rw [i32_i e128 (by have := i32_hi (Y 0 3); omega)]; omega) (fun hf => by exfalso; have hg := hf.t; omega) (by rw [i32_i e128 (by have := i32_hi (Y 0 3); omega)]; omega) X (lv_sub hl [0, 2, 1, 3, 4, 5, 6, 7, 8] rfl)
                          · skip
                            refine lv_iconst (v := 0) hx hb dX10_best_125 (by decide) ?_
                            refine lv_istore (lv' := [(7, .int 0), (6, .int x113), (8, .int h), (5, .int i), (4, .int g), (3, .int b), (0, .ref (a 0)), (1, .int q), (2, .int w)]) hx hb dX10_best_126 hl (by decide) rfl (fun ls hl => ?_)
                            obtain ⟨x128, e128⟩ : ∃ y : Int32, y = h + (1) := ⟨_, rfl⟩
                            refine lv_iinc (v := x128) (lv' := [(8, .int x128), (7, .int 0), (6, .int x113), (5, .int i), (4, .int g), (3, .int b), (0, .ref (a 0)), (1, .int q), (2, .int w)]) hx hb dX10_best_128 hl (k := 2) rfl (by rw [e128]; rfl) (by decide) rfl (fun ls hl => ?_)
                            refine lv_goto (tgt := 82) hx hb dX10_best_131 (by decide) ?_
                            exact ih82 x128 x113 0 _ _ _ (by rw [i32_i e128 (by have := i32_hi (Y 0 3); omega)]; omega) (fun hf => by exfalso; have hg := hf.t; omega) (by rw [i32_i e128 (by have := i32_hi (Y 0 3); omega)]; omega) X (lv_sub hl [0, 1, 2, 3, 4, 5, 6, 7, 8] rfl)
                        · skip
                          refine lv_goto (tgt := 128) hx hb dX10_best_101 (by decide) ?_
                          obtain ⟨x128, e128⟩ : ∃ y : Int32, y = h + (1) := ⟨_, rfl⟩
                          refine lv_iinc (v := x128) (lv' := [(8, .int x128), (7, .int u), (6, .int z), (5, .int i), (4, .int g), (3, .int b), (0, .ref (a 0)), (1, .int q), (2, .int w)]) hx hb dX10_best_128 hl (k := 0) rfl (by rw [e128]; rfl) (by decide) rfl (fun ls hl => ?_)
                          refine lv_goto (tgt := 82) hx hb dX10_best_131 (by decide) ?_
                          exact ih82 x128 z u _ _ _ (by rw [i32_i e128 (by have := i32_hi (Y 0 3); omega)]; omega) (fun hf => by exfalso; have hg := hf.t; omega) (by rw [i32_i e128 (by have := i32_hi (Y 0 3); omega)]; omega) X (lv_sub hl [0, 1, 2, 3, 4, 5, 6, 7, 8] rfl)
                  exact L82 _ 0 0 1 _ _ _ (by decide) (fun _ => ⟨rfl, rfl⟩) (Nat.lt_succ_self _) X (lv_sub hl [0, 1, 2, 3, 4, 5, 6, 7, 8] rfl)
                · skip
                  refine lv_goto (tgt := 200) hx hb dX10_best_70 (by decide) ?_
                  obtain ⟨x200, e200⟩ : ∃ y : Int32, y = i + (1) := ⟨_, rfl⟩
                  refine lv_iinc (v := x200) (lv' := [(5, .int x200), (4, .int g), (3, .int b), (0, .ref (a 0)), (1, .int q), (2, .int w)]) hx hb dX10_best_200 hl (k := 0) rfl (by rw [e200]; rfl) (by decide) rfl (fun ls hl => ?_)
                  refine lv_goto (tgt := 50) hx hb dX10_best_203 (by decide) ?_
                  exact ih50 x200 b g Y _ _ _ (by rw [i32_i e200 (by have := i32_hi x57; omega)]; omega) (by first | exact ((hA.tr (sAg.mono p151 (by decide))).tr (sAg.mono p157.1 (by decide))).tr (sAg.mono p171 (by decide)) | exact hA) (fun hf => by
                      have h2 := hv hf
                      have hg := hf.t
                      have t200 := i32_i e200 (by have := i32_hi x57; omega)
                      rw [hf.1] at t57
                      have t58 : x57.toInt = 1 := t57
                      have h63 := p63 (i32_0 (by omega))
                      rw [h63, Int32.toInt_zero] at c67
                      first | (exfalso; omega) | skip
                      all_goals (
                        obtain ⟨hz0, hu1⟩ := hz hf
                        try rw [hz0, Int32.toInt_zero] at c142
                        first | (exfalso; omega) | skip
                      )
                      all_goals (
                        have hA5 : sAg [5, 13, 14] V V151 := hA.tr (sAg.mono p151 (by decide))
                        have h10 := p157.2.2.2 (hf.quiet.ag hA5 (by decide)) (by rw [hA5 15 (by decide)]; exact hf.2.2.1)
                        have h11 := p163.2 (by rw [p157.1 0 (by decide), hA5 0 (by decide)]; exact hg.1)
                        first | (exfalso; rw [h11] at c176; exact c176 rfl) | skip
                      )
                      all_goals (
                        rw [h10] at *
                        first | (exfalso; omega) | exact Or.inr ⟨by omega, by omega, rfl⟩)) (by rw [i32_i e200 (by have := i32_hi x57; omega)]; omega) X (lv_sub hl [0, 1, 2, 3, 4, 5] rfl)
          exact L50 _ 0 (-9) (-9) V _ _ _ (by decide) (sAg.rf) (fun _ => Or.inl ⟨rfl, by decide⟩) (Nat.lt_succ_self _) X (lv_sub hl [0, 1, 2, 3, 4, 5] rfl)
        · skip
          refine lv_aload_n hx hb dX10_best_33 rfl (lv_at hl 0 rfl) ?_
          refine lv_bipush (v := (-6)) hx hb dX10_best_34 (by decide) ?_
          refine scI (ci := 9) (As := [.int (-6)]) (rest := []) G X (k_m_no ha V (-6) (by decide) (by decide)) iy_X10_no ml_X10_68 rfl rfl rfl rfl hl.1 (by decide) (by decide) (Nat.le_of_ble_eq_true rfl) dX10_best_36 (fun y36 V36 H locs p36 X => ?_)
          exact srI G X (rfl) dX10_best_39 (by exact ⟨(mK.ag hm ((sAg.mono p36.1 (by decide)) : sAg [1, 5, 7, 8, 11, 12, 13, 14, 15] V _) (by decide)), (fun hf => by have hg := hf.t; rw [p36.2]; unfold fBest; (repeat' split) <;> first | rfl | (exfalso; omega))⟩)
      · skip
        refine lv_aload_n hx hb dX10_best_20 rfl (lv_at hl 0 rfl) ?_
        refine lv_bipush (v := (-4)) hx hb dX10_best_21 (by decide) ?_
        refine scI (ci := 9) (As := [.int (-4)]) (rest := []) G X (k_m_no ha V (-4) (by decide) (by decide)) iy_X10_no ml_X10_68 rfl rfl rfl rfl hl.1 (by decide) (by decide) (Nat.le_of_ble_eq_true rfl) dX10_best_23 (fun y23 V23 H locs p23 X => ?_)
        exact srI G X (rfl) dX10_best_26 (by exact ⟨(mK.ag hm ((sAg.mono p23.1 (by decide)) : sAg [1, 5, 7, 8, 11, 12, 13, 14, 15] V _) (by decide)), (fun hf => by have hg := hf.t; rw [p23.2]; unfold fBest; (repeat' split) <;> first | rfl | (exfalso; omega))⟩)
    · skip
      refine lv_aload_n hx hb dX10_best_9 rfl (lv_at hl 0 rfl) ?_
      refine lv_bipush (v := (-2)) hx hb dX10_best_10 (by decide) ?_
      refine scI (ci := 9) (As := [.int (-2)]) (rest := []) G X (k_m_no ha V (-2) (by decide) (by decide)) iy_X10_no ml_X10_68 rfl rfl rfl rfl hl.1 (by decide) (by decide) (Nat.le_of_ble_eq_true rfl) dX10_best_12 (fun y12 V12 H locs p12 X => ?_)
      exact srI G X (rfl) dX10_best_15 (by exact ⟨(mK.ag hm ((sAg.mono p12.1 (by decide)) : sAg [1, 5, 7, 8, 11, 12, 13, 14, 15] V _) (by decide)), (fun hf => by have hg := hf.t; rw [p12.2]; unfold fBest; (repeat' split) <;> first | rfl | (exfalso; omega))⟩)
def q_m_pairs (V : sV) (w : Int32) : Int32 → sV → Prop := fun x V1 => mK V V1 ∧ (mFr V → x = fPairs w)
set_option maxRecDepth 100000 in
set_option maxHeartbeats 4000000 in
theorem k_m_pairs {l : Launch} {D : va_G} {cI : ClassId} {a : Nat → Nat} (ha : sInj SM a) (V : sV) (w : Int32) (hm : mI V) : sMI l D cI SM a V yX10_pairs cX10_pairs 7 .int 6 [.ref (a 0), .int w] (q_m_pairs V w) := by
  refine sMIof ha (by decide +kernel) (Nat.le_of_ble_eq_true rfl) ?_
  intro p e s m below meth c ls G X hl
  obtain ⟨hx, hb, hml, hown, hts, hlocks, hr, hK⟩ := id G
  have hl : lv_has ls 7 [(0, .ref (a 0)), (1, .int w)] := hl
  obtain ⟨mf0, mf1, mf3, mf11, mf14, mf15⟩ := hm.1
  refine lv_iload_n hx hb dX10_pairs_0 rfl (lv_at hl 1 rfl) ?_
  refine sZlt (tgt := 9) hx hb (rfl : Int32.toInt w = _) dX10_pairs_1 (by decide) (fun c1 => ?_) (fun c1 => ?_)
  · skip
    refine lv_aload_n hx hb dX10_pairs_9 rfl (lv_at hl 0 rfl) ?_
    refine lv_bipush (v := (-2)) hx hb dX10_pairs_10 (by decide) ?_
    refine scI (ci := 9) (As := [.int (-2)]) (rest := []) G X (k_m_no ha V (-2) (by decide) (by decide)) iy_X10_no ml_X10_68 rfl rfl rfl rfl hl.1 (by decide) (by decide) (Nat.le_of_ble_eq_true rfl) dX10_pairs_12 (fun y12 V12 H locs p12 X => ?_)
    exact srI G X (rfl) dX10_pairs_15 (by exact ⟨(mK.ag hm ((sAg.mono p12.1 (by decide)) : sAg [1, 5, 7, 8, 11, 12, 13, 14, 15] V _) (by decide)), (fun hf => by have hg := hf.t; rw [p12.2]; unfold fPairs; (repeat' split) <;> first | rfl | (exfalso; omega))⟩)
  · skip
    refine lv_iload_n hx hb dX10_pairs_4 rfl (lv_at hl 1 rfl) ?_
    refine lv_iconst (v := 1) hx hb dX10_pairs_5 (by decide) ?_
    refine sIle (tgt := 16) hx hb (rfl : Int32.toInt w = _) (by decide : (1 : Int32).toInt = 1) dX10_pairs_6 (by decide) (fun c6 => ?_) (fun c6 => ?_)
    · skip
      refine lv_aload_n hx hb dX10_pairs_16 rfl (lv_at hl 0 rfl) ?_
      refine scI (ci := 9) (As := []) (rest := []) G X (k_m_coal ha V (by assumption)) iy_X10_coal ml_X10_163 rfl rfl rfl rfl hl.1 (by decide) (by decide) (Nat.le_of_ble_eq_true rfl) dX10_pairs_17 (fun y17 V17 H locs p17 X => ?_)
      refine lv_istore_n (lv' := [(2, .int y17), (0, .ref (a 0)), (1, .int w)]) hx hb dX10_pairs_20 rfl hl (by decide) rfl (fun ls hl => ?_)
      refine lv_iconst (v := 0) hx hb dX10_pairs_21 (by decide) ?_
      refine lv_istore_n (lv' := [(3, .int 0), (2, .int y17), (0, .ref (a 0)), (1, .int w)]) hx hb dX10_pairs_22 rfl hl (by decide) rfl (fun ls hl => ?_)
      refine lv_bipush (v := (-9)) hx hb dX10_pairs_23 (by decide) ?_
      refine lv_istore (lv' := [(4, .int (-9)), (3, .int 0), (2, .int y17), (0, .ref (a 0)), (1, .int w)]) hx hb dX10_pairs_25 hl (by decide) rfl (fun ls hl => ?_)
      refine lv_iconst (v := 0) hx hb dX10_pairs_27 (by decide) ?_
      refine lv_istore (lv' := [(5, .int 0), (4, .int (-9)), (3, .int 0), (2, .int y17), (0, .ref (a 0)), (1, .int w)]) hx hb dX10_pairs_28 hl (by decide) rfl (fun ls hl => ?_)
      have L30 : ∀ (fu30 : Nat) (i : Int32) (u : Int32) (v : Int32) (Y : sV) (H : Heap) (locs : List Loc) (ls : Array Slot), (0 ≤ i.toInt) → (sAg [5, 12, 13, 14] V Y) → (mFr V → u = 0 ∧ v = -9) → (((V 0 3).toInt - i.toInt).toNat) < fu30 → sWS D cI SM a Y s.heap H locs → lv_has ls 7 [(5, .int i), (4, .int v), (3, .int u), (2, .int y17), (0, .ref (a 0)), (1, .int w)] → W p l e (rmD 6) s m ([.ref (a 0), .int w] : List Value).toArray below meth c H locs 0 0 (MQ below (va_Qi (q_m_pairs V w) (fun V1 t => va_P D vwCl (sWd cI SM a V1) t.heap) (sA SM a s.heap.size)) ([.ref (a 0), .int w] : List Value).toArray s 0 0 (sA SM a s.heap.size)) (F0 m 30 ls []) := by
        intro fu30
        induction fu30 with
        | zero => intro i u v Y H locs ls hi hA hv hm30; exact absurd hm30 (Nat.not_lt_zero _)
        | succ fu30 ih30 =>
          intro i u v Y H locs ls hi hA hv hm30 X hl
          have hmY : mI Y := hm.ag (sAg.mono (hA) (by decide) : sAg [5, 12, 13, 14] V _) (by decide)
          have hY3 : (Y 0 3).toInt = (V 0 3).toInt := by rw [hA 0 (by decide)]
          refine lv_iload hx hb dX10_pairs_30 (lv_at hl 0 rfl) ?_
          refine lv_aload_n hx hb dX10_pairs_32 rfl (lv_at hl 4 rfl) ?_
          refine sgI G X 0 3 rfl rfl fl_X10_65 dX10_pairs_33 ?_
          refine sIge (tgt := 149) hx hb (rfl : Int32.toInt i = _) (rfl : Int32.toInt (Y 0 3) = _) dX10_pairs_36 (by decide) (fun c36 => ?_) (fun c36 => ?_)
          · skip
            rw [hA 0 (by decide)] at c36
            refine lv_iload_n hx hb dX10_pairs_149 rfl (lv_at hl 5 rfl) ?_
            refine sZne (tgt := 157) hx hb (rfl : Int32.toInt w = _) dX10_pairs_150 (by decide) (fun c150 => ?_) (fun c150 => ?_)
            · skip
              refine lv_iload hx hb dX10_pairs_157 (lv_at hl 1 rfl) ?_
              exact srI G X (rfl) dX10_pairs_159 (by exact ⟨(mK.ag hm ((sAg.mono hA (by decide)) : sAg [1, 5, 7, 8, 11, 12, 13, 14, 15] V _) (by decide)), fun hf => by obtain ⟨h1, h2⟩ := hv hf; subst h1 h2; unfold fPairs; (repeat' split) <;> first | rfl | (exfalso; omega)⟩)
            · skip
              refine lv_iload_n hx hb dX10_pairs_153 rfl (lv_at hl 2 rfl) ?_
              refine lv_goto (tgt := 159) hx hb dX10_pairs_154 (by decide) ?_
              exact srI G X (rfl) dX10_pairs_159 (by exact ⟨(mK.ag hm ((sAg.mono hA (by decide)) : sAg [1, 5, 7, 8, 11, 12, 13, 14, 15] V _) (by decide)), fun hf => by obtain ⟨h1, h2⟩ := hv hf; subst h1 h2; unfold fPairs; (repeat' split) <;> first | rfl | (exfalso; omega)⟩)
          · skip
            rw [hA 0 (by decide)] at c36
            refine lv_aload_n hx hb dX10_pairs_39 rfl (lv_at hl 4 rfl) ?_
            refine lv_iload hx hb dX10_pairs_40 (lv_at hl 0 rfl) ?_
            refine scI (ci := 9) (As := [.int i]) (rest := []) G X (k_m_isDoor ha Y i (by first | assumption | omega) (by first | assumption | omega)) iy_X10_isDoor ml_X10_129 rfl rfl rfl rfl hl.1 (by decide) (by decide) (Nat.le_of_ble_eq_true rfl) dX10_pairs_42 (fun y42 V42 H locs p42 X => ?_)
            obtain ⟨p42, z42⟩ := p42
            subst V42
            refine sZne (tgt := 143) hx hb (rfl : Int32.toInt y42 = _) dX10_pairs_45 (by decide) (fun c45 => ?_) (fun c45 => ?_)
            · skip
              obtain ⟨x143, e143⟩ : ∃ y : Int32, y = i + (1) := ⟨_, rfl⟩
              refine lv_iinc (v := x143) (lv' := [(5, .int x143), (4, .int v), (3, .int u), (2, .int y17), (0, .ref (a 0)), (1, .int w)]) hx hb dX10_pairs_143 hl (k := 0) rfl (by rw [e143]; rfl) (by decide) rfl (fun ls hl => ?_)
              refine lv_goto (tgt := 30) hx hb dX10_pairs_146 (by decide) ?_
              exact ih30 x143 u v Y _ _ _ (by rw [i32_i e143 (by have := i32_hi (V 0 3); omega)]; omega) (by first | exact hB | exact hA.tr p53.1 | exact hA) (fun hf => by exfalso; have hg := hf.t; omega) (by rw [i32_i e143 (by have := i32_hi (V 0 3); omega)]; omega) X (lv_sub hl [0, 1, 2, 3, 4, 5] rfl)
            · skip
              refine lv_aload_n hx hb dX10_pairs_48 rfl (lv_at hl 4 rfl) ?_
              refine lv_iconst (v := 1) hx hb dX10_pairs_49 (by decide) ?_
              refine lv_iload hx hb dX10_pairs_50 (lv_at hl 0 rfl) ?_
              refine lv_ishl hx hb dX10_pairs_52 ?_
              refine lv_topi (fun x52 e52 => ?_)
              refine scI (ci := 9) (As := [.int x52]) (rest := []) G X (k_m_stopped ha Y x52 (by assumption)) iy_X10_stopped ml_X10_175 rfl rfl rfl rfl hl.1 (by decide) (by decide) (Nat.le_of_ble_eq_true rfl) dX10_pairs_53 (fun y53 V53 H locs p53 X => ?_)
              have hmV53 : mI V53 := hm.ag (sAg.mono (hA.tr p53.1) (by decide) : sAg [5, 12, 13, 14] V _) (by decide)
              refine lv_iload_n hx hb dX10_pairs_56 rfl (lv_at hl 3 rfl) ?_
              refine sIge (tgt := 63) hx hb (rfl : Int32.toInt y53 = _) (rfl : Int32.toInt y17 = _) dX10_pairs_57 (by decide) (fun c57 => ?_) (fun c57 => ?_)
              · skip
                refine lv_iload hx hb dX10_pairs_63 (lv_at hl 0 rfl) ?_
                refine lv_iconst (v := 1) hx hb dX10_pairs_65 (by decide) ?_
                refine lv_iadd hx hb dX10_pairs_66 ?_
                refine lv_topi (fun x66 e66 => ?_)
                refine lv_istore (lv' := [(6, .int x66), (5, .int i), (4, .int v), (3, .int u), (2, .int y17), (0, .ref (a 0)), (1, .int w)]) hx hb dX10_pairs_67 hl (by decide) rfl (fun ls hl => ?_)
                have L69 : ∀ (fu69 : Nat) (j : Int32) (u2 : Int32) (v2 : Int32) (Z : sV) (H : Heap) (locs : List Loc) (ls : Array Slot), (0 ≤ j.toInt) → (sAg [5, 12, 13, 14] V Z) → (((V 0 3).toInt - j.toInt).toNat) < fu69 → sWS D cI SM a Z s.heap H locs → lv_has ls 7 [(6, .int j), (5, .int i), (4, .int v2), (3, .int u2), (2, .int y17), (0, .ref (a 0)), (1, .int w)] → W p l e (rmD 6) s m ([.ref (a 0), .int w] : List Value).toArray below meth c H locs 0 0 (MQ below (va_Qi (q_m_pairs V w) (fun V1 t => va_P D vwCl (sWd cI SM a V1) t.heap) (sA SM a s.heap.size)) ([.ref (a 0), .int w] : List Value).toArray s 0 0 (sA SM a s.heap.size)) (F0 m 69 ls []) := by
                  intro fu69
                  induction fu69 with
                  | zero => intro j u2 v2 Z H locs ls hj hB hm69; exact absurd hm69 (Nat.not_lt_zero _)
                  | succ fu69 ih69 =>
                    intro j u2 v2 Z H locs ls hj hB hm69 X hl
                    have hmZ : mI Z := hm.ag (sAg.mono (hB) (by decide) : sAg [5, 12, 13, 14] V _) (by decide)
                    have hZ3 : (Z 0 3).toInt = (V 0 3).toInt := by rw [hB 0 (by decide)]
                    refine lv_iload hx hb dX10_pairs_69 (lv_at hl 0 rfl) ?_
                    refine lv_aload_n hx hb dX10_pairs_71 rfl (lv_at hl 5 rfl) ?_
                    refine sgI G X 0 3 rfl rfl fl_X10_65 dX10_pairs_72 ?_
                    refine sIge (tgt := 143) hx hb (rfl : Int32.toInt j = _) (rfl : Int32.toInt (Z 0 3) = _) dX10_pairs_75 (by decide) (fun c75 => ?_) (fun c75 => ?_)
                    · skip
                      rw [hB 0 (by decide)] at c75
                      obtain ⟨x143, e143⟩ : ∃ y : Int32, y = i + (1) := ⟨_, rfl⟩
                      refine lv_iinc (v := x143) (lv' := [(5, .int x143), (6, .int j), (4, .int v2), (3, .int u2), (2, .int y17), (0, .ref (a 0)), (1, .int w)]) hx hb dX10_pairs_143 hl (k := 1) rfl (by rw [e143]; rfl) (by decide) rfl (fun ls hl => ?_)
                      refine lv_goto (tgt := 30) hx hb dX10_pairs_146 (by decide) ?_
                      exact ih30 x143 u2 v2 Z _ _ _ (by rw [i32_i e143 (by have := i32_hi (V 0 3); omega)]; omega) (by first | exact hB | exact hA.tr p53.1 | exact hA) (fun hf => by exfalso; have hg := hf.t; omega) (by rw [i32_i e143 (by have := i32_hi (V 0 3); omega)]; omega) X (lv_sub hl [0, 2, 3, 4, 5, 6] rfl)
                    · skip
                      rw [hB 0 (by decide)] at c75
                      refine lv_aload_n hx hb dX10_pairs_78 rfl (lv_at hl 5 rfl) ?_
                      refine lv_iload hx hb dX10_pairs_79 (lv_at hl 0 rfl) ?_
                      refine scI (ci := 9) (As := [.int j]) (rest := []) G X (k_m_isDoor ha Z j (by first | assumption | omega) (by first | assumption | omega)) iy_X10_isDoor ml_X10_129 rfl rfl rfl rfl hl.1 (by decide) (by decide) (Nat.le_of_ble_eq_true rfl) dX10_pairs_81 (fun y81 V81 H locs p81 X => ?_)
                      obtain ⟨p81, z81⟩ := p81
                      subst V81
                      refine sZne (tgt := 137) hx hb (rfl : Int32.toInt y81 = _) dX10_pairs_84 (by decide) (fun c84 => ?_) (fun c84 => ?_)
                      · skip
                        obtain ⟨x137, e137⟩ : ∃ y : Int32, y = j + (1) := ⟨_, rfl⟩
                        refine lv_iinc (v := x137) (lv' := [(6, .int x137), (5, .int i), (4, .int v2), (3, .int u2), (2, .int y17), (0, .ref (a 0)), (1, .int w)]) hx hb dX10_pairs_137 hl (k := 0) rfl (by rw [e137]; rfl) (by decide) rfl (fun ls hl => ?_)
                        refine lv_goto (tgt := 69) hx hb dX10_pairs_140 (by decide) ?_
                        exact ih69 x137 u2 v2 Z _ _ _ (by rw [i32_i e137 (by have := i32_hi (V 0 3); omega)]; omega) (by first | exact (hB.tr p92.1).tr p109.1 | exact hB.tr p92.1 | exact hB) (by rw [i32_i e137 (by have := i32_hi (V 0 3); omega)]; omega) X (lv_sub hl [0, 1, 2, 3, 4, 5, 6] rfl)
                      · skip
                        refine lv_aload_n hx hb dX10_pairs_87 rfl (lv_at hl 5 rfl) ?_
                        refine lv_iconst (v := 1) hx hb dX10_pairs_88 (by decide) ?_
                        refine lv_iload hx hb dX10_pairs_89 (lv_at hl 0 rfl) ?_
                        refine lv_ishl hx hb dX10_pairs_91 ?_
                        refine lv_topi (fun x91 e91 => ?_)
                        refine scI (ci := 9) (As := [.int x91]) (rest := []) G X (k_m_stopped ha Z x91 (by assumption)) iy_X10_stopped ml_X10_175 rfl rfl rfl rfl hl.1 (by decide) (by decide) (Nat.le_of_ble_eq_true rfl) dX10_pairs_92 (fun y92 V92 H locs p92 X => ?_)
                        have hmV92 : mI V92 := hm.ag (sAg.mono (hB.tr p92.1) (by decide) : sAg [5, 12, 13, 14] V _) (by decide)
                        refine lv_iload_n hx hb dX10_pairs_95 rfl (lv_at hl 4 rfl) ?_
                        refine sIlt (tgt := 137) hx hb (rfl : Int32.toInt y92 = _) (rfl : Int32.toInt y17 = _) dX10_pairs_96 (by decide) (fun c96 => ?_) (fun c96 => ?_)
                        · skip
                          obtain ⟨x137, e137⟩ : ∃ y : Int32, y = j + (1) := ⟨_, rfl⟩
                          refine lv_iinc (v := x137) (lv' := [(6, .int x137), (5, .int i), (4, .int v2), (3, .int u2), (2, .int y17), (0, .ref (a 0)), (1, .int w)]) hx hb dX10_pairs_137 hl (k := 0) rfl (by rw [e137]; rfl) (by decide) rfl (fun ls hl => ?_)
                          refine lv_goto (tgt := 69) hx hb dX10_pairs_140 (by decide) ?_
                          exact ih69 x137 u2 v2 V92 _ _ _ (by rw [i32_i e137 (by have := i32_hi (V 0 3); omega)]; omega) (by first | exact (hB.tr p92.1).tr p109.1 | exact hB.tr p92.1 | exact hB) (by rw [i32_i e137 (by have := i32_hi (V 0 3); omega)]; omega) X (lv_sub hl [0, 1, 2, 3, 4, 5, 6] rfl)
                        · skip
                          refine lv_aload_n hx hb dX10_pairs_99 rfl (lv_at hl 5 rfl) ?_
                          refine lv_iconst (v := 1) hx hb dX10_pairs_100 (by decide) ?_
                          refine lv_iload hx hb dX10_pairs_101 (lv_at hl 1 rfl) ?_
                          refine lv_ishl hx hb dX10_pairs_103 ?_
                          refine lv_topi (fun x103 e103 => ?_)
                          refine lv_iconst (v := 1) hx hb dX10_pairs_104 (by decide) ?_
                          refine lv_iload hx hb dX10_pairs_105 (lv_at hl 0 rfl) ?_
                          refine lv_ishl hx hb dX10_pairs_107 ?_
                          refine lv_topi (fun x107 e107 => ?_)
                          refine lv_ior hx hb dX10_pairs_108 ?_
                          refine lv_topi (fun x108 e108 => ?_)
                          refine scI (ci := 9) (As := [.int x108]) (rest := []) G X (k_m_stopped ha V92 x108 (by assumption)) iy_X10_stopped ml_X10_175 rfl rfl rfl rfl hl.1 (by decide) (by decide) (Nat.le_of_ble_eq_true rfl) dX10_pairs_109 (fun y109 V109 H locs p109 X => ?_)
                          have hmV109 : mI V109 := hm.ag (sAg.mono ((hB.tr p92.1).tr p109.1) (by decide) : sAg [5, 12, 13, 14] V _) (by decide)
                          refine lv_iload_n hx hb dX10_pairs_112 rfl (lv_at hl 4 rfl) ?_
                          refine sIlt (tgt := 119) hx hb (rfl : Int32.toInt y109 = _) (rfl : Int32.toInt y17 = _) dX10_pairs_113 (by decide) (fun c113 => ?_) (fun c113 => ?_)
                          · skip
                            obtain ⟨x119, e119⟩ : ∃ y : Int32, y = u2 + (1) := ⟨_, rfl⟩
                            refine lv_iinc (v := x119) (lv' := [(3, .int x119), (6, .int j), (5, .int i), (4, .int v2), (2, .int y17), (0, .ref (a 0)), (1, .int w)]) hx hb dX10_pairs_119 hl (k := 3) rfl (by rw [e119]; rfl) (by decide) rfl (fun ls hl => ?_)
                            refine lv_iload hx hb dX10_pairs_122 (lv_at hl 3 rfl) ?_
                            refine sZge (tgt := 137) hx hb (rfl : Int32.toInt v2 = _) dX10_pairs_124 (by decide) (fun c124 => ?_) (fun c124 => ?_)
                            · skip
                              obtain ⟨x137, e137⟩ : ∃ y : Int32, y = j + (1) := ⟨_, rfl⟩
                              refine lv_iinc (v := x137) (lv' := [(6, .int x137), (3, .int x119), (5, .int i), (4, .int v2), (2, .int y17), (0, .ref (a 0)), (1, .int w)]) hx hb dX10_pairs_137 hl (k := 1) rfl (by rw [e137]; rfl) (by decide) rfl (fun ls hl => ?_)
                              refine lv_goto (tgt := 69) hx hb dX10_pairs_140 (by decide) ?_
                              exact ih69 x137 x119 v2 V109 _ _ _ (by rw [i32_i e137 (by have := i32_hi (V 0 3); omega)]; omega) (by first | exact (hB.tr p92.1).tr p109.1 | exact hB.tr p92.1 | exact hB) (by rw [i32_i e137 (by have := i32_hi (V 0 3); omega)]; omega) X (lv_sub hl [0, 2, 3, 1, 4, 5, 6] rfl)
                            · skip
                              refine lv_bipush (v := 10) hx hb dX10_pairs_127 (by decide) ?_
                              refine lv_iload hx hb dX10_pairs_129 (lv_at hl 2 rfl) ?_
                              refine lv_imul hx hb dX10_pairs_131 ?_
                              refine lv_topi (fun x131 e131 => ?_)
                              refine lv_iload hx hb dX10_pairs_132 (lv_at hl 1 rfl) ?_
                              refine lv_iadd hx hb dX10_pairs_134 ?_
                              refine lv_topi (fun x134 e134 => ?_)
                              refine lv_istore (lv' := [(4, .int x134), (3, .int x119), (6, .int j), (5, .int i), (2, .int y17), (0, .ref (a 0)), (1, .int w)]) hx hb dX10_pairs_135 hl (by decide) rfl (fun ls hl => ?_)
                              obtain ⟨x137, e137⟩ : ∃ y : Int32, y = j + (1) := ⟨_, rfl⟩
                              refine lv_iinc (v := x137) (lv' := [(6, .int x137), (4, .int x134), (3, .int x119), (5, .int i), (2, .int y17), (0, .ref (a 0)), (1, .int w)]) hx hb dX10_pairs_137 hl (k := 2) rfl (by rw [e137]; rfl) (by decide) rfl (fun ls hl => ?_)
                              refine lv_goto (tgt := 69) hx hb dX10_pairs_140 (by decide) ?_
                              exact ih69 x137 x119 x134 V109 _ _ _ (by rw [i32_i e137 (by have := i32_hi (V 0 3); omega)]; omega) (by first | exact (hB.tr p92.1).tr p109.1 | exact hB.tr p92.1 | exact hB) (by rw [i32_i e137 (by have := i32_hi (V 0 3); omega)]; omega) X (lv_sub hl [0, 3, 1, 2, 4, 5, 6] rfl)
                          · skip
                            refine lv_goto (tgt := 137) hx hb dX10_pairs_116 (by decide) ?_
                            obtain ⟨x137, e137⟩ : ∃ y : Int32, y = j + (1) := ⟨_, rfl⟩
                            refine lv_iinc (v := x137) (lv' := [(6, .int x137), (5, .int i), (4, .int v2), (3, .int u2), (2, .int y17), (0, .ref (a 0)), (1, .int w)]) hx hb dX10_pairs_137 hl (k := 0) rfl (by rw [e137]; rfl) (by decide) rfl (fun ls hl => ?_)
                            refine lv_goto (tgt := 69) hx hb dX10_pairs_140 (by decide) ?_
                            exact ih69 x137 u2 v2 V109 _ _ _ (by rw [i32_i e137 (by have := i32_hi (V 0 3); omega)]; omega) (by first | exact (hB.tr p92.1).tr p109.1 | exact hB.tr p92.1 | exact hB) (by rw [i32_i e137 (by have := i32_hi (V 0 3); omega)]; omega) X (lv_sub hl [0, 1, 2, 3, 4, 5, 6] rfl)
                exact L69 _ x66 u v V53 _ _ _ (by have := i32_i e66 (by have := i32_hi (V 0 3); omega); omega) (hA.tr p53.1) (Nat.lt_succ_self _) X (lv_sub hl [0, 1, 2, 3, 4, 5, 6] rfl)
              · skip
                refine lv_goto (tgt := 143) hx hb dX10_pairs_60 (by decide) ?_
                obtain ⟨x143, e143⟩ : ∃ y : Int32, y = i + (1) := ⟨_, rfl⟩
                refine lv_iinc (v := x143) (lv' := [(5, .int x143), (4, .int v), (3, .int u), (2, .int y17), (0, .ref (a 0)), (1, .int w)]) hx hb dX10_pairs_143 hl (k := 0) rfl (by rw [e143]; rfl) (by decide) rfl (fun ls hl => ?_)
                refine lv_goto (tgt := 30) hx hb dX10_pairs_146 (by decide) ?_
                exact ih30 x143 u v V53 _ _ _ (by rw [i32_i e143 (by have := i32_hi (V 0 3); omega)]; omega) (by first | exact hB | exact hA.tr p53.1 | exact hA) (fun hf => by exfalso; have hg := hf.t; omega) (by rw [i32_i e143 (by have := i32_hi (V 0 3); omega)]; omega) X (lv_sub hl [0, 1, 2, 3, 4, 5] rfl)
      exact L30 _ 0 0 (-9) V17 _ _ _ (by decide) (sAg.mono p17.1 (by decide)) (fun _ => ⟨rfl, rfl⟩) (Nat.lt_succ_self _) X (lv_sub hl [0, 1, 2, 3, 4, 5] rfl)
    · skip
      refine lv_aload_n hx hb dX10_pairs_9 rfl (lv_at hl 0 rfl) ?_
      refine lv_bipush (v := (-2)) hx hb dX10_pairs_10 (by decide) ?_
      refine scI (ci := 9) (As := [.int (-2)]) (rest := []) G X (k_m_no ha V (-2) (by decide) (by decide)) iy_X10_no ml_X10_68 rfl rfl rfl rfl hl.1 (by decide) (by decide) (Nat.le_of_ble_eq_true rfl) dX10_pairs_12 (fun y12 V12 H locs p12 X => ?_)
      exact srI G X (rfl) dX10_pairs_15 (by exact ⟨(mK.ag hm ((sAg.mono p12.1 (by decide)) : sAg [1, 5, 7, 8, 11, 12, 13, 14, 15] V _) (by decide)), (fun hf => by have hg := hf.t; rw [p12.2]; unfold fPairs; (repeat' split) <;> first | rfl | (exfalso; omega))⟩)
def q_m_shut (V : sV) (i q : Int32) : Int32 → sV → Prop := fun x V1 => mK V V1 ∧ (mFr V → x = 1000000001)
set_option maxRecDepth 100000 in
set_option maxHeartbeats 4000000 in
theorem k_m_shut {l : Launch} {D : va_G} {cI : ClassId} {a : Nat → Nat} (ha : sInj SM a) (V : sV) (i q : Int32) (hm : mI V) : sMI l D cI SM a V yX10_shut cX10_shut 7 .int 4 [.ref (a 0), .int i, .int q] (q_m_shut V i q) := by
  refine sMIof ha (by decide +kernel) (Nat.le_of_ble_eq_true rfl) ?_
  intro p e s m below meth c ls G X hl
  obtain ⟨hx, hb, hml, hown, hts, hlocks, hr, hK⟩ := id G
  have hl : lv_has ls 7 [(0, .ref (a 0)), (1, .int i), (2, .int q)] := hl
  obtain ⟨mf0, mf1, mf3, mf11, mf14, mf15⟩ := hm.1
  refine lv_aload_n hx hb dX10_shut_0 rfl (lv_at hl 0 rfl) ?_
  refine lv_iload_n hx hb dX10_shut_1 rfl (lv_at hl 1 rfl) ?_
  refine scI (ci := 9) (As := [.int i]) (rest := []) G X (k_m_isHole ha V i) iy_X10_isHole ml_X10_122 rfl rfl rfl rfl hl.1 (by decide) (by decide) (Nat.le_of_ble_eq_true rfl) dX10_shut_2 (fun y2 V2 H locs p2 X => ?_)
  obtain ⟨p2, z2⟩ := p2
  subst V2
  refine sZeq (tgt := 16) hx hb (rfl : Int32.toInt y2 = _) dX10_shut_5 (by decide) (fun c5 => ?_) (fun c5 => ?_)
  · skip
    refine lv_ldc hx hb hown (hts _ kc_X10_128) dX10_shut_16 ?_
    refine lv_aload_n hx hb dX10_shut_18 rfl (lv_at hl 0 rfl) ?_
    refine lv_iconst (v := (-1)) hx hb dX10_shut_19 (by decide) ?_
    refine scI (ci := 9) (As := [.int (-1)]) (rest := [.int 1000000000]) G X (k_m_no ha V (-1) (by decide) (by decide)) iy_X10_no ml_X10_68 rfl rfl rfl rfl hl.1 (by decide) (by decide) (Nat.le_of_ble_eq_true rfl) dX10_shut_20 (fun y20 V20 H locs p20 X => ?_)
    refine lv_isub hx hb dX10_shut_23 ?_
    refine lv_topi (fun x23 e23 => ?_)
    exact srI G X (rfl) dX10_shut_24 (by exact ⟨(mK.ag hm ((sAg.mono p20.1 (by decide)) : sAg [1, 5, 7, 8, 11, 12, 13, 14, 15] V _) (by decide)), fun _ => by rw [e23, p20.2]; rfl⟩)
  · skip
    refine lv_aload_n hx hb dX10_shut_8 rfl (lv_at hl 0 rfl) ?_
    refine lv_iload_n hx hb dX10_shut_9 rfl (lv_at hl 2 rfl) ?_
    refine scI (ci := 9) (As := [.int q]) (rest := []) G X (k_m_isHole ha V q) iy_X10_isHole ml_X10_122 rfl rfl rfl rfl hl.1 (by decide) (by decide) (Nat.le_of_ble_eq_true rfl) dX10_shut_10 (fun y10 V10 H locs p10 X => ?_)
    obtain ⟨p10, z10⟩ := p10
    subst V10
    refine sZne (tgt := 25) hx hb (rfl : Int32.toInt y10 = _) dX10_shut_13 (by decide) (fun c13 => ?_) (fun c13 => ?_)
    · skip
      refine lv_aload_n hx hb dX10_shut_25 rfl (lv_at hl 0 rfl) ?_
      refine lv_iload_n hx hb dX10_shut_26 rfl (lv_at hl 1 rfl) ?_
      refine scI (ci := 9) (As := [.int i]) (rest := []) G X (k_m_isDoor ha V i (by first | assumption | omega) (by first | assumption | omega)) iy_X10_isDoor ml_X10_129 rfl rfl rfl rfl hl.1 (by decide) (by decide) (Nat.le_of_ble_eq_true rfl) dX10_shut_27 (fun y27 V27 H locs p27 X => ?_)
      obtain ⟨p27, z27⟩ := p27
      subst V27
      refine sZne (tgt := 43) hx hb (rfl : Int32.toInt y27 = _) dX10_shut_30 (by decide) (fun c30 => ?_) (fun c30 => ?_)
      · skip
        refine lv_aload_n hx hb dX10_shut_43 rfl (lv_at hl 0 rfl) ?_
        refine scV (ci := 9) (As := []) (rest := []) G X (k_m_settle ha V (by assumption)) iy_X10_settle ml_X10_144 rfl rfl rfl rfl hl.1 (by decide) (by decide) (Nat.le_of_ble_eq_true rfl) dX10_shut_44 (fun V44 H locs p44 X => ?_)
        obtain ⟨hA44, hP44, hO44, -⟩ := id p44
        have hmV44 : mI V44 := hm.ag ((sAg.mono p44.1 (by decide)) : sAg [5, 12, 13, 14] V _) (by decide)
        have hv44 : (V44 0 3).toInt = (V 0 3).toInt := by rw [hA44 0 (by decide)]
        refine lv_aload_n hx hb dX10_shut_47 rfl (lv_at hl 0 rfl) ?_
        refine lv_iload_n hx hb dX10_shut_48 rfl (lv_at hl 2 rfl) ?_
        refine scI (ci := 9) (As := [.int q]) (rest := []) G X (k_m_flows ha V44 q (by assumption) (by assumption) (by assumption) (by first | assumption | omega) (by first | assumption | omega)) iy_X10_flows ml_X10_141 rfl rfl rfl rfl hl.1 (by decide) (by decide) (Nat.le_of_ble_eq_true rfl) dX10_shut_49 (fun y49 V49 H locs p49 X => ?_)
        obtain ⟨p49, z49⟩ := p49
        subst V49
        refine sAbs hx hb hml hl.1 hown hts mm_X10_132 (by decide) (Nat.le_of_ble_eq_true rfl) dX10_shut_52 (fun x52 e52 => ?_)
        refine lv_istore_n (lv' := [(3, .int x52), (0, .ref (a 0)), (1, .int i), (2, .int q)]) hx hb dX10_shut_55 rfl hl (by decide) rfl (fun ls hl => ?_)
        refine lv_aload_n hx hb dX10_shut_56 rfl (lv_at hl 1 rfl) ?_
        refine lv_iconst (v := 1) hx hb dX10_shut_57 (by decide) ?_
        refine lv_iload_n hx hb dX10_shut_58 rfl (lv_at hl 2 rfl) ?_
        refine lv_ishl hx hb dX10_shut_59 ?_
        refine lv_topi (fun x59 e59 => ?_)
        refine scL (ci := 9) (As := [.int x59]) (rest := []) G X (k_m_stop ha V44 x59 (by assumption)) iy_X10_stop ml_X10_159 rfl rfl rfl rfl hl.1 (by decide) (by decide) (Nat.le_of_ble_eq_true rfl) dX10_shut_60 (fun y60 V60 H locs p60 X => ?_)
        have hmV60 : mI V60 := hm.ag (((sAg.mono p44.1 (by decide)).tr (sAg.mono p60 (by decide))) : sAg [5, 12, 13, 14] V _) (by decide)
        refine lv_lstore (lv' := [(4, .long y60), (3, .int x52), (0, .ref (a 0)), (1, .int i), (2, .int q)]) hx hb dX10_shut_63 hl (by decide) rfl (fun ls hl => ?_)
        refine lv_aload_n hx hb dX10_shut_65 rfl (lv_at hl 2 rfl) ?_
        refine scV (ci := 9) (As := []) (rest := []) G X (k_m_settle ha V60 (by assumption)) iy_X10_settle ml_X10_144 rfl rfl rfl rfl hl.1 (by decide) (by decide) (Nat.le_of_ble_eq_true rfl) dX10_shut_66 (fun V66 H locs p66 X => ?_)
        obtain ⟨hA66, hP66, hO66, -⟩ := id p66
        have hmV66 : mI V66 := hm.ag ((((sAg.mono p44.1 (by decide)).tr (sAg.mono p60 (by decide))).tr (sAg.mono p66.1 (by decide))) : sAg [5, 12, 13, 14] V _) (by decide)
        have hA60 : sAg [5] V44 V60 := p60
        have hv66 : (V66 0 3).toInt = (V 0 3).toInt := by rw [hA66 0 (by decide), hA60 0 (by decide), hA44 0 (by decide)]
        refine lv_aload_n hx hb dX10_shut_69 rfl (lv_at hl 2 rfl) ?_
        refine lv_iload_n hx hb dX10_shut_70 rfl (lv_at hl 4 rfl) ?_
        refine scI (ci := 9) (As := [.int q]) (rest := []) G X (k_m_flows ha V66 q (by assumption) (by assumption) (by assumption) (by first | assumption | omega) (by first | assumption | omega)) iy_X10_flows ml_X10_141 rfl rfl rfl rfl hl.1 (by decide) (by decide) (Nat.le_of_ble_eq_true rfl) dX10_shut_71 (fun y71 V71 H locs p71 X => ?_)
        obtain ⟨p71, z71⟩ := p71
        subst V71
        refine sAbs hx hb hml hl.1 hown hts mm_X10_132 (by decide) (Nat.le_of_ble_eq_true rfl) dX10_shut_74 (fun x74 e74 => ?_)
        refine lv_istore (lv' := [(6, .int x74), (4, .long y60), (3, .int x52), (0, .ref (a 0)), (1, .int i), (2, .int q)]) hx hb dX10_shut_77 hl (by decide) rfl (fun ls hl => ?_)
        refine lv_aload_n hx hb dX10_shut_79 rfl (lv_at hl 3 rfl) ?_
        refine lv_lload hx hb dX10_shut_80 (lv_at hl 1 rfl) ?_
        refine scV (ci := 9) (As := [.long y60]) (rest := []) G X (k_m_open ha V66 y60 (by assumption)) iy_X10_open ml_X10_166 rfl rfl rfl rfl hl.1 (by decide) (by decide) (Nat.le_of_ble_eq_true rfl) dX10_shut_82 (fun V82 H locs p82 X => ?_)
        refine lv_iload hx hb dX10_shut_85 (lv_at hl 0 rfl) ?_
        refine lv_iload_n hx hb dX10_shut_87 rfl (lv_at hl 2 rfl) ?_
        refine lv_isub hx hb dX10_shut_88 ?_
        refine lv_topi (fun x88 e88 => ?_)
        exact srI G X (rfl) dX10_shut_89 (by exact ⟨(mK.ag hm (((((sAg.mono p44.1 (by decide)).tr (sAg.mono p60 (by decide))).tr (sAg.mono p66.1 (by decide))).tr (sAg.mono p82 (by decide))) : sAg [1, 5, 7, 8, 11, 12, 13, 14, 15] V _) (by decide)), (fun hf => by exfalso; have hg := hf.t; omega)⟩)
      · skip
        refine lv_ldc hx hb hown (hts _ kc_X10_128) dX10_shut_33 ?_
        refine lv_aload_n hx hb dX10_shut_35 rfl (lv_at hl 0 rfl) ?_
        refine lv_bipush (v := (-3)) hx hb dX10_shut_36 (by decide) ?_
        refine scI (ci := 9) (As := [.int (-3)]) (rest := [.int 1000000000]) G X (k_m_no ha V (-3) (by decide) (by decide)) iy_X10_no ml_X10_68 rfl rfl rfl rfl hl.1 (by decide) (by decide) (Nat.le_of_ble_eq_true rfl) dX10_shut_38 (fun y38 V38 H locs p38 X => ?_)
        refine lv_isub hx hb dX10_shut_41 ?_
        refine lv_topi (fun x41 e41 => ?_)
        exact srI G X (rfl) dX10_shut_42 (by exact ⟨(mK.ag hm ((sAg.mono p38.1 (by decide)) : sAg [1, 5, 7, 8, 11, 12, 13, 14, 15] V _) (by decide)), (fun hf => by exfalso; have hg := hf.t; omega)⟩)
    · skip
      refine lv_ldc hx hb hown (hts _ kc_X10_128) dX10_shut_16 ?_
      refine lv_aload_n hx hb dX10_shut_18 rfl (lv_at hl 0 rfl) ?_
      refine lv_iconst (v := (-1)) hx hb dX10_shut_19 (by decide) ?_
      refine scI (ci := 9) (As := [.int (-1)]) (rest := [.int 1000000000]) G X (k_m_no ha V (-1) (by decide) (by decide)) iy_X10_no ml_X10_68 rfl rfl rfl rfl hl.1 (by decide) (by decide) (Nat.le_of_ble_eq_true rfl) dX10_shut_20 (fun y20 V20 H locs p20 X => ?_)
      refine lv_isub hx hb dX10_shut_23 ?_
      refine lv_topi (fun x23 e23 => ?_)
      exact srI G X (rfl) dX10_shut_24 (by exact ⟨(mK.ag hm ((sAg.mono p20.1 (by decide)) : sAg [1, 5, 7, 8, 11, 12, 13, 14, 15] V _) (by decide)), fun _ => by rw [e23, p20.2]; rfl⟩)
def q_m_chair (V : sV)  : Int32 → sV → Prop := fun x V1 => mK V V1 ∧ (mFr V → x = 0)
set_option maxRecDepth 100000 in
set_option maxHeartbeats 4000000 in
theorem k_m_chair {l : Launch} {D : va_G} {cI : ClassId} {a : Nat → Nat} (ha : sInj SM a) (V : sV)  (hm : mI V) : sMI l D cI SM a V yX10_chair cX10_chair 6 .int 3 [.ref (a 0)] (q_m_chair V ) := by
  refine sMIof ha (by decide +kernel) (Nat.le_of_ble_eq_true rfl) ?_
  intro p e s m below meth c ls G X hl
  obtain ⟨hx, hb, hml, hown, hts, hlocks, hr, hK⟩ := id G
  have hl : lv_has ls 6 [(0, .ref (a 0))] := hl
  obtain ⟨mf0, mf1, mf3, mf11, mf14, mf15⟩ := hm.1
  refine lv_aload_n hx hb dX10_chair_0 rfl (lv_at hl 0 rfl) ?_
  refine scV (ci := 9) (As := []) (rest := []) G X (k_m_settle ha V (by assumption)) iy_X10_settle ml_X10_144 rfl rfl rfl rfl hl.1 (by decide) (by decide) (Nat.le_of_ble_eq_true rfl) dX10_chair_1 (fun V1 H locs p1 X => ?_)
  obtain ⟨hA, hP, hO, hC⟩ := p1
  have hmS : mI V1 := hm.ag hA (by decide)
  have hV3 : (V1 0 3).toInt = (V 0 3).toInt := by rw [hA 0 (by decide)]
  have hV0 : (V1 0 0).toInt = (V 0 0).toInt := by rw [hA 0 (by decide)]
  refine lv_iconst (v := 0) hx hb dX10_chair_4 (by decide) ?_
  refine lv_istore_n (lv' := [(1, .int 0), (0, .ref (a 0))]) hx hb dX10_chair_5 rfl hl (by decide) rfl (fun ls hl => ?_)
  refine lv_iconst (v := (-1)) hx hb dX10_chair_6 (by decide) ?_
  refine lv_istore_n (lv' := [(2, .int (-1)), (1, .int 0), (0, .ref (a 0))]) hx hb dX10_chair_7 rfl hl (by decide) rfl (fun ls hl => ?_)
  refine lv_iconst (v := 0) hx hb dX10_chair_8 (by decide) ?_
  refine lv_istore_n (lv' := [(3, .int 0), (2, .int (-1)), (1, .int 0), (0, .ref (a 0))]) hx hb dX10_chair_9 rfl hl (by decide) rfl (fun ls hl => ?_)
  have L10 : ∀ (fu10 : Nat) (i : Int32) (b : Int32) (g : Int32) (H : Heap) (locs : List Loc) (ls : Array Slot), (0 ≤ i.toInt) → (mFr V → b.toInt = 0 ∧ ((i.toInt = 0 ∧ g.toInt = -1) ∨ g.toInt = 0)) → (((V1 0 0).toInt - i.toInt).toNat) < fu10 → sWS D cI SM a V1 s.heap H locs → lv_has ls 6 [(3, .int i), (2, .int g), (1, .int b), (0, .ref (a 0))] → W p l e (rmD 3) s m ([.ref (a 0)] : List Value).toArray below meth c H locs 0 0 (MQ below (va_Qi (q_m_chair V ) (fun V1 t => va_P D vwCl (sWd cI SM a V1) t.heap) (sA SM a s.heap.size)) ([.ref (a 0)] : List Value).toArray s 0 0 (sA SM a s.heap.size)) (F0 m 10 ls []) := by
    intro fu10
    induction fu10 with
    | zero => intro i b g H locs ls hi hv hm10; exact absurd hm10 (Nat.not_lt_zero _)
    | succ fu10 ih10 =>
      intro i b g H locs ls hi hv hm10 X hl
      refine lv_iload_n hx hb dX10_chair_10 rfl (lv_at hl 0 rfl) ?_
      refine lv_aload_n hx hb dX10_chair_11 rfl (lv_at hl 3 rfl) ?_
      refine sgI G X 0 0 rfl rfl fl_X10_61 dX10_chair_12 ?_
      refine sIge (tgt := 99) hx hb (rfl : Int32.toInt i = _) (rfl : Int32.toInt (V1 0 0) = _) dX10_chair_15 (by decide) (fun c15 => ?_) (fun c15 => ?_)
      · skip
        refine lv_iload_n hx hb dX10_chair_99 rfl (lv_at hl 2 rfl) ?_
        exact srI G X (rfl) dX10_chair_100 (by exact ⟨(mK.ag hm ((sAg.mono hA (by decide)) : sAg [1, 5, 7, 8, 11, 12, 13, 14, 15] V _) (by decide)), fun hf => i32_0 (hv hf).1⟩)
      · skip
        refine lv_iconst (v := 0) hx hb dX10_chair_18 (by decide) ?_
        refine lv_istore (lv' := [(4, .int 0), (3, .int i), (2, .int g), (1, .int b), (0, .ref (a 0))]) hx hb dX10_chair_19 hl (by decide) rfl (fun ls hl => ?_)
        refine lv_iconst (v := 0) hx hb dX10_chair_21 (by decide) ?_
        refine lv_istore (lv' := [(5, .int 0), (4, .int 0), (3, .int i), (2, .int g), (1, .int b), (0, .ref (a 0))]) hx hb dX10_chair_22 hl (by decide) rfl (fun ls hl => ?_)
        have L24 : ∀ (fu24 : Nat) (h : Int32) (z : Int32) (H : Heap) (locs : List Loc) (ls : Array Slot), (0 ≤ h.toInt) → (mFr V → z = 0) → (((V1 0 3).toInt - h.toInt).toNat) < fu24 → sWS D cI SM a V1 s.heap H locs → lv_has ls 6 [(5, .int h), (4, .int z), (3, .int i), (2, .int g), (1, .int b), (0, .ref (a 0))] → W p l e (rmD 3) s m ([.ref (a 0)] : List Value).toArray below meth c H locs 0 0 (MQ below (va_Qi (q_m_chair V ) (fun V1 t => va_P D vwCl (sWd cI SM a V1) t.heap) (sA SM a s.heap.size)) ([.ref (a 0)] : List Value).toArray s 0 0 (sA SM a s.heap.size)) (F0 m 24 ls []) := by
          intro fu24
          induction fu24 with
          | zero => intro h z H locs ls hh1 hz hm24; exact absurd hm24 (Nat.not_lt_zero _)
          | succ fu24 ih24 =>
            intro h z H locs ls hh1 hz hm24 X hl
            refine lv_iload hx hb dX10_chair_24 (lv_at hl 0 rfl) ?_
            refine lv_aload_n hx hb dX10_chair_26 rfl (lv_at hl 5 rfl) ?_
            refine sgI G X 0 3 rfl rfl fl_X10_65 dX10_chair_27 ?_
            refine sIge (tgt := 75) hx hb (rfl : Int32.toInt h = _) (rfl : Int32.toInt (V1 0 3) = _) dX10_chair_30 (by decide) (fun c30 => ?_) (fun c30 => ?_)
            · skip
              refine lv_iload_n hx hb dX10_chair_75 rfl (lv_at hl 3 rfl) ?_
              refine sZlt (tgt := 88) hx hb (rfl : Int32.toInt g = _) dX10_chair_76 (by decide) (fun c76 => ?_) (fun c76 => ?_)
              · skip
                refine lv_iload hx hb dX10_chair_88 (lv_at hl 1 rfl) ?_
                refine lv_istore_n (lv' := [(2, .int z), (5, .int h), (4, .int z), (3, .int i), (1, .int b), (0, .ref (a 0))]) hx hb dX10_chair_90 rfl hl (by decide) rfl (fun ls hl => ?_)
                refine lv_iload_n hx hb dX10_chair_91 rfl (lv_at hl 3 rfl) ?_
                refine lv_istore_n (lv' := [(1, .int i), (2, .int z), (5, .int h), (4, .int z), (3, .int i), (0, .ref (a 0))]) hx hb dX10_chair_92 rfl hl (by decide) rfl (fun ls hl => ?_)
                obtain ⟨x93, e93⟩ : ∃ y : Int32, y = i + (1) := ⟨_, rfl⟩
                refine lv_iinc (v := x93) (lv' := [(3, .int x93), (1, .int i), (2, .int z), (5, .int h), (4, .int z), (0, .ref (a 0))]) hx hb dX10_chair_93 hl (k := 4) rfl (by rw [e93]; rfl) (by decide) rfl (fun ls hl => ?_)
                refine lv_goto (tgt := 10) hx hb dX10_chair_96 (by decide) ?_
                exact ih10 x93 i z _ _ _ (by rw [i32_i e93 (by have := i32_hi (V1 0 0); omega)]; omega) (fun hf => by have h2 := hv hf; have h3 : z.toInt = 0 := (by rw [hz hf]; rfl); omega) (by rw [i32_i e93 (by have := i32_hi (V1 0 0); omega)]; omega) X (lv_sub hl [0, 2, 1, 5] rfl)
              · skip
                refine lv_iload hx hb dX10_chair_79 (lv_at hl 1 rfl) ?_
                refine lv_iload_n hx hb dX10_chair_81 rfl (lv_at hl 3 rfl) ?_
                refine sIlt (tgt := 88) hx hb (rfl : Int32.toInt z = _) (rfl : Int32.toInt g = _) dX10_chair_82 (by decide) (fun c82 => ?_) (fun c82 => ?_)
                · skip
                  refine lv_iload hx hb dX10_chair_88 (lv_at hl 1 rfl) ?_
                  refine lv_istore_n (lv' := [(2, .int z), (5, .int h), (4, .int z), (3, .int i), (1, .int b), (0, .ref (a 0))]) hx hb dX10_chair_90 rfl hl (by decide) rfl (fun ls hl => ?_)
                  refine lv_iload_n hx hb dX10_chair_91 rfl (lv_at hl 3 rfl) ?_
                  refine lv_istore_n (lv' := [(1, .int i), (2, .int z), (5, .int h), (4, .int z), (3, .int i), (0, .ref (a 0))]) hx hb dX10_chair_92 rfl hl (by decide) rfl (fun ls hl => ?_)
                  obtain ⟨x93, e93⟩ : ∃ y : Int32, y = i + (1) := ⟨_, rfl⟩
                  refine lv_iinc (v := x93) (lv' := [(3, .int x93), (1, .int i), (2, .int z), (5, .int h), (4, .int z), (0, .ref (a 0))]) hx hb dX10_chair_93 hl (k := 4) rfl (by rw [e93]; rfl) (by decide) rfl (fun ls hl => ?_)
                  refine lv_goto (tgt := 10) hx hb dX10_chair_96 (by decide) ?_
                  exact ih10 x93 i z _ _ _ (by rw [i32_i e93 (by have := i32_hi (V1 0 0); omega)]; omega) (fun hf => by have h2 := hv hf; have h3 : z.toInt = 0 := (by rw [hz hf]; rfl); omega) (by rw [i32_i e93 (by have := i32_hi (V1 0 0); omega)]; omega) X (lv_sub hl [0, 2, 1, 5] rfl)
                · skip
                  refine lv_goto (tgt := 93) hx hb dX10_chair_85 (by decide) ?_
                  obtain ⟨x93, e93⟩ : ∃ y : Int32, y = i + (1) := ⟨_, rfl⟩
                  refine lv_iinc (v := x93) (lv' := [(3, .int x93), (5, .int h), (4, .int z), (2, .int g), (1, .int b), (0, .ref (a 0))]) hx hb dX10_chair_93 hl (k := 2) rfl (by rw [e93]; rfl) (by decide) rfl (fun ls hl => ?_)
                  refine lv_goto (tgt := 10) hx hb dX10_chair_96 (by decide) ?_
                  exact ih10 x93 b g _ _ _ (by rw [i32_i e93 (by have := i32_hi (V1 0 0); omega)]; omega) (fun hf => by have h2 := hv hf; have h3 : z.toInt = 0 := (by rw [hz hf]; rfl); omega) (by rw [i32_i e93 (by have := i32_hi (V1 0 0); omega)]; omega) X (lv_sub hl [0, 3, 4, 5] rfl)
            · skip
              refine lv_aload_n hx hb dX10_chair_33 rfl (lv_at hl 5 rfl) ?_
              refine sgR G X 0 4 rfl rfl fl_X10_13 dX10_chair_34 ?_
              refine lv_iload hx hb dX10_chair_37 (lv_at hl 0 rfl) ?_
              refine sld G X 2 rfl (i32_in (by omega) (by omega)) dX10_chair_39 ?_
              refine lv_topi (fun x39 e39 => ?_)
              refine lv_iload_n hx hb dX10_chair_40 rfl (lv_at hl 2 rfl) ?_
              refine sIeq (tgt := 55) hx hb (rfl : Int32.toInt x39 = _) (rfl : Int32.toInt i = _) dX10_chair_41 (by decide) (fun c41 => ?_) (fun c41 => ?_)
              · skip
                refine lv_iload hx hb dX10_chair_55 (lv_at hl 1 rfl) ?_
                refine lv_aload_n hx hb dX10_chair_57 rfl (lv_at hl 5 rfl) ?_
                refine lv_iload hx hb dX10_chair_58 (lv_at hl 0 rfl) ?_
                refine scI (ci := 9) (As := [.int h]) (rest := [.int z]) G X (k_m_flows ha V1 h (by assumption) (by assumption) (by assumption) (by first | assumption | omega) (by first | assumption | omega)) iy_X10_flows ml_X10_141 rfl rfl rfl rfl hl.1 (by decide) (by decide) (Nat.le_of_ble_eq_true rfl) dX10_chair_60 (fun y60 V60 H locs p60 X => ?_)
                obtain ⟨p60, z60⟩ := p60
                subst V60
                refine sAbs hx hb hml hl.1 hown hts mm_X10_132 (by decide) (Nat.le_of_ble_eq_true rfl) dX10_chair_63 (fun x63 e63 => ?_)
                refine lv_iadd hx hb dX10_chair_66 ?_
                refine lv_topi (fun x66 e66 => ?_)
                refine lv_istore (lv' := [(4, .int x66), (5, .int h), (3, .int i), (2, .int g), (1, .int b), (0, .ref (a 0))]) hx hb dX10_chair_67 hl (by decide) rfl (fun ls hl => ?_)
                obtain ⟨x69, e69⟩ : ∃ y : Int32, y = h + (1) := ⟨_, rfl⟩
                refine lv_iinc (v := x69) (lv' := [(5, .int x69), (4, .int x66), (3, .int i), (2, .int g), (1, .int b), (0, .ref (a 0))]) hx hb dX10_chair_69 hl (k := 1) rfl (by rw [e69]; rfl) (by decide) rfl (fun ls hl => ?_)
                refine lv_goto (tgt := 24) hx hb dX10_chair_72 (by decide) ?_
                exact ih24 x69 x66 _ _ _ (by rw [i32_i e69 (by have := i32_hi (V1 0 3); omega)]; omega) (fun hf => by exfalso; have hg := hf.t; omega) (by rw [i32_i e69 (by have := i32_hi (V1 0 3); omega)]; omega) X (lv_sub hl [0, 1, 2, 3, 4, 5] rfl)
              · skip
                refine lv_aload_n hx hb dX10_chair_44 rfl (lv_at hl 5 rfl) ?_
                refine sgR G X 0 5 rfl rfl fl_X10_16 dX10_chair_45 ?_
                refine lv_iload hx hb dX10_chair_48 (lv_at hl 0 rfl) ?_
                refine sld G X 3 rfl (i32_in (by omega) (by omega)) dX10_chair_50 ?_
                refine lv_topi (fun x50 e50 => ?_)
                refine lv_iload_n hx hb dX10_chair_51 rfl (lv_at hl 2 rfl) ?_
                refine sIne (tgt := 69) hx hb (rfl : Int32.toInt x50 = _) (rfl : Int32.toInt i = _) dX10_chair_52 (by decide) (fun c52 => ?_) (fun c52 => ?_)
                · skip
                  obtain ⟨x69, e69⟩ : ∃ y : Int32, y = h + (1) := ⟨_, rfl⟩
                  refine lv_iinc (v := x69) (lv' := [(5, .int x69), (4, .int z), (3, .int i), (2, .int g), (1, .int b), (0, .ref (a 0))]) hx hb dX10_chair_69 hl (k := 0) rfl (by rw [e69]; rfl) (by decide) rfl (fun ls hl => ?_)
                  refine lv_goto (tgt := 24) hx hb dX10_chair_72 (by decide) ?_
                  exact ih24 x69 z _ _ _ (by rw [i32_i e69 (by have := i32_hi (V1 0 3); omega)]; omega) (fun hf => by exfalso; have hg := hf.t; omega) (by rw [i32_i e69 (by have := i32_hi (V1 0 3); omega)]; omega) X (lv_sub hl [0, 1, 2, 3, 4, 5] rfl)
                · skip
                  refine lv_iload hx hb dX10_chair_55 (lv_at hl 1 rfl) ?_
                  refine lv_aload_n hx hb dX10_chair_57 rfl (lv_at hl 5 rfl) ?_
                  refine lv_iload hx hb dX10_chair_58 (lv_at hl 0 rfl) ?_
                  refine scI (ci := 9) (As := [.int h]) (rest := [.int z]) G X (k_m_flows ha V1 h (by assumption) (by assumption) (by assumption) (by first | assumption | omega) (by first | assumption | omega)) iy_X10_flows ml_X10_141 rfl rfl rfl rfl hl.1 (by decide) (by decide) (Nat.le_of_ble_eq_true rfl) dX10_chair_60 (fun y60 V60 H locs p60 X => ?_)
                  obtain ⟨p60, z60⟩ := p60
                  subst V60
                  refine sAbs hx hb hml hl.1 hown hts mm_X10_132 (by decide) (Nat.le_of_ble_eq_true rfl) dX10_chair_63 (fun x63 e63 => ?_)
                  refine lv_iadd hx hb dX10_chair_66 ?_
                  refine lv_topi (fun x66 e66 => ?_)
                  refine lv_istore (lv' := [(4, .int x66), (5, .int h), (3, .int i), (2, .int g), (1, .int b), (0, .ref (a 0))]) hx hb dX10_chair_67 hl (by decide) rfl (fun ls hl => ?_)
                  obtain ⟨x69, e69⟩ : ∃ y : Int32, y = h + (1) := ⟨_, rfl⟩
                  refine lv_iinc (v := x69) (lv' := [(5, .int x69), (4, .int x66), (3, .int i), (2, .int g), (1, .int b), (0, .ref (a 0))]) hx hb dX10_chair_69 hl (k := 1) rfl (by rw [e69]; rfl) (by decide) rfl (fun ls hl => ?_)
                  refine lv_goto (tgt := 24) hx hb dX10_chair_72 (by decide) ?_
                  exact ih24 x69 x66 _ _ _ (by rw [i32_i e69 (by have := i32_hi (V1 0 3); omega)]; omega) (fun hf => by exfalso; have hg := hf.t; omega) (by rw [i32_i e69 (by have := i32_hi (V1 0 3); omega)]; omega) X (lv_sub hl [0, 1, 2, 3, 4, 5] rfl)
        exact L24 _ 0 0 _ _ _ (by decide) (fun _ => rfl) (Nat.lt_succ_self _) X (lv_sub hl [0, 1, 2, 3, 4, 5] rfl)
  exact L10 _ 0 0 (-1) _ _ _ (by decide) (fun _ => ⟨rfl, Or.inl ⟨rfl, by decide⟩⟩) (Nat.lt_succ_self _) X (lv_sub hl [0, 1, 2, 3] rfl)
def q_m_finger (V : sV)  : Int32 → sV → Prop := fun x V1 => mK V V1 ∧ (mFr V → x = -9)
set_option maxRecDepth 100000 in
set_option maxHeartbeats 4000000 in
theorem k_m_finger {l : Launch} {D : va_G} {cI : ClassId} {a : Nat → Nat} (ha : sInj SM a) (V : sV)  (hm : mI V) : sMI l D cI SM a V yX10_finger cX10_finger 7 .int 5 [.ref (a 0)] (q_m_finger V ) := by
  refine sMIof ha (by decide +kernel) (Nat.le_of_ble_eq_true rfl) ?_
  intro p e s m below meth c ls G X hl
  obtain ⟨hx, hb, hml, hown, hts, hlocks, hr, hK⟩ := id G
  have hl : lv_has ls 7 [(0, .ref (a 0))] := hl
  obtain ⟨mf0, mf1, mf3, mf11, mf14, mf15⟩ := hm.1
  refine lv_bipush (v := (-9)) hx hb dX10_finger_0 (by decide) ?_
  refine lv_istore_n (lv' := [(1, .int (-9)), (0, .ref (a 0))]) hx hb dX10_finger_2 rfl hl (by decide) rfl (fun ls hl => ?_)
  refine lv_iconst (v := 0) hx hb dX10_finger_3 (by decide) ?_
  refine lv_istore_n (lv' := [(2, .int 0), (1, .int (-9)), (0, .ref (a 0))]) hx hb dX10_finger_4 rfl hl (by decide) rfl (fun ls hl => ?_)
  refine lv_iconst (v := 0) hx hb dX10_finger_5 (by decide) ?_
  refine lv_istore_n (lv' := [(3, .int 0), (2, .int 0), (1, .int (-9)), (0, .ref (a 0))]) hx hb dX10_finger_6 rfl hl (by decide) rfl (fun ls hl => ?_)
  have L7 : ∀ (fu7 : Nat) (i : Int32) (b : Int32) (g : Int32) (Y : sV) (H : Heap) (locs : List Loc) (ls : Array Slot), (0 ≤ i.toInt) → (sAg [5, 13, 14] V Y) → (mFr V → b = -9) → (((V 0 3).toInt - i.toInt).toNat) < fu7 → sWS D cI SM a Y s.heap H locs → lv_has ls 7 [(3, .int i), (2, .int g), (1, .int b), (0, .ref (a 0))] → W p l e (rmD 5) s m ([.ref (a 0)] : List Value).toArray below meth c H locs 0 0 (MQ below (va_Qi (q_m_finger V ) (fun V1 t => va_P D vwCl (sWd cI SM a V1) t.heap) (sA SM a s.heap.size)) ([.ref (a 0)] : List Value).toArray s 0 0 (sA SM a s.heap.size)) (F0 m 7 ls []) := by
    intro fu7
    induction fu7 with
    | zero => intro i b g Y H locs ls hi hA hv hm7; exact absurd hm7 (Nat.not_lt_zero _)
    | succ fu7 ih7 =>
      intro i b g Y H locs ls hi hA hv hm7 X hl
      refine lv_iload_n hx hb dX10_finger_7 rfl (lv_at hl 0 rfl) ?_
      refine lv_aload_n hx hb dX10_finger_8 rfl (lv_at hl 3 rfl) ?_
      refine sgI G X 0 3 rfl rfl fl_X10_65 dX10_finger_9 ?_
      refine sIge (tgt := 113) hx hb (rfl : Int32.toInt i = _) (rfl : Int32.toInt (Y 0 3) = _) dX10_finger_12 (by decide) (fun c12 => ?_) (fun c12 => ?_)
      · skip
        rw [hA 0 (by decide)] at c12
        refine lv_iload_n hx hb dX10_finger_113 rfl (lv_at hl 2 rfl) ?_
        exact srI G X (rfl) dX10_finger_114 (by exact ⟨(mK.ag hm ((sAg.mono hA (by decide)) : sAg [1, 5, 7, 8, 11, 12, 13, 14, 15] V _) (by decide)), hv⟩)
      · skip
        rw [hA 0 (by decide)] at c12
        refine lv_aload_n hx hb dX10_finger_15 rfl (lv_at hl 3 rfl) ?_
        refine lv_iload_n hx hb dX10_finger_16 rfl (lv_at hl 0 rfl) ?_
        refine scI (ci := 9) (As := [.int i]) (rest := []) G X (k_m_isDoor ha Y i (by first | assumption | omega) (by first | assumption | omega)) iy_X10_isDoor ml_X10_129 rfl rfl rfl rfl hl.1 (by decide) (by decide) (Nat.le_of_ble_eq_true rfl) dX10_finger_17 (fun y17 V17 H locs p17 X => ?_)
        obtain ⟨p17, z17⟩ := p17
        subst V17
        refine sZne (tgt := 107) hx hb (rfl : Int32.toInt y17 = _) dX10_finger_20 (by decide) (fun c20 => ?_) (fun c20 => ?_)
        · skip
          obtain ⟨x107, e107⟩ : ∃ y : Int32, y = i + (1) := ⟨_, rfl⟩
          refine lv_iinc (v := x107) (lv' := [(3, .int x107), (2, .int g), (1, .int b), (0, .ref (a 0))]) hx hb dX10_finger_107 hl (k := 0) rfl (by rw [e107]; rfl) (by decide) rfl (fun ls hl => ?_)
          refine lv_goto (tgt := 7) hx hb dX10_finger_110 (by decide) ?_
          exact ih7 x107 b g Y _ _ _ (by rw [i32_i e107 (by have := i32_hi (V 0 3); omega)]; omega) (by first | exact hC | exact hA) (fun hf => by exfalso; have hg := hf.t; omega) (by rw [i32_i e107 (by have := i32_hi (V 0 3); omega)]; omega) X (lv_sub hl [0, 1, 2, 3] rfl)
        · skip
          refine lv_aload_n hx hb dX10_finger_23 rfl (lv_at hl 3 rfl) ?_
          refine sgR G X 0 7 rfl rfl fl_X10_22 dX10_finger_24 ?_
          refine lv_iload_n hx hb dX10_finger_27 rfl (lv_at hl 0 rfl) ?_
          refine sld G X 5 rfl (i32_in (by omega) (by omega)) dX10_finger_28 ?_
          refine lv_topi (fun x28 e28 => ?_)
          refine lv_bipush (v := 9) hx hb dX10_finger_29 (by decide) ?_
          refine sIne (tgt := 37) hx hb (rfl : Int32.toInt x28 = _) (by decide : (9 : Int32).toInt = 9) dX10_finger_31 (by decide) (fun c31 => ?_) (fun c31 => ?_)
          · skip
            refine lv_aload_n hx hb dX10_finger_37 rfl (lv_at hl 3 rfl) ?_
            refine sgR G X 0 7 rfl rfl fl_X10_22 dX10_finger_38 ?_
            refine lv_iload_n hx hb dX10_finger_41 rfl (lv_at hl 0 rfl) ?_
            refine sld G X 5 rfl (i32_in (by omega) (by omega)) dX10_finger_42 ?_
            refine lv_topi (fun x42 e42 => ?_)
            refine lv_istore (lv' := [(4, .int x42), (3, .int i), (2, .int g), (1, .int b), (0, .ref (a 0))]) hx hb dX10_finger_43 hl (by decide) rfl (fun ls hl => ?_)
            refine lv_aload_n hx hb dX10_finger_45 rfl (lv_at hl 4 rfl) ?_
            refine sgR G X 0 7 rfl rfl fl_X10_22 dX10_finger_46 ?_
            refine lv_iload_n hx hb dX10_finger_49 rfl (lv_at hl 1 rfl) ?_
            refine lv_iload hx hb dX10_finger_50 (lv_at hl 0 rfl) ?_
            refine lv_iconst (v := 1) hx hb dX10_finger_52 (by decide) ?_
            refine lv_iadd hx hb dX10_finger_53 ?_
            refine lv_topi (fun x53 e53 => ?_)
            refine sst G X 5 rfl (i32_in (by omega) (by omega)) dX10_finger_54 (fun H locs X => ?_)
            obtain ⟨B54, eB54⟩ : ∃ Yq : sV, Yq = (sUp Y 5 (upd (Y 5) i.toNatClampNeg x53)) := ⟨_, rfl⟩
            rw [← eB54] at X
            have hB : sAg [5, 13, 14] V B54 := by rw [eB54]; exact hA.up (by decide)
            have hmB54 : mI B54 := hm.ag (sAg.mono hB (by decide) : sAg [5, 12, 13, 14] V _) (by decide)
            refine lv_aload_n hx hb dX10_finger_55 rfl (lv_at hl 4 rfl) ?_
            refine scI (ci := 9) (As := []) (rest := []) G X (k_m_coal ha B54 (by assumption)) iy_X10_coal ml_X10_163 rfl rfl rfl rfl hl.1 (by decide) (by decide) (Nat.le_of_ble_eq_true rfl) dX10_finger_56 (fun y56 V56 H locs p56 X => ?_)
            have hmV56 : mI V56 := hm.ag ((sAg.mono hB (by decide) : sAg [5, 12, 13, 14] V B54).tr (sAg.mono p56.1 (by decide)) : sAg [5, 12, 13, 14] V _) (by decide)
            obtain ⟨hP56, hO56⟩ := And.intro p56.2.1 p56.2.2.1
            have hv56 : (V56 0 3).toInt = (V 0 3).toInt := by rw [p56.1 0 (by decide), hB 0 (by decide)]
            refine lv_istore (lv' := [(5, .int y56), (4, .int x42), (3, .int i), (2, .int g), (1, .int b), (0, .ref (a 0))]) hx hb dX10_finger_59 hl (by decide) rfl (fun ls hl => ?_)
            refine lv_aload_n hx hb dX10_finger_61 rfl (lv_at hl 5 rfl) ?_
            refine lv_iload_n hx hb dX10_finger_62 rfl (lv_at hl 2 rfl) ?_
            refine scI (ci := 9) (As := [.int i]) (rest := []) G X (k_m_flows ha V56 i (by assumption) (by assumption) (by assumption) (by first | assumption | omega) (by first | assumption | omega)) iy_X10_flows ml_X10_141 rfl rfl rfl rfl hl.1 (by decide) (by decide) (Nat.le_of_ble_eq_true rfl) dX10_finger_63 (fun y63 V63 H locs p63 X => ?_)
            obtain ⟨p63, z63⟩ := p63
            subst V63
            refine sZle (tgt := 73) hx hb (rfl : Int32.toInt y63 = _) dX10_finger_66 (by decide) (fun c66 => ?_) (fun c66 => ?_)
            · skip
              refine lv_iconst (v := 0) hx hb dX10_finger_73 (by decide) ?_
              refine lv_istore (lv' := [(6, .int 0), (5, .int y56), (4, .int x42), (3, .int i), (2, .int g), (1, .int b), (0, .ref (a 0))]) hx hb dX10_finger_74 hl (by decide) rfl (fun ls hl => ?_)
              refine lv_aload_n hx hb dX10_finger_76 rfl (lv_at hl 6 rfl) ?_
              refine sgR G X 0 7 rfl rfl fl_X10_22 dX10_finger_77 ?_
              refine lv_iload_n hx hb dX10_finger_80 rfl (lv_at hl 3 rfl) ?_
              refine lv_iload hx hb dX10_finger_81 (lv_at hl 2 rfl) ?_
              refine sst G X 5 rfl (i32_in (by omega) (by omega)) dX10_finger_83 (fun H locs X => ?_)
              obtain ⟨B83, eB83⟩ : ∃ Yq : sV, Yq = (sUp V56 5 (upd (V56 5) i.toNatClampNeg x42)) := ⟨_, rfl⟩
              rw [← eB83] at X
              have hC : sAg [5, 13, 14] V B83 := by rw [eB83]; exact (hB.tr (sAg.mono p56.1 (by decide))).up (by decide)
              refine lv_iload hx hb dX10_finger_84 (lv_at hl 0 rfl) ?_
              refine sZeq (tgt := 107) hx hb (by decide : (0 : Int32).toInt = 0) dX10_finger_86 (by decide) (fun c86 => ?_) (fun c86 => ?_)
              · skip
                obtain ⟨x107, e107⟩ : ∃ y : Int32, y = i + (1) := ⟨_, rfl⟩
                refine lv_iinc (v := x107) (lv' := [(3, .int x107), (6, .int 0), (5, .int y56), (4, .int x42), (2, .int g), (1, .int b), (0, .ref (a 0))]) hx hb dX10_finger_107 hl (k := 3) rfl (by rw [e107]; rfl) (by decide) rfl (fun ls hl => ?_)
                refine lv_goto (tgt := 7) hx hb dX10_finger_110 (by decide) ?_
                exact ih7 x107 b g B83 _ _ _ (by rw [i32_i e107 (by have := i32_hi (V 0 3); omega)]; omega) (by first | exact hC | exact hA) (fun hf => by exfalso; have hg := hf.t; omega) (by rw [i32_i e107 (by have := i32_hi (V 0 3); omega)]; omega) X (lv_sub hl [0, 4, 5, 6] rfl)
              · skip
                refine lv_iload_n hx hb dX10_finger_89 rfl (lv_at hl 5 rfl) ?_
                refine sZlt (tgt := 102) hx hb (rfl : Int32.toInt b = _) dX10_finger_90 (by decide) (fun c90 => ?_) (fun c90 => ?_)
                · skip
                  refine lv_iload_n hx hb dX10_finger_102 rfl (lv_at hl 3 rfl) ?_
                  refine lv_istore_n (lv' := [(1, .int i), (6, .int 0), (5, .int y56), (4, .int x42), (3, .int i), (2, .int g), (0, .ref (a 0))]) hx hb dX10_finger_103 rfl hl (by decide) rfl (fun ls hl => ?_)
                  refine lv_iload hx hb dX10_finger_104 (lv_at hl 2 rfl) ?_
                  refine lv_istore_n (lv' := [(2, .int y56), (1, .int i), (6, .int 0), (5, .int y56), (4, .int x42), (3, .int i), (0, .ref (a 0))]) hx hb dX10_finger_106 rfl hl (by decide) rfl (fun ls hl => ?_)
                  obtain ⟨x107, e107⟩ : ∃ y : Int32, y = i + (1) := ⟨_, rfl⟩
                  refine lv_iinc (v := x107) (lv' := [(3, .int x107), (2, .int y56), (1, .int i), (6, .int 0), (5, .int y56), (4, .int x42), (0, .ref (a 0))]) hx hb dX10_finger_107 hl (k := 5) rfl (by rw [e107]; rfl) (by decide) rfl (fun ls hl => ?_)
                  refine lv_goto (tgt := 7) hx hb dX10_finger_110 (by decide) ?_
                  exact ih7 x107 i y56 B83 _ _ _ (by rw [i32_i e107 (by have := i32_hi (V 0 3); omega)]; omega) (by first | exact hC | exact hA) (fun hf => by exfalso; have hg := hf.t; omega) (by rw [i32_i e107 (by have := i32_hi (V 0 3); omega)]; omega) X (lv_sub hl [0, 1, 2, 6] rfl)
                · skip
                  refine lv_iload hx hb dX10_finger_93 (lv_at hl 1 rfl) ?_
                  refine lv_iload_n hx hb dX10_finger_95 rfl (lv_at hl 4 rfl) ?_
                  refine sIlt (tgt := 102) hx hb (rfl : Int32.toInt y56 = _) (rfl : Int32.toInt g = _) dX10_finger_96 (by decide) (fun c96 => ?_) (fun c96 => ?_)
                  · skip
                    refine lv_iload_n hx hb dX10_finger_102 rfl (lv_at hl 3 rfl) ?_
                    refine lv_istore_n (lv' := [(1, .int i), (6, .int 0), (5, .int y56), (4, .int x42), (3, .int i), (2, .int g), (0, .ref (a 0))]) hx hb dX10_finger_103 rfl hl (by decide) rfl (fun ls hl => ?_)
                    refine lv_iload hx hb dX10_finger_104 (lv_at hl 2 rfl) ?_
                    refine lv_istore_n (lv' := [(2, .int y56), (1, .int i), (6, .int 0), (5, .int y56), (4, .int x42), (3, .int i), (0, .ref (a 0))]) hx hb dX10_finger_106 rfl hl (by decide) rfl (fun ls hl => ?_)
                    obtain ⟨x107, e107⟩ : ∃ y : Int32, y = i + (1) := ⟨_, rfl⟩
                    refine lv_iinc (v := x107) (lv' := [(3, .int x107), (2, .int y56), (1, .int i), (6, .int 0), (5, .int y56), (4, .int x42), (0, .ref (a 0))]) hx hb dX10_finger_107 hl (k := 5) rfl (by rw [e107]; rfl) (by decide) rfl (fun ls hl => ?_)
                    refine lv_goto (tgt := 7) hx hb dX10_finger_110 (by decide) ?_
                    exact ih7 x107 i y56 B83 _ _ _ (by rw [i32_i e107 (by have := i32_hi (V 0 3); omega)]; omega) (by first | exact hC | exact hA) (fun hf => by exfalso; have hg := hf.t; omega) (by rw [i32_i e107 (by have := i32_hi (V 0 3); omega)]; omega) X (lv_sub hl [0, 1, 2, 6] rfl)
                  · skip
                    refine lv_goto (tgt := 107) hx hb dX10_finger_99 (by decide) ?_
                    obtain ⟨x107, e107⟩ : ∃ y : Int32, y = i + (1) := ⟨_, rfl⟩
                    refine lv_iinc (v := x107) (lv' := [(3, .int x107), (6, .int 0), (5, .int y56), (4, .int x42), (2, .int g), (1, .int b), (0, .ref (a 0))]) hx hb dX10_finger_107 hl (k := 3) rfl (by rw [e107]; rfl) (by decide) rfl (fun ls hl => ?_)
                    refine lv_goto (tgt := 7) hx hb dX10_finger_110 (by decide) ?_
                    exact ih7 x107 b g B83 _ _ _ (by rw [i32_i e107 (by have := i32_hi (V 0 3); omega)]; omega) (by first | exact hC | exact hA) (fun hf => by exfalso; have hg := hf.t; omega) (by rw [i32_i e107 (by have := i32_hi (V 0 3); omega)]; omega) X (lv_sub hl [0, 4, 5, 6] rfl)
            · skip
              refine lv_iconst (v := 1) hx hb dX10_finger_69 (by decide) ?_
              refine lv_goto (tgt := 74) hx hb dX10_finger_70 (by decide) ?_
              refine lv_istore (lv' := [(6, .int 1), (5, .int y56), (4, .int x42), (3, .int i), (2, .int g), (1, .int b), (0, .ref (a 0))]) hx hb dX10_finger_74 hl (by decide) rfl (fun ls hl => ?_)
              refine lv_aload_n hx hb dX10_finger_76 rfl (lv_at hl 6 rfl) ?_
              refine sgR G X 0 7 rfl rfl fl_X10_22 dX10_finger_77 ?_
              refine lv_iload_n hx hb dX10_finger_80 rfl (lv_at hl 3 rfl) ?_
              refine lv_iload hx hb dX10_finger_81 (lv_at hl 2 rfl) ?_
              refine sst G X 5 rfl (i32_in (by omega) (by omega)) dX10_finger_83 (fun H locs X => ?_)
              obtain ⟨B83, eB83⟩ : ∃ Yq : sV, Yq = (sUp V56 5 (upd (V56 5) i.toNatClampNeg x42)) := ⟨_, rfl⟩
              rw [← eB83] at X
              have hC : sAg [5, 13, 14] V B83 := by rw [eB83]; exact (hB.tr (sAg.mono p56.1 (by decide))).up (by decide)
              refine lv_iload hx hb dX10_finger_84 (lv_at hl 0 rfl) ?_
              refine sZeq (tgt := 107) hx hb (by decide : (1 : Int32).toInt = 1) dX10_finger_86 (by decide) (fun c86 => ?_) (fun c86 => ?_)
              · skip
                obtain ⟨x107, e107⟩ : ∃ y : Int32, y = i + (1) := ⟨_, rfl⟩
                refine lv_iinc (v := x107) (lv' := [(3, .int x107), (6, .int 1), (5, .int y56), (4, .int x42), (2, .int g), (1, .int b), (0, .ref (a 0))]) hx hb dX10_finger_107 hl (k := 3) rfl (by rw [e107]; rfl) (by decide) rfl (fun ls hl => ?_)
                refine lv_goto (tgt := 7) hx hb dX10_finger_110 (by decide) ?_
                exact ih7 x107 b g B83 _ _ _ (by rw [i32_i e107 (by have := i32_hi (V 0 3); omega)]; omega) (by first | exact hC | exact hA) (fun hf => by exfalso; have hg := hf.t; omega) (by rw [i32_i e107 (by have := i32_hi (V 0 3); omega)]; omega) X (lv_sub hl [0, 4, 5, 6] rfl)
              · skip
                refine lv_iload_n hx hb dX10_finger_89 rfl (lv_at hl 5 rfl) ?_
                refine sZlt (tgt := 102) hx hb (rfl : Int32.toInt b = _) dX10_finger_90 (by decide) (fun c90 => ?_) (fun c90 => ?_)
                · skip
                  refine lv_iload_n hx hb dX10_finger_102 rfl (lv_at hl 3 rfl) ?_
                  refine lv_istore_n (lv' := [(1, .int i), (6, .int 1), (5, .int y56), (4, .int x42), (3, .int i), (2, .int g), (0, .ref (a 0))]) hx hb dX10_finger_103 rfl hl (by decide) rfl (fun ls hl => ?_)
                  refine lv_iload hx hb dX10_finger_104 (lv_at hl 2 rfl) ?_
                  refine lv_istore_n (lv' := [(2, .int y56), (1, .int i), (6, .int 1), (5, .int y56), (4, .int x42), (3, .int i), (0, .ref (a 0))]) hx hb dX10_finger_106 rfl hl (by decide) rfl (fun ls hl => ?_)
                  obtain ⟨x107, e107⟩ : ∃ y : Int32, y = i + (1) := ⟨_, rfl⟩
                  refine lv_iinc (v := x107) (lv' := [(3, .int x107), (2, .int y56), (1, .int i), (6, .int 1), (5, .int y56), (4, .int x42), (0, .ref (a 0))]) hx hb dX10_finger_107 hl (k := 5) rfl (by rw [e107]; rfl) (by decide) rfl (fun ls hl => ?_)
                  refine lv_goto (tgt := 7) hx hb dX10_finger_110 (by decide) ?_
                  exact ih7 x107 i y56 B83 _ _ _ (by rw [i32_i e107 (by have := i32_hi (V 0 3); omega)]; omega) (by first | exact hC | exact hA) (fun hf => by exfalso; have hg := hf.t; omega) (by rw [i32_i e107 (by have := i32_hi (V 0 3); omega)]; omega) X (lv_sub hl [0, 1, 2, 6] rfl)
                · skip
                  refine lv_iload hx hb dX10_finger_93 (lv_at hl 1 rfl) ?_
                  refine lv_iload_n hx hb dX10_finger_95 rfl (lv_at hl 4 rfl) ?_
                  refine sIlt (tgt := 102) hx hb (rfl : Int32.toInt y56 = _) (rfl : Int32.toInt g = _) dX10_finger_96 (by decide) (fun c96 => ?_) (fun c96 => ?_)
                  · skip
                    refine lv_iload_n hx hb dX10_finger_102 rfl (lv_at hl 3 rfl) ?_
                    refine lv_istore_n (lv' := [(1, .int i), (6, .int 1), (5, .int y56), (4, .int x42), (3, .int i), (2, .int g), (0, .ref (a 0))]) hx hb dX10_finger_103 rfl hl (by decide) rfl (fun ls hl => ?_)
                    refine lv_iload hx hb dX10_finger_104 (lv_at hl 2 rfl) ?_
                    refine lv_istore_n (lv' := [(2, .int y56), (1, .int i), (6, .int 1), (5, .int y56), (4, .int x42), (3, .int i), (0, .ref (a 0))]) hx hb dX10_finger_106 rfl hl (by decide) rfl (fun ls hl => ?_)
                    obtain ⟨x107, e107⟩ : ∃ y : Int32, y = i + (1) := ⟨_, rfl⟩
                    refine lv_iinc (v := x107) (lv' := [(3, .int x107), (2, .int y56), (1, .int i), (6, .int 1), (5, .int y56), (4, .int x42), (0, .ref (a 0))]) hx hb dX10_finger_107 hl (k := 5) rfl (by rw [e107]; rfl) (by decide) rfl (fun ls hl => ?_)
                    refine lv_goto (tgt := 7) hx hb dX10_finger_110 (by decide) ?_
                    exact ih7 x107 i y56 B83 _ _ _ (by rw [i32_i e107 (by have := i32_hi (V 0 3); omega)]; omega) (by first | exact hC | exact hA) (fun hf => by exfalso; have hg := hf.t; omega) (by rw [i32_i e107 (by have := i32_hi (V 0 3); omega)]; omega) X (lv_sub hl [0, 1, 2, 6] rfl)
                  · skip
                    refine lv_goto (tgt := 107) hx hb dX10_finger_99 (by decide) ?_
                    obtain ⟨x107, e107⟩ : ∃ y : Int32, y = i + (1) := ⟨_, rfl⟩
                    refine lv_iinc (v := x107) (lv' := [(3, .int x107), (6, .int 1), (5, .int y56), (4, .int x42), (2, .int g), (1, .int b), (0, .ref (a 0))]) hx hb dX10_finger_107 hl (k := 3) rfl (by rw [e107]; rfl) (by decide) rfl (fun ls hl => ?_)
                    refine lv_goto (tgt := 7) hx hb dX10_finger_110 (by decide) ?_
                    exact ih7 x107 b g B83 _ _ _ (by rw [i32_i e107 (by have := i32_hi (V 0 3); omega)]; omega) (by first | exact hC | exact hA) (fun hf => by exfalso; have hg := hf.t; omega) (by rw [i32_i e107 (by have := i32_hi (V 0 3); omega)]; omega) X (lv_sub hl [0, 4, 5, 6] rfl)
          · skip
            refine lv_goto (tgt := 107) hx hb dX10_finger_34 (by decide) ?_
            obtain ⟨x107, e107⟩ : ∃ y : Int32, y = i + (1) := ⟨_, rfl⟩
            refine lv_iinc (v := x107) (lv' := [(3, .int x107), (2, .int g), (1, .int b), (0, .ref (a 0))]) hx hb dX10_finger_107 hl (k := 0) rfl (by rw [e107]; rfl) (by decide) rfl (fun ls hl => ?_)
            refine lv_goto (tgt := 7) hx hb dX10_finger_110 (by decide) ?_
            exact ih7 x107 b g Y _ _ _ (by rw [i32_i e107 (by have := i32_hi (V 0 3); omega)]; omega) (by first | exact hC | exact hA) (fun hf => by exfalso; have hg := hf.t; omega) (by rw [i32_i e107 (by have := i32_hi (V 0 3); omega)]; omega) X (lv_sub hl [0, 1, 2, 3] rfl)
  exact L7 _ 0 (-9) 0 V _ _ _ (by decide) (sAg.rf) (fun _ => rfl) (Nat.lt_succ_self _) X (lv_sub hl [0, 1, 2, 3] rfl)
def q_m_by (V : sV) (i2 : Int32) : Int32 → sV → Prop := fun x V1 => sAg [13, 14] V V1 ∧ mP V1 ∧ mO V1 ∧ (i2 = 0 → (V 0 3).toInt = 0 → V 15 0 = 0 → x = 0)
set_option maxRecDepth 100000 in
set_option maxHeartbeats 4000000 in
theorem k_m_by {l : Launch} {D : va_G} {cI : ClassId} {a : Nat → Nat} (ha : sInj SM a) (V : sV) (i1 i2 i3 i4 : Int32) (hm : mI V) (g1 : 0 ≤ i1.toInt ∧ i1.toInt ≤ 40) (g2 : 0 ≤ i2.toInt ∧ i2.toInt ≤ 20) (g4 : -50 ≤ i4.toInt ∧ i4.toInt ≤ 50) : sMI l D cI SM a V yX10_by cX10_by 10 .int 4 [.ref (a 0), .int i1, .int i2, .int i3, .int i4] (q_m_by V i2) := by
  refine sMIof ha (by decide +kernel) (Nat.le_of_ble_eq_true rfl) ?_
  intro p e s m below meth c ls G X hl
  obtain ⟨hx, hb, hml, hown, hts, hlocks, hr, hK⟩ := id G
  have hl : lv_has ls 10 [(0, .ref (a 0)), (1, .int i1), (2, .int i2), (3, .int i3), (4, .int i4)] := hl
  obtain ⟨mf0, mf1, mf3, mf11, mf14, mf15⟩ := hm.1
  refine lv_aload_n hx hb dX10_by_0 rfl (lv_at hl 0 rfl) ?_
  refine sgR G X 0 13 rfl rfl fl_X10_37 dX10_by_1 ?_
  refine lv_iconst (v := 0) hx hb dX10_by_4 (by decide) ?_
  refine sld G X 10 rfl (i32_in (by decide) (by decide)) dX10_by_5 ?_
  refine sTop (y := V 10 0) (by rw [show Int32.toNatClampNeg 0 = 0 from by decide]; try rfl) ?_
  refine lv_topi (fun x5 e5 => ?_)
  refine lv_istore (lv' := [(5, .int x5), (0, .ref (a 0)), (1, .int i1), (2, .int i2), (3, .int i3), (4, .int i4)]) hx hb dX10_by_6 hl (by decide) rfl (fun ls hl => ?_)
  refine lv_aload_n hx hb dX10_by_8 rfl (lv_at hl 1 rfl) ?_
  refine sgR G X 0 13 rfl rfl fl_X10_37 dX10_by_9 ?_
  refine lv_iconst (v := 1) hx hb dX10_by_12 (by decide) ?_
  refine sld G X 10 rfl (i32_in (by decide) (by decide)) dX10_by_13 ?_
  refine sTop (y := V 10 1) (by rw [show Int32.toNatClampNeg 1 = 1 from by decide]; try rfl) ?_
  refine lv_topi (fun x13 e13 => ?_)
  refine lv_istore (lv' := [(6, .int x13), (5, .int x5), (0, .ref (a 0)), (1, .int i1), (2, .int i2), (3, .int i3), (4, .int i4)]) hx hb dX10_by_14 hl (by decide) rfl (fun ls hl => ?_)
  refine lv_aload_n hx hb dX10_by_16 rfl (lv_at hl 2 rfl) ?_
  refine sgR G X 0 13 rfl rfl fl_X10_37 dX10_by_17 ?_
  refine lv_iconst (v := 2) hx hb dX10_by_20 (by decide) ?_
  refine sld G X 10 rfl (i32_in (by decide) (by decide)) dX10_by_21 ?_
  refine sTop (y := V 10 2) (by rw [show Int32.toNatClampNeg 2 = 2 from by decide]; try rfl) ?_
  refine lv_topi (fun x21 e21 => ?_)
  refine lv_istore (lv' := [(7, .int x21), (6, .int x13), (5, .int x5), (0, .ref (a 0)), (1, .int i1), (2, .int i2), (3, .int i3), (4, .int i4)]) hx hb dX10_by_22 hl (by decide) rfl (fun ls hl => ?_)
  refine lv_aload_n hx hb dX10_by_24 rfl (lv_at hl 3 rfl) ?_
  refine sgI G X 0 14 rfl rfl fl_X10_125 dX10_by_25 ?_
  refine lv_istore (lv' := [(8, .int (V 0 14)), (7, .int x21), (6, .int x13), (5, .int x5), (0, .ref (a 0)), (1, .int i1), (2, .int i2), (3, .int i3), (4, .int i4)]) hx hb dX10_by_28 hl (by decide) rfl (fun ls hl => ?_)
  refine lv_aload_n hx hb dX10_by_30 rfl (lv_at hl 4 rfl) ?_
  refine sgR G X 0 13 rfl rfl fl_X10_37 dX10_by_31 ?_
  refine lv_iconst (v := 0) hx hb dX10_by_34 (by decide) ?_
  refine lv_iload_n hx hb dX10_by_35 rfl (lv_at hl 5 rfl) ?_
  refine sst G X 10 rfl (i32_in (by decide) (by decide)) dX10_by_36 (fun H locs X => ?_)
  have X : sWS D cI SM a (sUp V 10 (upd (V 10) 0 i1)) s.heap H locs := X
  refine lv_aload_n hx hb dX10_by_37 rfl (lv_at hl 4 rfl) ?_
  refine sgR G X 0 13 rfl rfl fl_X10_37 dX10_by_38 ?_
  refine lv_iconst (v := 1) hx hb dX10_by_41 (by decide) ?_
  refine lv_iload_n hx hb dX10_by_42 rfl (lv_at hl 6 rfl) ?_
  refine sst G X 10 rfl (i32_in (by decide) (by decide)) dX10_by_43 (fun H locs X => ?_)
  have X : sWS D cI SM a (sUp (sUp V 10 (upd (V 10) 0 i1)) 10 (upd ((sUp V 10 (upd (V 10) 0 i1)) 10) 1 i2)) s.heap H locs := X
  refine lv_aload_n hx hb dX10_by_44 rfl (lv_at hl 4 rfl) ?_
  refine sgR G X 0 13 rfl rfl fl_X10_37 dX10_by_45 ?_
  refine lv_iconst (v := 2) hx hb dX10_by_48 (by decide) ?_
  refine lv_iload_n hx hb dX10_by_49 rfl (lv_at hl 7 rfl) ?_
  refine sst G X 10 rfl (i32_in (by decide) (by decide)) dX10_by_50 (fun H locs X => ?_)
  have X : sWS D cI SM a (sUp (sUp (sUp V 10 (upd (V 10) 0 i1)) 10 (upd ((sUp V 10 (upd (V 10) 0 i1)) 10) 1 i2)) 10 (upd ((sUp (sUp V 10 (upd (V 10) 0 i1)) 10 (upd ((sUp V 10 (upd (V 10) 0 i1)) 10) 1 i2)) 10) 2 i3)) s.heap H locs := X
  refine lv_aload_n hx hb dX10_by_51 rfl (lv_at hl 4 rfl) ?_
  refine lv_iload hx hb dX10_by_52 (lv_at hl 8 rfl) ?_
  refine spI G X 0 14 rfl rfl fp_X10_125 dX10_by_54 (fun H locs X => ?_)
  obtain ⟨B, eB⟩ : ∃ Yq : sV, Yq = (sUp (sUp (sUp (sUp V 10 (upd (V 10) 0 i1)) 10 (upd ((sUp V 10 (upd (V 10) 0 i1)) 10) 1 i2)) 10 (upd ((sUp (sUp V 10 (upd (V 10) 0 i1)) 10 (upd ((sUp V 10 (upd (V 10) 0 i1)) 10) 1 i2)) 10) 2 i3)) 0 (upd ((sUp (sUp (sUp V 10 (upd (V 10) 0 i1)) 10 (upd ((sUp V 10 (upd (V 10) 0 i1)) 10) 1 i2)) 10 (upd ((sUp (sUp V 10 (upd (V 10) 0 i1)) 10 (upd ((sUp V 10 (upd (V 10) 0 i1)) 10) 1 i2)) 10) 2 i3)) 0) 14 i4)) := ⟨_, rfl⟩
  rw [← eB] at X
  have hmB : mI B := by rw [eB]; exact ⟨mF_14 hm.1 g4, hm.2.1, ⟨g1, g2⟩, hm.2.2.2⟩
  refine lv_aload_n hx hb dX10_by_57 rfl (lv_at hl 4 rfl) ?_
  refine scI (ci := 9) (As := []) (rest := []) G X (k_m_flowsIn ha B (by assumption)) iy_X10_flowsIn ml_X10_150 rfl rfl rfl rfl hl.1 (by decide) (by decide) (Nat.le_of_ble_eq_true rfl) dX10_by_58 (fun y58 V58 H locs p58 X => ?_)
  obtain ⟨hA, hP, hO, hC⟩ := p58
  refine lv_istore (lv' := [(9, .int y58), (8, .int (V 0 14)), (7, .int x21), (6, .int x13), (5, .int x5), (0, .ref (a 0)), (1, .int i1), (2, .int i2), (3, .int i3), (4, .int i4)]) hx hb dX10_by_61 hl (by decide) rfl (fun ls hl => ?_)
  refine lv_aload_n hx hb dX10_by_63 rfl (lv_at hl 5 rfl) ?_
  refine sgR G X 0 13 rfl rfl fl_X10_37 dX10_by_64 ?_
  refine lv_iconst (v := 0) hx hb dX10_by_67 (by decide) ?_
  refine lv_iload hx hb dX10_by_68 (lv_at hl 4 rfl) ?_
  refine sst G X 10 rfl (i32_in (by decide) (by decide)) dX10_by_70 (fun H locs X => ?_)
  have X : sWS D cI SM a (sUp V58 10 (upd (V58 10) 0 x5)) s.heap H locs := X
  refine lv_aload_n hx hb dX10_by_71 rfl (lv_at hl 5 rfl) ?_
  refine sgR G X 0 13 rfl rfl fl_X10_37 dX10_by_72 ?_
  refine lv_iconst (v := 1) hx hb dX10_by_75 (by decide) ?_
  refine lv_iload hx hb dX10_by_76 (lv_at hl 3 rfl) ?_
  refine sst G X 10 rfl (i32_in (by decide) (by decide)) dX10_by_78 (fun H locs X => ?_)
  have X : sWS D cI SM a (sUp (sUp V58 10 (upd (V58 10) 0 x5)) 10 (upd ((sUp V58 10 (upd (V58 10) 0 x5)) 10) 1 x13)) s.heap H locs := X
  refine lv_aload_n hx hb dX10_by_79 rfl (lv_at hl 5 rfl) ?_
  refine sgR G X 0 13 rfl rfl fl_X10_37 dX10_by_80 ?_
  refine lv_iconst (v := 2) hx hb dX10_by_83 (by decide) ?_
  refine lv_iload hx hb dX10_by_84 (lv_at hl 2 rfl) ?_
  refine sst G X 10 rfl (i32_in (by decide) (by decide)) dX10_by_86 (fun H locs X => ?_)
  have X : sWS D cI SM a (sUp (sUp (sUp V58 10 (upd (V58 10) 0 x5)) 10 (upd ((sUp V58 10 (upd (V58 10) 0 x5)) 10) 1 x13)) 10 (upd ((sUp (sUp V58 10 (upd (V58 10) 0 x5)) 10 (upd ((sUp V58 10 (upd (V58 10) 0 x5)) 10) 1 x13)) 10) 2 x21)) s.heap H locs := X
  refine lv_aload_n hx hb dX10_by_87 rfl (lv_at hl 5 rfl) ?_
  refine lv_iload hx hb dX10_by_88 (lv_at hl 1 rfl) ?_
  refine spI G X 0 14 rfl rfl fp_X10_125 dX10_by_90 (fun H locs X => ?_)
  obtain ⟨E, eE⟩ : ∃ Yq : sV, Yq = (sUp (sUp (sUp (sUp V58 10 (upd (V58 10) 0 x5)) 10 (upd ((sUp V58 10 (upd (V58 10) 0 x5)) 10) 1 x13)) 10 (upd ((sUp (sUp V58 10 (upd (V58 10) 0 x5)) 10 (upd ((sUp V58 10 (upd (V58 10) 0 x5)) 10) 1 x13)) 10) 2 x21)) 0 (upd ((sUp (sUp (sUp V58 10 (upd (V58 10) 0 x5)) 10 (upd ((sUp V58 10 (upd (V58 10) 0 x5)) 10) 1 x13)) 10 (upd ((sUp (sUp V58 10 (upd (V58 10) 0 x5)) 10 (upd ((sUp V58 10 (upd (V58 10) 0 x5)) 10) 1 x13)) 10) 2 x21)) 0) 14 (V 0 14))) := ⟨_, rfl⟩
  rw [← eE] at X
  refine lv_iload hx hb dX10_by_93 (lv_at hl 0 rfl) ?_
  exact srI G X (rfl) dX10_by_95 (by 
      have hE10 : E 10 = V 10 := by
        rw [eE]
        show upd (upd (upd (V58 10) 0 x5) 1 x13) 2 x21 = V 10
        rw [hA 10 (by decide), eB, e5, e13, e21]
        exact mby_back
      have hE0 : E 0 = V 0 := by
        rw [eE]
        show upd (V58 0) 14 (V 0 14) = V 0
        rw [hA 0 (by decide), eB]
        exact upd_back rfl
      have hEo : ∀ k, k ≠ 0 → k ≠ 10 → E k = V58 k := fun k h1 h2 => by rw [eE, sUp_n _ _ h1, sUp_n _ _ h2, sUp_n _ _ h2, sUp_n _ _ h2]
      have hBo : ∀ k, k ≠ 0 → k ≠ 10 → B k = V k := fun k h1 h2 => by rw [eB, sUp_n _ _ h1, sUp_n _ _ h2, sUp_n _ _ h2, sUp_n _ _ h2]
      have hB03 : B 0 3 = V 0 3 := by rw [eB]; rfl
      have hV03 : V58 0 3 = V 0 3 := by rw [hA 0 (by decide)]; exact hB03
      refine ⟨fun k hk => ?_, by unfold mP; rw [hEo 13 (by decide) (by decide)]; exact hP, by unfold mO at hO ⊢; rw [hEo 14 (by decide) (by decide), hE0, ← hV03]; exact hO, fun h1 h2 h3 => hC (mQ0 (by rw [eB]; exact h1) (by rw [hB03]; exact h2)) (by rw [hBo 15 (by decide) (by decide)]; exact h3)⟩
      by_cases k0 : k = 0
      · rw [k0]; exact hE0
      by_cases k1 : k = 10
      · rw [k1]; exact hE10
      rw [hEo k k0 k1, hA k hk, hBo k k0 k1])
def q_m_numberP (V : sV) (v : Int32) : Int32 → sV → Prop := fun x V1 => mK V V1 ∧ (mFr V → x = fNumber v)
set_option maxRecDepth 100000 in
set_option maxHeartbeats 4000000 in
theorem k_m_numberP {l : Launch} {D : va_G} {cI : ClassId} {a : Nat → Nat} (ha : sInj SM a) (V : sV) (v : Int32) (hm : mI V) : sMI l D cI SM a V yX10_number_ cX10_number_ 2 .int 5 [.ref (a 0), .int v] (q_m_numberP V v) := by
  refine sMIof ha (by decide +kernel) (Nat.le_of_ble_eq_true rfl) ?_
  intro p e s m below meth c ls G X hl
  obtain ⟨hx, hb, hml, hown, hts, hlocks, hr, hK⟩ := id G
  have hl : lv_has ls 2 [(0, .ref (a 0)), (1, .int v)] := hl
  obtain ⟨mf0, mf1, mf3, mf11, mf14, mf15⟩ := hm.1
  refine lv_iload_n hx hb dX10_number__0 rfl (lv_at hl 1 rfl) ?_
  refine lv_bipush (v := (-50)) hx hb dX10_number__1 (by decide) ?_
  refine sIge (tgt := 13) hx hb (rfl : Int32.toInt v = _) (by decide : ((-50) : Int32).toInt = -50) dX10_number__3 (by decide) (fun c3 => ?_) (fun c3 => ?_)
  · skip
    refine lv_iload_n hx hb dX10_number__13 rfl (lv_at hl 1 rfl) ?_
    refine lv_bipush (v := 50) hx hb dX10_number__14 (by decide) ?_
    refine sIle (tgt := 26) hx hb (rfl : Int32.toInt v = _) (by decide : (50 : Int32).toInt = 50) dX10_number__16 (by decide) (fun c16 => ?_) (fun c16 => ?_)
    · skip
      refine lv_aload_n hx hb dX10_number__26 rfl (lv_at hl 0 rfl) ?_
      refine lv_iconst (v := 0) hx hb dX10_number__27 (by decide) ?_
      refine lv_iconst (v := 0) hx hb dX10_number__28 (by decide) ?_
      refine lv_aload_n hx hb dX10_number__29 rfl (lv_at hl 0 rfl) ?_
      refine sgR G X 0 13 rfl rfl fl_X10_37 dX10_number__30 ?_
      refine lv_iconst (v := 2) hx hb dX10_number__33 (by decide) ?_
      refine sld G X 10 rfl (i32_in (by decide) (by decide)) dX10_number__34 ?_
      refine sTop (y := V 10 2) (by rw [show Int32.toNatClampNeg 2 = 2 from by decide]; try rfl) ?_
      refine lv_topi (fun x34 e34 => ?_)
      refine lv_iload_n hx hb dX10_number__35 rfl (lv_at hl 1 rfl) ?_
      refine scI (ci := 9) (As := [.int 0, .int 0, .int x34, .int v]) (rest := []) G X (k_m_by ha V 0 0 x34 v (by assumption) (by first | assumption | (constructor <;> first | omega | decide)) (by first | assumption | (constructor <;> first | omega | decide)) (by first | assumption | (constructor <;> first | omega | decide))) iy_X10_by ml_X10_178 rfl rfl rfl rfl hl.1 (by decide) (by decide) (Nat.le_of_ble_eq_true rfl) dX10_number__36 (fun y36 V36 H locs p36 X => ?_)
      exact srI G X (rfl) dX10_number__39 (by exact ⟨(mK.ag hm ((sAg.mono p36.1 (by decide)) : sAg [1, 5, 7, 8, 11, 12, 13, 14, 15] V _) (by decide)), fun hf => by rw [p36.2.2.2 rfl hf.t.1 hf.2.2.1]; unfold fNumber; rw [if_neg (by omega), if_neg (by omega)]⟩)
    · skip
      refine lv_aload_n hx hb dX10_number__19 rfl (lv_at hl 0 rfl) ?_
      refine lv_bipush (v := (-6)) hx hb dX10_number__20 (by decide) ?_
      refine scI (ci := 9) (As := [.int (-6)]) (rest := []) G X (k_m_no ha V (-6) (by decide) (by decide)) iy_X10_no ml_X10_68 rfl rfl rfl rfl hl.1 (by decide) (by decide) (Nat.le_of_ble_eq_true rfl) dX10_number__22 (fun y22 V22 H locs p22 X => ?_)
      exact srI G X (rfl) dX10_number__25 (by exact ⟨(mK.ag hm ((sAg.mono p22.1 (by decide)) : sAg [1, 5, 7, 8, 11, 12, 13, 14, 15] V _) (by decide)), (fun hf => by have hg := hf.t; rw [p22.2]; unfold fNumber; (repeat' split) <;> first | rfl | (exfalso; omega))⟩)
  · skip
    refine lv_aload_n hx hb dX10_number__6 rfl (lv_at hl 0 rfl) ?_
    refine lv_bipush (v := (-4)) hx hb dX10_number__7 (by decide) ?_
    refine scI (ci := 9) (As := [.int (-4)]) (rest := []) G X (k_m_no ha V (-4) (by decide) (by decide)) iy_X10_no ml_X10_68 rfl rfl rfl rfl hl.1 (by decide) (by decide) (Nat.le_of_ble_eq_true rfl) dX10_number__9 (fun y9 V9 H locs p9 X => ?_)
    exact srI G X (rfl) dX10_number__12 (by exact ⟨(mK.ag hm ((sAg.mono p9.1 (by decide)) : sAg [1, 5, 7, 8, 11, 12, 13, 14, 15] V _) (by decide)), (fun hf => by have hg := hf.t; rw [p9.2]; unfold fNumber; (repeat' split) <;> first | rfl | (exfalso; omega))⟩)
def q_m_winter (V : sV)  : Int32 → sV → Prop := fun x V1 => mK V V1 ∧ (mFr V → x = 0)
set_option maxRecDepth 100000 in
set_option maxHeartbeats 4000000 in
theorem k_m_winter {l : Launch} {D : va_G} {cI : ClassId} {a : Nat → Nat} (ha : sInj SM a) (V : sV)  (hm : mI V) : sMI l D cI SM a V yX10_winter cX10_winter 3 .int 5 [.ref (a 0)] (q_m_winter V ) := by
  refine sMIof ha (by decide +kernel) (Nat.le_of_ble_eq_true rfl) ?_
  intro p e s m below meth c ls G X hl
  obtain ⟨hx, hb, hml, hown, hts, hlocks, hr, hK⟩ := id G
  have hl : lv_has ls 3 [(0, .ref (a 0))] := hl
  obtain ⟨mf0, mf1, mf3, mf11, mf14, mf15⟩ := hm.1
  refine lv_iconst (v := 0) hx hb dX10_winter_0 (by decide) ?_
  refine lv_istore_n (lv' := [(1, .int 0), (0, .ref (a 0))]) hx hb dX10_winter_1 rfl hl (by decide) rfl (fun ls hl => ?_)
  refine lv_iconst (v := 0) hx hb dX10_winter_2 (by decide) ?_
  refine lv_istore_n (lv' := [(2, .int 0), (1, .int 0), (0, .ref (a 0))]) hx hb dX10_winter_3 rfl hl (by decide) rfl (fun ls hl => ?_)
  have L4 : ∀ (fu4 : Nat) (i : Int32) (z : Int32) (Y : sV) (H : Heap) (locs : List Loc) (ls : Array Slot), (0 ≤ i.toInt) → (sAg [13, 14] V Y) → (mFr V → z = 0) → (((V 0 11).toInt - i.toInt).toNat) < fu4 → sWS D cI SM a Y s.heap H locs → lv_has ls 3 [(2, .int i), (1, .int z), (0, .ref (a 0))] → W p l e (rmD 5) s m ([.ref (a 0)] : List Value).toArray below meth c H locs 0 0 (MQ below (va_Qi (q_m_winter V ) (fun V1 t => va_P D vwCl (sWd cI SM a V1) t.heap) (sA SM a s.heap.size)) ([.ref (a 0)] : List Value).toArray s 0 0 (sA SM a s.heap.size)) (F0 m 4 ls []) := by
    intro fu4
    induction fu4 with
    | zero => intro i z Y H locs ls hi hA hv hm4; exact absurd hm4 (Nat.not_lt_zero _)
    | succ fu4 ih4 =>
      intro i z Y H locs ls hi hA hv hm4 X hl
      have hmY : mI Y := hm.ag (sAg.mono hA (by decide) : sAg [5, 12, 13, 14] V _) (by decide)
      have hY11 : (Y 0 11).toInt = (V 0 11).toInt := by rw [hA 0 (by decide)]
      have hY14 : (Y 0 14).toInt = (V 0 14).toInt := by rw [hA 0 (by decide)]
      refine lv_iload_n hx hb dX10_winter_4 rfl (lv_at hl 0 rfl) ?_
      refine lv_aload_n hx hb dX10_winter_5 rfl (lv_at hl 2 rfl) ?_
      refine sgI G X 0 11 rfl rfl fl_X10_113 dX10_winter_6 ?_
      refine sIge (tgt := 66) hx hb (rfl : Int32.toInt i = _) (rfl : Int32.toInt (Y 0 11) = _) dX10_winter_9 (by decide) (fun c9 => ?_) (fun c9 => ?_)
      · skip
        rw [hA 0 (by decide)] at c9
        refine lv_iload_n hx hb dX10_winter_66 rfl (lv_at hl 1 rfl) ?_
        exact srI G X (rfl) dX10_winter_67 (by exact ⟨(mK.ag hm ((sAg.mono hA (by decide)) : sAg [1, 5, 7, 8, 11, 12, 13, 14, 15] V _) (by decide)), hv⟩)
      · skip
        rw [hA 0 (by decide)] at c9
        refine lv_iload_n hx hb dX10_winter_12 rfl (lv_at hl 1 rfl) ?_
        refine lv_aload_n hx hb dX10_winter_13 rfl (lv_at hl 2 rfl) ?_
        refine sgR G X 0 12 rfl rfl fl_X10_34 dX10_winter_14 ?_
        refine lv_iconst (v := 3) hx hb dX10_winter_17 (by decide) ?_
        refine lv_iload_n hx hb dX10_winter_18 rfl (lv_at hl 0 rfl) ?_
        refine lv_imul hx hb dX10_winter_19 ?_
        refine lv_topi (fun x19 e19 => ?_)
        have t19 := m_3i e19 (by omega)
        refine sld G X 9 rfl (i32_in (by omega) (by omega)) dX10_winter_20 ?_
        refine lv_topi (fun x20 e20 => ?_)
        refine lv_aload_n hx hb dX10_winter_21 rfl (lv_at hl 2 rfl) ?_
        refine lv_aload_n hx hb dX10_winter_22 rfl (lv_at hl 2 rfl) ?_
        refine sgR G X 0 12 rfl rfl fl_X10_34 dX10_winter_23 ?_
        refine lv_iconst (v := 3) hx hb dX10_winter_26 (by decide) ?_
        refine lv_iload_n hx hb dX10_winter_27 rfl (lv_at hl 0 rfl) ?_
        refine lv_imul hx hb dX10_winter_28 ?_
        refine lv_topi (fun x28 e28 => ?_)
        have t28 := m_3i e28 (by omega)
        refine sld G X 9 rfl (i32_in (by omega) (by omega)) dX10_winter_29 ?_
        refine lv_topi (fun x29 e29 => ?_)
        have b29 : 0 ≤ x29.toInt ∧ x29.toInt ≤ 40 := by rw [e29]; exact hmY.told0 t28 (by omega)
        refine lv_aload_n hx hb dX10_winter_30 rfl (lv_at hl 2 rfl) ?_
        refine sgR G X 0 12 rfl rfl fl_X10_34 dX10_winter_31 ?_
        refine lv_iconst (v := 3) hx hb dX10_winter_34 (by decide) ?_
        refine lv_iload_n hx hb dX10_winter_35 rfl (lv_at hl 0 rfl) ?_
        refine lv_imul hx hb dX10_winter_36 ?_
        refine lv_topi (fun x36 e36 => ?_)
        refine lv_iconst (v := 1) hx hb dX10_winter_37 (by decide) ?_
        refine lv_iadd hx hb dX10_winter_38 ?_
        refine lv_topi (fun x38 e38 => ?_)
        have t36 := m_3i e36 (by omega)
        have t38 := i32_adde e38 (by show _ ≤ _ + (1 : Int); omega) (by show _ + (1 : Int) < _; omega)
        rw [show (1 : Int32).toInt = 1 from by decide] at t38
        refine sld G X 9 rfl (i32_in (by omega) (by omega)) dX10_winter_39 ?_
        refine lv_topi (fun x39 e39 => ?_)
        have b39 : 0 ≤ x39.toInt ∧ x39.toInt ≤ 20 := by rw [e39]; exact hmY.told1 (i := i) (by omega) (by omega)
        refine lv_aload_n hx hb dX10_winter_40 rfl (lv_at hl 2 rfl) ?_
        refine sgR G X 0 12 rfl rfl fl_X10_34 dX10_winter_41 ?_
        refine lv_iconst (v := 3) hx hb dX10_winter_44 (by decide) ?_
        refine lv_iload_n hx hb dX10_winter_45 rfl (lv_at hl 0 rfl) ?_
        refine lv_imul hx hb dX10_winter_46 ?_
        refine lv_topi (fun x46 e46 => ?_)
        refine lv_iconst (v := 2) hx hb dX10_winter_47 (by decide) ?_
        refine lv_iadd hx hb dX10_winter_48 ?_
        refine lv_topi (fun x48 e48 => ?_)
        have t46 := m_3i e46 (by omega)
        have t48 := i32_adde e48 (by show _ ≤ _ + (2 : Int); omega) (by show _ + (2 : Int) < _; omega)
        rw [show (2 : Int32).toInt = 2 from by decide] at t48
        refine sld G X 9 rfl (i32_in (by omega) (by omega)) dX10_winter_49 ?_
        refine lv_topi (fun x49 e49 => ?_)
        refine lv_aload_n hx hb dX10_winter_50 rfl (lv_at hl 2 rfl) ?_
        refine sgI G X 0 14 rfl rfl fl_X10_125 dX10_winter_51 ?_
        refine scI (ci := 9) (As := [.int x29, .int x39, .int x49, .int (Y 0 14)]) (rest := [.int x20, .int z]) G X (k_m_by ha Y x29 x39 x49 (Y 0 14) (by assumption) (by first | assumption | (constructor <;> first | omega | decide)) (by first | assumption | (constructor <;> first | omega | decide)) (by first | assumption | (constructor <;> first | omega | decide))) iy_X10_by ml_X10_178 rfl rfl rfl rfl hl.1 (by decide) (by decide) (Nat.le_of_ble_eq_true rfl) dX10_winter_54 (fun y54 V54 H locs p54 X => ?_)
        refine lv_imul hx hb dX10_winter_57 ?_
        refine lv_topi (fun x57 e57 => ?_)
        refine lv_iadd hx hb dX10_winter_58 ?_
        refine lv_topi (fun x58 e58 => ?_)
        refine lv_istore_n (lv' := [(1, .int x58), (2, .int i), (0, .ref (a 0))]) hx hb dX10_winter_59 rfl hl (by decide) rfl (fun ls hl => ?_)
        obtain ⟨x60, e60⟩ : ∃ y : Int32, y = i + (1) := ⟨_, rfl⟩
        refine lv_iinc (v := x60) (lv' := [(2, .int x60), (1, .int x58), (0, .ref (a 0))]) hx hb dX10_winter_60 hl (k := 1) rfl (by rw [e60]; rfl) (by decide) rfl (fun ls hl => ?_)
        refine lv_goto (tgt := 4) hx hb dX10_winter_63 (by decide) ?_
        exact ih4 x60 x58 V54 _ _ _ (by rw [i32_i e60 (by have := i32_hi (V 0 11); omega)]; omega) (hA.tr p54.1) (fun hf => by exfalso; have hg := hf.t; omega) (by rw [i32_i e60 (by have := i32_hi (V 0 11); omega)]; omega) X (lv_sub hl [0, 1, 2] rfl)
  exact L4 _ 0 0 V _ _ _ (by decide) (sAg.rf) (fun _ => rfl) (Nat.lt_succ_self _) X (lv_sub hl [0, 1, 2] rfl)
