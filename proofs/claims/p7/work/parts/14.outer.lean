def setC (w v : Int32) : Int32 := if w.toInt < 0 ∨ 2 < w.toInt then -2 else if v.toInt < 0 then -4 else if (if w.toInt = 0 then 40 else if w.toInt = 1 then 20 else 3) < v.toInt then -6 else 0
def setX (f : Nat → Int32) (w v : Int32) : Int32 := if setC w v = 0 then nowF f w else setC w v
def setN (f : Nat → Int32) (w v : Int32) : Nat → Int32 := if setC w v = 0 then (if w.toInt = 0 then upd f 0 v else if w.toInt = 1 then upd f 1 v else upd f 2 v) else f
def fanX (v : Int32) : Int32 := if v.toInt < -50 then -4 else if 50 < v.toInt then -6 else v + 50
def fanN (f : Nat → Int32) (v : Int32) : Nat → Int32 := if v.toInt < -50 then f else if 50 < v.toInt then f else upd f 3 v
def nowX (f : Nat → Int32) (w : Int32) : Int32 := if w.toInt < 0 then 1000000002 else if 3 < w.toInt then 1000000002 else nowF f w
def fLetter (c : Int32) : Int32 := if c.toInt < 0 then -4 else if 255 < c.toInt then -6 else 1
def fPush (r : Int32) : Int32 := if r.toInt < 0 then 1000000001 else if 2 ≤ r.toInt then 1000000001 else 0
def fStopped (q : Int32) : Int32 := if q.toInt = 0 then 0 else -1
def fBest (coin what : Int32) : Int32 := if what.toInt < 0 then -2 else if 1 < what.toInt then -2 else if coin.toInt < 0 then -4 else if 99 < coin.toInt then -6 else 0
def fPairs (what : Int32) : Int32 := if what.toInt < 0 then -2 else if 1 < what.toInt then -2 else if what.toInt = 0 then 0 else -9
def fNumber (v : Int32) : Int32 := if v.toInt < -50 then -4 else if 50 < v.toInt then -6 else 0
def fHidden (s c : Int32) : Int32 := if s.toInt < 0 then -4 else if c.toInt < 0 then -4 else if 9 < s.toInt then -6 else if c.toInt = 0 then 0 else -9
def fDays (n : Int32) : Int32 := if n.toInt < 1 then -4 else if 30 < n.toInt then -6 else 0
def fRow (c : Int32) : Int32 := if c.toInt < 0 then -4 else if 2 < c.toInt then -6 else 1
def fCount (w : Int32) : Int32 := if w.toInt = 0 then 2 else if 1 ≤ w.toInt ∧ w.toInt ≤ 6 then 0 else if 11 ≤ w.toInt ∧ w.toInt ≤ 16 then 0 else -9
theorem sFr.t {V : sV} (h : sFr V) : (V 3 7).toInt = 0 ∧ (V 11 3).toInt = 0 ∧ (V 2 0).toInt = 2 ∧ (V 16 1).toInt = 0 ∧ (V 18 1).toInt = 0 ∧ (V 0 2).toInt = 0 := by
  obtain ⟨h1, h2, h3, h4, h5, h6, h7, h8, -⟩ := h
  rw [h1, h4, h5, h6, h7, h8]
  decide
theorem setX_bad {f : Nat → Int32} {w v k : Int32} (h : setC w v = k) (hk : k ≠ 0) : k = setX f w v ∧ f = setN f w v := by
  unfold setX setN
  rw [h, if_neg hk, if_neg hk]
  exact ⟨rfl, rfl⟩
theorem setX_ok {f : Nat → Int32} {w v : Int32} (h : setC w v = 0) : setX f w v = nowF f w ∧ setN f w v = (if w.toInt = 0 then upd f 0 v else if w.toInt = 1 then upd f 1 v else upd f 2 v) := by
  unfold setX setN
  rw [h, if_pos rfl, if_pos rfl]
  exact ⟨rfl, rfl⟩
theorem i32_0 {x : Int32} (h : x.toInt = 0) : x = 0 := Int32.toInt_inj.mp (h.trans Int32.toInt_zero.symm)
theorem sQ0 {V : sV} {r : Nat} (h1 : V r 1 = 0) (h2 : (V 3 7).toInt = 0) : sQuiet V r := ⟨h1, by omega, fun i h3 h4 => by exfalso; omega⟩
def q_letter (V : sV) (i : Int32) : Int32 → sV → Prop := fun x V1 => sAg [1, 16, 17] V V1 ∧ (sFr V → x = fLetter i)
set_option maxRecDepth 100000 in
set_option maxHeartbeats 4000000 in
theorem k_letter {l : Launch} {D : va_G} {cI : ClassId} {a : Nat → Nat} (ha : sInj SX a) (V : sV) (i : Int32) : sMI l D cI SX a V yX9_letter cX9_letter 2 .int 3 [.ref (a 0), .int i] (q_letter V i) := by
  refine sMIof ha (by decide +kernel) (Nat.le_of_ble_eq_true rfl) ?_
  intro p e s m below meth c ls G X hl
  obtain ⟨hx, hb, hml, hown, hts, hlocks, hr, hK⟩ := id G
  have hl : lv_has ls 2 [(0, .ref (a 0)), (1, .int i)] := hl
  refine lv_iload_n hx hb dX9_letter_0 rfl (lv_at hl 1 rfl) ?_
  refine sZge (tgt := 11) hx hb (rfl : Int32.toInt i = _) dX9_letter_1 (by decide) (fun c1 => ?_) (fun c1 => ?_)
  · skip
    refine lv_iload_n hx hb dX9_letter_11 rfl (lv_at hl 1 rfl) ?_
    refine lv_sipush (v := 255) hx hb dX9_letter_12 (by decide) ?_
    refine sIgt (tgt := 31) hx hb (rfl : Int32.toInt i = _) (by decide : (255 : Int32).toInt = 255) dX9_letter_15 (by decide) (fun c15 => ?_) (fun c15 => ?_)
    · skip
      refine lv_aload_n hx hb dX9_letter_31 rfl (lv_at hl 0 rfl) ?_
      refine lv_bipush (v := (-6)) hx hb dX9_letter_32 (by decide) ?_
      refine scI (ci := 8) (As := [.int (-6)]) (rest := []) G X (k_refuse ha V (-6)) iy_X9_refuse ml_X9_57 rfl rfl rfl rfl hl.1 (by decide) (by decide) (Nat.le_of_ble_eq_true rfl) dX9_letter_34 (fun y34 V34 H locs p34 X => ?_)
      exact srI G X (rfl) dX9_letter_37 (by exact ⟨sAg.mono p34.1 (by decide), (fun hf => by have hg := hf.t; rw [p34.2]; unfold fLetter; (repeat' split) <;> first | rfl | (exfalso; omega))⟩)
    · skip
      refine lv_aload_n hx hb dX9_letter_18 rfl (lv_at hl 0 rfl) ?_
      refine sgR G X 0 0 rfl rfl fl_X9_10 dX9_letter_19 ?_
      refine sgR G X 2 4 rfl rfl fl_X9_61 dX9_letter_22 ?_
      refine scI (ci := 4) (As := []) (rest := []) G X (k_rowFull ha V 16 17 80 rfl rfl (by first | decide | assumption) (by first | decide | assumption)) iy_X4_isFull ml_X9_65 rfl rfl rfl rfl hl.1 (by decide) (by decide) (Nat.le_of_ble_eq_true rfl) dX9_letter_25 (fun y25 V25 H locs p25 X => ?_)
      obtain ⟨p25, z25⟩ := p25
      subst V25
      refine sZeq (tgt := 38) hx hb (rfl : Int32.toInt y25 = _) dX9_letter_28 (by decide) (fun c28 => ?_) (fun c28 => ?_)
      · skip
        refine lv_aload_n hx hb dX9_letter_38 rfl (lv_at hl 0 rfl) ?_
        refine sgR G X 0 0 rfl rfl fl_X9_10 dX9_letter_39 ?_
        refine sgR G X 2 4 rfl rfl fl_X9_61 dX9_letter_42 ?_
        refine lv_iload_n hx hb dX9_letter_45 rfl (lv_at hl 1 rfl) ?_
        refine scV (ci := 4) (As := [.int i]) (rest := []) G X (k_rowAdd ha V 16 17 80 rfl rfl (by first | decide | assumption) (by first | decide | assumption) i) iy_X4_add ml_X9_71 rfl rfl rfl rfl hl.1 (by decide) (by decide) (Nat.le_of_ble_eq_true rfl) dX9_letter_46 (fun V46 H locs p46 X => ?_)
        refine lv_aload_n hx hb dX9_letter_49 rfl (lv_at hl 0 rfl) ?_
        refine sgR G X 0 0 rfl rfl fl_X9_10 dX9_letter_50 ?_
        refine sgR G X 2 4 rfl rfl fl_X9_61 dX9_letter_53 ?_
        refine sgI G X 16 1 rfl rfl fl_X9_75 dX9_letter_56 ?_
        exact srI G X (rfl) dX9_letter_59 (by exact ⟨sAg.mono p46.1 (by decide), (fun hf => by have hg := hf.t; rw [p46.2 (by omega), hf.2.2.2.2.2.1]; unfold fLetter; (repeat' split) <;> first | rfl | (exfalso; omega))⟩)
      · skip
        refine lv_aload_n hx hb dX9_letter_31 rfl (lv_at hl 0 rfl) ?_
        refine lv_bipush (v := (-6)) hx hb dX9_letter_32 (by decide) ?_
        refine scI (ci := 8) (As := [.int (-6)]) (rest := []) G X (k_refuse ha V (-6)) iy_X9_refuse ml_X9_57 rfl rfl rfl rfl hl.1 (by decide) (by decide) (Nat.le_of_ble_eq_true rfl) dX9_letter_34 (fun y34 V34 H locs p34 X => ?_)
        exact srI G X (rfl) dX9_letter_37 (by exact ⟨sAg.mono p34.1 (by decide), (fun hf => by have hg := hf.t; rw [p34.2]; unfold fLetter; (repeat' split) <;> first | rfl | (exfalso; omega))⟩)
  · skip
    refine lv_aload_n hx hb dX9_letter_4 rfl (lv_at hl 0 rfl) ?_
    refine lv_bipush (v := (-4)) hx hb dX9_letter_5 (by decide) ?_
    refine scI (ci := 8) (As := [.int (-4)]) (rest := []) G X (k_refuse ha V (-4)) iy_X9_refuse ml_X9_57 rfl rfl rfl rfl hl.1 (by decide) (by decide) (Nat.le_of_ble_eq_true rfl) dX9_letter_7 (fun y7 V7 H locs p7 X => ?_)
    exact srI G X (rfl) dX9_letter_10 (by exact ⟨sAg.mono p7.1 (by decide), (fun hf => by have hg := hf.t; rw [p7.2]; unfold fLetter; (repeat' split) <;> first | rfl | (exfalso; omega))⟩)
def q_hole (V : sV) (i w : Int32) : Int32 → sV → Prop := fun x V1 => sAg [1] V V1 ∧ (sFr V → x = -1)
set_option maxRecDepth 100000 in
set_option maxHeartbeats 4000000 in
theorem k_hole {l : Launch} {D : va_G} {cI : ClassId} {a : Nat → Nat} (ha : sInj SX a) (V : sV) (i w : Int32) : sMI l D cI SX a V yX9_hole cX9_hole 3 .int 2 [.ref (a 0), .int i, .int w] (q_hole V i w) := by
  refine sMIof ha (by decide +kernel) (Nat.le_of_ble_eq_true rfl) ?_
  intro p e s m below meth c ls G X hl
  obtain ⟨hx, hb, hml, hown, hts, hlocks, hr, hK⟩ := id G
  have hl : lv_has ls 3 [(0, .ref (a 0)), (1, .int i), (2, .int w)] := hl
  refine lv_aload_n hx hb dX9_hole_0 rfl (lv_at hl 0 rfl) ?_
  refine sgR G X 0 0 rfl rfl fl_X9_10 dX9_hole_1 ?_
  refine sgR G X 2 1 rfl rfl fl_X9_89 dX9_hole_4 ?_
  refine lv_iload_n hx hb dX9_hole_7 rfl (lv_at hl 1 rfl) ?_
  refine scI (ci := 2) (As := [.int i]) (rest := []) G X (k_has ha V i) iy_X2_has ml_X9_93 rfl rfl rfl rfl hl.1 (by decide) (by decide) (Nat.le_of_ble_eq_true rfl) dX9_hole_8 (fun y8 V8 H locs p8 X => ?_)
  obtain ⟨p8, z8⟩ := p8
  subst V8
  refine sZne (tgt := 20) hx hb (rfl : Int32.toInt y8 = _) dX9_hole_11 (by decide) (fun c11 => ?_) (fun c11 => ?_)
  · skip
    refine lv_iload_n hx hb dX9_hole_20 rfl (lv_at hl 2 rfl) ?_
    by_cases hs21 : Int32.toInt w < 0 ∨ 6 < Int32.toInt w
    · refine lv_tableOut (tgt := 169) hx hb dX9_hole_21 hs21 (by decide) ?_
      refine lv_aload_n hx hb dX9_hole_169 rfl (lv_at hl 0 rfl) ?_
      refine lv_bipush (v := (-2)) hx hb dX9_hole_170 (by decide) ?_
      refine scI (ci := 8) (As := [.int (-2)]) (rest := []) G X (k_refuse ha V (-2)) iy_X9_refuse ml_X9_57 rfl rfl rfl rfl hl.1 (by decide) (by decide) (Nat.le_of_ble_eq_true rfl) dX9_hole_172 (fun y172 V172 H locs p172 X => ?_)
      exact srI G X (rfl) dX9_hole_175 (by exact ⟨p172.1, (fun hf => by exfalso; have hg := hf.t; omega)⟩)
    by_cases hs21_0 : Int32.toInt w = 0
    · refine lv_tableIn (tgt := 64) (off := 43) hx hb dX9_hole_21 (by rw [hs21_0]; decide) (by rw [hs21_0]; decide) (by rw [hs21_0]; rfl) (by decide) ?_
      refine lv_aload_n hx hb dX9_hole_64 rfl (lv_at hl 0 rfl) ?_
      refine sgR G X 0 0 rfl rfl fl_X9_10 dX9_hole_65 ?_
      refine sgR G X 2 1 rfl rfl fl_X9_89 dX9_hole_68 ?_
      refine sgR G X 3 0 rfl rfl fl_X9_99 dX9_hole_71 ?_
      refine lv_iload_n hx hb dX9_hole_74 rfl (lv_at hl 1 rfl) ?_
      refine scSI (As := [.ref (a 4), .int i]) (rest := []) G X (k_at ha V 4 10 rfl (by first | decide | assumption) i) iy_X5_at ml_X9_102 rfl rfl hl.1 (by decide) (by decide) (Nat.le_of_ble_eq_true rfl) dX9_hole_75 (fun y75 V75 H locs p75 X => ?_)
      obtain ⟨p75, z75⟩ := p75
      subst V75
      exact srI G X (rfl) dX9_hole_78 (by exact ⟨sAg.rf, (fun hf => by exfalso; have hg := hf.t; omega)⟩)
    by_cases hs21_1 : Int32.toInt w = 1
    · refine lv_tableIn (tgt := 79) (off := 58) hx hb dX9_hole_21 (by rw [hs21_1]; decide) (by rw [hs21_1]; decide) (by rw [hs21_1]; rfl) (by decide) ?_
      refine lv_aload_n hx hb dX9_hole_79 rfl (lv_at hl 0 rfl) ?_
      refine sgR G X 0 0 rfl rfl fl_X9_10 dX9_hole_80 ?_
      refine sgR G X 2 1 rfl rfl fl_X9_89 dX9_hole_83 ?_
      refine sgR G X 3 1 rfl rfl fl_X9_108 dX9_hole_86 ?_
      refine lv_iload_n hx hb dX9_hole_89 rfl (lv_at hl 1 rfl) ?_
      refine scSI (As := [.ref (a 5), .int i]) (rest := []) G X (k_at ha V 5 10 rfl (by first | decide | assumption) i) iy_X5_at ml_X9_102 rfl rfl hl.1 (by decide) (by decide) (Nat.le_of_ble_eq_true rfl) dX9_hole_90 (fun y90 V90 H locs p90 X => ?_)
      obtain ⟨p90, z90⟩ := p90
      subst V90
      exact srI G X (rfl) dX9_hole_93 (by exact ⟨sAg.rf, (fun hf => by exfalso; have hg := hf.t; omega)⟩)
    by_cases hs21_2 : Int32.toInt w = 2
    · refine lv_tableIn (tgt := 94) (off := 73) hx hb dX9_hole_21 (by rw [hs21_2]; decide) (by rw [hs21_2]; decide) (by rw [hs21_2]; rfl) (by decide) ?_
      refine lv_aload_n hx hb dX9_hole_94 rfl (lv_at hl 0 rfl) ?_
      refine sgR G X 0 0 rfl rfl fl_X9_10 dX9_hole_95 ?_
      refine sgR G X 2 1 rfl rfl fl_X9_89 dX9_hole_98 ?_
      refine sgR G X 3 2 rfl rfl fl_X9_111 dX9_hole_101 ?_
      refine lv_iload_n hx hb dX9_hole_104 rfl (lv_at hl 1 rfl) ?_
      refine scSI (As := [.ref (a 6), .int i]) (rest := []) G X (k_at ha V 6 10 rfl (by first | decide | assumption) i) iy_X5_at ml_X9_102 rfl rfl hl.1 (by decide) (by decide) (Nat.le_of_ble_eq_true rfl) dX9_hole_105 (fun y105 V105 H locs p105 X => ?_)
      obtain ⟨p105, z105⟩ := p105
      subst V105
      exact srI G X (rfl) dX9_hole_108 (by exact ⟨sAg.rf, (fun hf => by exfalso; have hg := hf.t; omega)⟩)
    by_cases hs21_3 : Int32.toInt w = 3
    · refine lv_tableIn (tgt := 109) (off := 88) hx hb dX9_hole_21 (by rw [hs21_3]; decide) (by rw [hs21_3]; decide) (by rw [hs21_3]; rfl) (by decide) ?_
      refine lv_aload_n hx hb dX9_hole_109 rfl (lv_at hl 0 rfl) ?_
      refine sgR G X 0 0 rfl rfl fl_X9_10 dX9_hole_110 ?_
      refine sgR G X 2 1 rfl rfl fl_X9_89 dX9_hole_113 ?_
      refine sgR G X 3 3 rfl rfl fl_X9_114 dX9_hole_116 ?_
      refine lv_iload_n hx hb dX9_hole_119 rfl (lv_at hl 1 rfl) ?_
      refine scSI (As := [.ref (a 7), .int i]) (rest := []) G X (k_at ha V 7 10 rfl (by first | decide | assumption) i) iy_X5_at ml_X9_102 rfl rfl hl.1 (by decide) (by decide) (Nat.le_of_ble_eq_true rfl) dX9_hole_120 (fun y120 V120 H locs p120 X => ?_)
      obtain ⟨p120, z120⟩ := p120
      subst V120
      exact srI G X (rfl) dX9_hole_123 (by exact ⟨sAg.rf, (fun hf => by exfalso; have hg := hf.t; omega)⟩)
    by_cases hs21_4 : Int32.toInt w = 4
    · refine lv_tableIn (tgt := 124) (off := 103) hx hb dX9_hole_21 (by rw [hs21_4]; decide) (by rw [hs21_4]; decide) (by rw [hs21_4]; rfl) (by decide) ?_
      refine lv_aload_n hx hb dX9_hole_124 rfl (lv_at hl 0 rfl) ?_
      refine sgR G X 0 0 rfl rfl fl_X9_10 dX9_hole_125 ?_
      refine sgR G X 2 1 rfl rfl fl_X9_89 dX9_hole_128 ?_
      refine sgR G X 3 4 rfl rfl fl_X9_117 dX9_hole_131 ?_
      refine lv_iload_n hx hb dX9_hole_134 rfl (lv_at hl 1 rfl) ?_
      refine scSI (As := [.ref (a 8), .int i]) (rest := []) G X (k_at ha V 8 10 rfl (by first | decide | assumption) i) iy_X5_at ml_X9_102 rfl rfl hl.1 (by decide) (by decide) (Nat.le_of_ble_eq_true rfl) dX9_hole_135 (fun y135 V135 H locs p135 X => ?_)
      obtain ⟨p135, z135⟩ := p135
      subst V135
      exact srI G X (rfl) dX9_hole_138 (by exact ⟨sAg.rf, (fun hf => by exfalso; have hg := hf.t; omega)⟩)
    by_cases hs21_5 : Int32.toInt w = 5
    · refine lv_tableIn (tgt := 139) (off := 118) hx hb dX9_hole_21 (by rw [hs21_5]; decide) (by rw [hs21_5]; decide) (by rw [hs21_5]; rfl) (by decide) ?_
      refine lv_aload_n hx hb dX9_hole_139 rfl (lv_at hl 0 rfl) ?_
      refine sgR G X 0 0 rfl rfl fl_X9_10 dX9_hole_140 ?_
      refine sgR G X 2 1 rfl rfl fl_X9_89 dX9_hole_143 ?_
      refine sgR G X 3 5 rfl rfl fl_X9_120 dX9_hole_146 ?_
      refine lv_iload_n hx hb dX9_hole_149 rfl (lv_at hl 1 rfl) ?_
      refine scSI (As := [.ref (a 9), .int i]) (rest := []) G X (k_at ha V 9 10 rfl (by first | decide | assumption) i) iy_X5_at ml_X9_102 rfl rfl hl.1 (by decide) (by decide) (Nat.le_of_ble_eq_true rfl) dX9_hole_150 (fun y150 V150 H locs p150 X => ?_)
      obtain ⟨p150, z150⟩ := p150
      subst V150
      exact srI G X (rfl) dX9_hole_153 (by exact ⟨sAg.rf, (fun hf => by exfalso; have hg := hf.t; omega)⟩)
    by_cases hs21_6 : Int32.toInt w = 6
    · refine lv_tableIn (tgt := 154) (off := 133) hx hb dX9_hole_21 (by rw [hs21_6]; decide) (by rw [hs21_6]; decide) (by rw [hs21_6]; rfl) (by decide) ?_
      refine lv_aload_n hx hb dX9_hole_154 rfl (lv_at hl 0 rfl) ?_
      refine sgR G X 0 0 rfl rfl fl_X9_10 dX9_hole_155 ?_
      refine sgR G X 2 1 rfl rfl fl_X9_89 dX9_hole_158 ?_
      refine sgR G X 3 6 rfl rfl fl_X9_123 dX9_hole_161 ?_
      refine lv_iload_n hx hb dX9_hole_164 rfl (lv_at hl 1 rfl) ?_
      refine scSI (As := [.ref (a 10), .int i]) (rest := []) G X (k_at ha V 10 10 rfl (by first | decide | assumption) i) iy_X5_at ml_X9_102 rfl rfl hl.1 (by decide) (by decide) (Nat.le_of_ble_eq_true rfl) dX9_hole_165 (fun y165 V165 H locs p165 X => ?_)
      obtain ⟨p165, z165⟩ := p165
      subst V165
      exact srI G X (rfl) dX9_hole_168 (by exact ⟨sAg.rf, (fun hf => by exfalso; have hg := hf.t; omega)⟩)
    exact absurd hs21 (by omega)
  · skip
    refine lv_aload_n hx hb dX9_hole_14 rfl (lv_at hl 0 rfl) ?_
    refine lv_iconst (v := (-1)) hx hb dX9_hole_15 (by decide) ?_
    refine scI (ci := 8) (As := [.int (-1)]) (rest := []) G X (k_refuse ha V (-1)) iy_X9_refuse ml_X9_57 rfl rfl rfl rfl hl.1 (by decide) (by decide) (Nat.le_of_ble_eq_true rfl) dX9_hole_16 (fun y16 V16 H locs p16 X => ?_)
    exact srI G X (rfl) dX9_hole_19 (by exact ⟨sAg.mono p16.1 (by decide), fun _ => p16.2⟩)
def q_weather (V : sV) (i w : Int32) : Int32 → sV → Prop := fun x V1 => sAg [1] V V1 ∧ (sFr V → x = -1)
set_option maxRecDepth 100000 in
set_option maxHeartbeats 4000000 in
theorem k_weather {l : Launch} {D : va_G} {cI : ClassId} {a : Nat → Nat} (ha : sInj SX a) (V : sV) (i w : Int32) : sMI l D cI SX a V yX9_weather cX9_weather 3 .int 2 [.ref (a 0), .int i, .int w] (q_weather V i w) := by
  refine sMIof ha (by decide +kernel) (Nat.le_of_ble_eq_true rfl) ?_
  intro p e s m below meth c ls G X hl
  obtain ⟨hx, hb, hml, hown, hts, hlocks, hr, hK⟩ := id G
  have hl : lv_has ls 3 [(0, .ref (a 0)), (1, .int i), (2, .int w)] := hl
  refine lv_iload_n hx hb dX9_weather_0 rfl (lv_at hl 1 rfl) ?_
  refine sZlt (tgt := 18) hx hb (rfl : Int32.toInt i = _) dX9_weather_1 (by decide) (fun c1 => ?_) (fun c1 => ?_)
  · skip
    refine lv_aload_n hx hb dX9_weather_18 rfl (lv_at hl 0 rfl) ?_
    refine lv_iconst (v := (-1)) hx hb dX9_weather_19 (by decide) ?_
    refine scI (ci := 8) (As := [.int (-1)]) (rest := []) G X (k_refuse ha V (-1)) iy_X9_refuse ml_X9_57 rfl rfl rfl rfl hl.1 (by decide) (by decide) (Nat.le_of_ble_eq_true rfl) dX9_weather_20 (fun y20 V20 H locs p20 X => ?_)
    exact srI G X (rfl) dX9_weather_23 (by exact ⟨sAg.mono p20.1 (by decide), fun _ => p20.2⟩)
  · skip
    refine lv_iload_n hx hb dX9_weather_4 rfl (lv_at hl 1 rfl) ?_
    refine lv_aload_n hx hb dX9_weather_5 rfl (lv_at hl 0 rfl) ?_
    refine sgR G X 0 0 rfl rfl fl_X9_10 dX9_weather_6 ?_
    refine sgR G X 2 2 rfl rfl fl_X9_126 dX9_weather_9 ?_
    refine sgI G X 11 3 rfl rfl fl_X9_130 dX9_weather_12 ?_
    refine sIlt (tgt := 24) hx hb (rfl : Int32.toInt i = _) (rfl : Int32.toInt (V 11 3) = _) dX9_weather_15 (by decide) (fun c15 => ?_) (fun c15 => ?_)
    · skip
      refine lv_iload_n hx hb dX9_weather_24 rfl (lv_at hl 2 rfl) ?_
      by_cases hs25 : Int32.toInt w < 0 ∨ 2 < Int32.toInt w
      · refine lv_tableOut (tgt := 97) hx hb dX9_weather_25 hs25 (by decide) ?_
        refine lv_aload_n hx hb dX9_weather_97 rfl (lv_at hl 0 rfl) ?_
        refine lv_bipush (v := (-2)) hx hb dX9_weather_98 (by decide) ?_
        refine scI (ci := 8) (As := [.int (-2)]) (rest := []) G X (k_refuse ha V (-2)) iy_X9_refuse ml_X9_57 rfl rfl rfl rfl hl.1 (by decide) (by decide) (Nat.le_of_ble_eq_true rfl) dX9_weather_100 (fun y100 V100 H locs p100 X => ?_)
        exact srI G X (rfl) dX9_weather_103 (by exact ⟨p100.1, (fun hf => by exfalso; have hg := hf.t; omega)⟩)
      by_cases hs25_0 : Int32.toInt w = 0
      · refine lv_tableIn (tgt := 52) (off := 27) hx hb dX9_weather_25 (by rw [hs25_0]; decide) (by rw [hs25_0]; decide) (by rw [hs25_0]; rfl) (by decide) ?_
        refine lv_aload_n hx hb dX9_weather_52 rfl (lv_at hl 0 rfl) ?_
        refine sgR G X 0 0 rfl rfl fl_X9_10 dX9_weather_53 ?_
        refine sgR G X 2 2 rfl rfl fl_X9_126 dX9_weather_56 ?_
        refine sgR G X 11 0 rfl rfl fl_X9_133 dX9_weather_59 ?_
        refine lv_iload_n hx hb dX9_weather_62 rfl (lv_at hl 1 rfl) ?_
        refine scSI (As := [.ref (a 12), .int i]) (rest := []) G X (k_at ha V 12 4 rfl (by first | decide | assumption) i) iy_X5_at ml_X9_102 rfl rfl hl.1 (by decide) (by decide) (Nat.le_of_ble_eq_true rfl) dX9_weather_63 (fun y63 V63 H locs p63 X => ?_)
        obtain ⟨p63, z63⟩ := p63
        subst V63
        exact srI G X (rfl) dX9_weather_66 (by exact ⟨sAg.rf, (fun hf => by exfalso; have hg := hf.t; omega)⟩)
      by_cases hs25_1 : Int32.toInt w = 1
      · refine lv_tableIn (tgt := 67) (off := 42) hx hb dX9_weather_25 (by rw [hs25_1]; decide) (by rw [hs25_1]; decide) (by rw [hs25_1]; rfl) (by decide) ?_
        refine lv_aload_n hx hb dX9_weather_67 rfl (lv_at hl 0 rfl) ?_
        refine sgR G X 0 0 rfl rfl fl_X9_10 dX9_weather_68 ?_
        refine sgR G X 2 2 rfl rfl fl_X9_126 dX9_weather_71 ?_
        refine sgR G X 11 1 rfl rfl fl_X9_136 dX9_weather_74 ?_
        refine lv_iload_n hx hb dX9_weather_77 rfl (lv_at hl 1 rfl) ?_
        refine scSI (As := [.ref (a 13), .int i]) (rest := []) G X (k_at ha V 13 4 rfl (by first | decide | assumption) i) iy_X5_at ml_X9_102 rfl rfl hl.1 (by decide) (by decide) (Nat.le_of_ble_eq_true rfl) dX9_weather_78 (fun y78 V78 H locs p78 X => ?_)
        obtain ⟨p78, z78⟩ := p78
        subst V78
        exact srI G X (rfl) dX9_weather_81 (by exact ⟨sAg.rf, (fun hf => by exfalso; have hg := hf.t; omega)⟩)
      by_cases hs25_2 : Int32.toInt w = 2
      · refine lv_tableIn (tgt := 82) (off := 57) hx hb dX9_weather_25 (by rw [hs25_2]; decide) (by rw [hs25_2]; decide) (by rw [hs25_2]; rfl) (by decide) ?_
        refine lv_aload_n hx hb dX9_weather_82 rfl (lv_at hl 0 rfl) ?_
        refine sgR G X 0 0 rfl rfl fl_X9_10 dX9_weather_83 ?_
        refine sgR G X 2 2 rfl rfl fl_X9_126 dX9_weather_86 ?_
        refine sgR G X 11 2 rfl rfl fl_X9_139 dX9_weather_89 ?_
        refine lv_iload_n hx hb dX9_weather_92 rfl (lv_at hl 1 rfl) ?_
        refine scSI (As := [.ref (a 14), .int i]) (rest := []) G X (k_at ha V 14 4 rfl (by first | decide | assumption) i) iy_X5_at ml_X9_102 rfl rfl hl.1 (by decide) (by decide) (Nat.le_of_ble_eq_true rfl) dX9_weather_93 (fun y93 V93 H locs p93 X => ?_)
        obtain ⟨p93, z93⟩ := p93
        subst V93
        exact srI G X (rfl) dX9_weather_96 (by exact ⟨sAg.rf, (fun hf => by exfalso; have hg := hf.t; omega)⟩)
      exact absurd hs25 (by omega)
    · skip
      refine lv_aload_n hx hb dX9_weather_18 rfl (lv_at hl 0 rfl) ?_
      refine lv_iconst (v := (-1)) hx hb dX9_weather_19 (by decide) ?_
      refine scI (ci := 8) (As := [.int (-1)]) (rest := []) G X (k_refuse ha V (-1)) iy_X9_refuse ml_X9_57 rfl rfl rfl rfl hl.1 (by decide) (by decide) (Nat.le_of_ble_eq_true rfl) dX9_weather_20 (fun y20 V20 H locs p20 X => ?_)
      exact srI G X (rfl) dX9_weather_23 (by exact ⟨sAg.mono p20.1 (by decide), fun _ => p20.2⟩)
def q_set (V : sV) (w v : Int32) : Int32 → sV → Prop := fun x V1 => sAg [1, 15] V V1 ∧ x = setX (V 15) w v ∧ V1 15 = setN (V 15) w v
set_option maxRecDepth 100000 in
set_option maxHeartbeats 4000000 in
theorem k_set {l : Launch} {D : va_G} {cI : ClassId} {a : Nat → Nat} (ha : sInj SX a) (V : sV) (w v : Int32) : sMI l D cI SX a V yX9_set cX9_set 5 .int 2 [.ref (a 0), .int w, .int v] (q_set V w v) := by
  refine sMIof ha (by decide +kernel) (Nat.le_of_ble_eq_true rfl) ?_
  intro p e s m below meth c ls G X hl
  obtain ⟨hx, hb, hml, hown, hts, hlocks, hr, hK⟩ := id G
  have hl : lv_has ls 5 [(0, .ref (a 0)), (1, .int w), (2, .int v)] := hl
  refine lv_iload_n hx hb dX9_set_0 rfl (lv_at hl 1 rfl) ?_
  refine sZlt (tgt := 9) hx hb (rfl : Int32.toInt w = _) dX9_set_1 (by decide) (fun c1 => ?_) (fun c1 => ?_)
  · skip
    refine lv_aload_n hx hb dX9_set_9 rfl (lv_at hl 0 rfl) ?_
    refine lv_bipush (v := (-2)) hx hb dX9_set_10 (by decide) ?_
    refine scI (ci := 8) (As := [.int (-2)]) (rest := []) G X (k_refuse ha V (-2)) iy_X9_refuse ml_X9_57 rfl rfl rfl rfl hl.1 (by decide) (by decide) (Nat.le_of_ble_eq_true rfl) dX9_set_12 (fun y12 V12 H locs p12 X => ?_)
    exact srI G X (rfl) dX9_set_15 (by (have hb := setX_bad (f := V 15) (show setC w v = -2 from by unfold setC; exact if_pos (by omega)) (by decide); exact ⟨sAg.mono p12.1 (by decide), by rw [p12.2]; exact hb.1, by rw [p12.1 15 (by decide)]; exact hb.2⟩))
  · skip
    refine lv_iload_n hx hb dX9_set_4 rfl (lv_at hl 1 rfl) ?_
    refine lv_iconst (v := 2) hx hb dX9_set_5 (by decide) ?_
    refine sIle (tgt := 16) hx hb (rfl : Int32.toInt w = _) (by decide : (2 : Int32).toInt = 2) dX9_set_6 (by decide) (fun c6 => ?_) (fun c6 => ?_)
    · skip
      refine lv_iload_n hx hb dX9_set_16 rfl (lv_at hl 2 rfl) ?_
      refine sZge (tgt := 27) hx hb (rfl : Int32.toInt v = _) dX9_set_17 (by decide) (fun c17 => ?_) (fun c17 => ?_)
      · skip
        refine lv_iload_n hx hb dX9_set_27 rfl (lv_at hl 1 rfl) ?_
        refine sZne (tgt := 36) hx hb (rfl : Int32.toInt w = _) dX9_set_28 (by decide) (fun c28 => ?_) (fun c28 => ?_)
        · skip
          refine lv_iload_n hx hb dX9_set_36 rfl (lv_at hl 1 rfl) ?_
          refine lv_iconst (v := 1) hx hb dX9_set_37 (by decide) ?_
          refine sIne (tgt := 46) hx hb (rfl : Int32.toInt w = _) (by decide : (1 : Int32).toInt = 1) dX9_set_38 (by decide) (fun c38 => ?_) (fun c38 => ?_)
          · skip
            refine lv_iconst (v := 3) hx hb dX9_set_46 (by decide) ?_
            refine lv_istore_n (lv' := [(3, .int 3), (0, .ref (a 0)), (1, .int w), (2, .int v)]) hx hb dX9_set_47 rfl hl (by decide) rfl (fun ls hl => ?_)
            refine lv_iload_n hx hb dX9_set_48 rfl (lv_at hl 3 rfl) ?_
            refine lv_iload_n hx hb dX9_set_49 rfl (lv_at hl 0 rfl) ?_
            refine sIle (tgt := 60) hx hb (rfl : Int32.toInt v = _) (by decide : (3 : Int32).toInt = 3) dX9_set_50 (by decide) (fun c50 => ?_) (fun c50 => ?_)
            · skip
              refine lv_aload_n hx hb dX9_set_60 rfl (lv_at hl 1 rfl) ?_
              refine lv_iload_n hx hb dX9_set_61 rfl (lv_at hl 2 rfl) ?_
              refine scI (ci := 8) (As := [.int w]) (rest := []) G X (k_nowOf ha V w) iy_X9_nowOf ml_X9_140 rfl rfl rfl rfl hl.1 (by decide) (by decide) (Nat.le_of_ble_eq_true rfl) dX9_set_62 (fun y62 V62 H locs p62 X => ?_)
              obtain ⟨p62, z62⟩ := p62
              subst V62
              refine lv_istore (lv' := [(4, .int y62), (3, .int 3), (0, .ref (a 0)), (1, .int w), (2, .int v)]) hx hb dX9_set_65 hl (by decide) rfl (fun ls hl => ?_)
              refine lv_iload_n hx hb dX9_set_67 rfl (lv_at hl 3 rfl) ?_
              refine sZne (tgt := 85) hx hb (rfl : Int32.toInt w = _) dX9_set_68 (by decide) (fun c68 => ?_) (fun c68 => ?_)
              · skip
                refine lv_iload_n hx hb dX9_set_85 rfl (lv_at hl 3 rfl) ?_
                refine lv_iconst (v := 1) hx hb dX9_set_86 (by decide) ?_
                refine sIne (tgt := 104) hx hb (rfl : Int32.toInt w = _) (by decide : (1 : Int32).toInt = 1) dX9_set_87 (by decide) (fun c87 => ?_) (fun c87 => ?_)
                · skip
                  refine lv_aload_n hx hb dX9_set_104 rfl (lv_at hl 2 rfl) ?_
                  refine sgR G X 0 0 rfl rfl fl_X9_10 dX9_set_105 ?_
                  refine sgR G X 2 3 rfl rfl fl_X9_143 dX9_set_108 ?_
                  refine lv_iload_n hx hb dX9_set_111 rfl (lv_at hl 4 rfl) ?_
                  refine spI G X 15 2 rfl rfl fp_X9_150 dX9_set_112 (fun H locs X => ?_)
                  refine lv_iload hx hb dX9_set_115 (lv_at hl 0 rfl) ?_
                  exact srI G X (rfl) dX9_set_117 (by first | (exfalso; omega) | (have ho := setX_ok (f := V 15) (show setC w v = 0 from by unfold setC; rw [if_neg (by omega), if_neg (by omega), if_neg (by (repeat' split) <;> omega)]); exact ⟨sAg.rf.up (by decide), by rw [ho.1, p62], by rw [ho.2, sUp_s]; (repeat' split) <;> first | rfl | (exfalso; omega)⟩))
                · skip
                  refine lv_aload_n hx hb dX9_set_90 rfl (lv_at hl 2 rfl) ?_
                  refine sgR G X 0 0 rfl rfl fl_X9_10 dX9_set_91 ?_
                  refine sgR G X 2 3 rfl rfl fl_X9_143 dX9_set_94 ?_
                  refine lv_iload_n hx hb dX9_set_97 rfl (lv_at hl 4 rfl) ?_
                  refine spI G X 15 1 rfl rfl fp_X9_148 dX9_set_98 (fun H locs X => ?_)
                  refine lv_goto (tgt := 115) hx hb dX9_set_101 (by decide) ?_
                  refine lv_iload hx hb dX9_set_115 (lv_at hl 0 rfl) ?_
                  exact srI G X (rfl) dX9_set_117 (by first | (exfalso; omega) | (have ho := setX_ok (f := V 15) (show setC w v = 0 from by unfold setC; rw [if_neg (by omega), if_neg (by omega), if_neg (by (repeat' split) <;> omega)]); exact ⟨sAg.rf.up (by decide), by rw [ho.1, p62], by rw [ho.2, sUp_s]; (repeat' split) <;> first | rfl | (exfalso; omega)⟩))
              · skip
                refine lv_aload_n hx hb dX9_set_71 rfl (lv_at hl 2 rfl) ?_
                refine sgR G X 0 0 rfl rfl fl_X9_10 dX9_set_72 ?_
                refine sgR G X 2 3 rfl rfl fl_X9_143 dX9_set_75 ?_
                refine lv_iload_n hx hb dX9_set_78 rfl (lv_at hl 4 rfl) ?_
                refine spI G X 15 0 rfl rfl fp_X9_146 dX9_set_79 (fun H locs X => ?_)
                refine lv_goto (tgt := 115) hx hb dX9_set_82 (by decide) ?_
                refine lv_iload hx hb dX9_set_115 (lv_at hl 0 rfl) ?_
                exact srI G X (rfl) dX9_set_117 (by first | (exfalso; omega) | (have ho := setX_ok (f := V 15) (show setC w v = 0 from by unfold setC; rw [if_neg (by omega), if_neg (by omega), if_neg (by (repeat' split) <;> omega)]); exact ⟨sAg.rf.up (by decide), by rw [ho.1, p62], by rw [ho.2, sUp_s]; (repeat' split) <;> first | rfl | (exfalso; omega)⟩))
            · skip
              refine lv_aload_n hx hb dX9_set_53 rfl (lv_at hl 1 rfl) ?_
              refine lv_bipush (v := (-6)) hx hb dX9_set_54 (by decide) ?_
              refine scI (ci := 8) (As := [.int (-6)]) (rest := []) G X (k_refuse ha V (-6)) iy_X9_refuse ml_X9_57 rfl rfl rfl rfl hl.1 (by decide) (by decide) (Nat.le_of_ble_eq_true rfl) dX9_set_56 (fun y56 V56 H locs p56 X => ?_)
              exact srI G X (rfl) dX9_set_59 (by first | (exfalso; omega) | (have hb := setX_bad (f := V 15) (show setC w v = -6 from by unfold setC; rw [if_neg (by omega), if_neg (by omega), if_pos (by (repeat' split) <;> omega)]) (by decide); exact ⟨sAg.mono p56.1 (by decide), by rw [p56.2]; exact hb.1, by rw [p56.1 15 (by decide)]; exact hb.2⟩))
          · skip
            refine lv_bipush (v := 20) hx hb dX9_set_41 (by decide) ?_
            refine lv_goto (tgt := 47) hx hb dX9_set_43 (by decide) ?_
            refine lv_istore_n (lv' := [(3, .int 20), (0, .ref (a 0)), (1, .int w), (2, .int v)]) hx hb dX9_set_47 rfl hl (by decide) rfl (fun ls hl => ?_)
            refine lv_iload_n hx hb dX9_set_48 rfl (lv_at hl 3 rfl) ?_
            refine lv_iload_n hx hb dX9_set_49 rfl (lv_at hl 0 rfl) ?_
            refine sIle (tgt := 60) hx hb (rfl : Int32.toInt v = _) (by decide : (20 : Int32).toInt = 20) dX9_set_50 (by decide) (fun c50 => ?_) (fun c50 => ?_)
            · skip
              refine lv_aload_n hx hb dX9_set_60 rfl (lv_at hl 1 rfl) ?_
              refine lv_iload_n hx hb dX9_set_61 rfl (lv_at hl 2 rfl) ?_
              refine scI (ci := 8) (As := [.int w]) (rest := []) G X (k_nowOf ha V w) iy_X9_nowOf ml_X9_140 rfl rfl rfl rfl hl.1 (by decide) (by decide) (Nat.le_of_ble_eq_true rfl) dX9_set_62 (fun y62 V62 H locs p62 X => ?_)
              obtain ⟨p62, z62⟩ := p62
              subst V62
              refine lv_istore (lv' := [(4, .int y62), (3, .int 20), (0, .ref (a 0)), (1, .int w), (2, .int v)]) hx hb dX9_set_65 hl (by decide) rfl (fun ls hl => ?_)
              refine lv_iload_n hx hb dX9_set_67 rfl (lv_at hl 3 rfl) ?_
              refine sZne (tgt := 85) hx hb (rfl : Int32.toInt w = _) dX9_set_68 (by decide) (fun c68 => ?_) (fun c68 => ?_)
              · skip
                refine lv_iload_n hx hb dX9_set_85 rfl (lv_at hl 3 rfl) ?_
                refine lv_iconst (v := 1) hx hb dX9_set_86 (by decide) ?_
                refine sIne (tgt := 104) hx hb (rfl : Int32.toInt w = _) (by decide : (1 : Int32).toInt = 1) dX9_set_87 (by decide) (fun c87 => ?_) (fun c87 => ?_)
                · skip
                  refine lv_aload_n hx hb dX9_set_104 rfl (lv_at hl 2 rfl) ?_
                  refine sgR G X 0 0 rfl rfl fl_X9_10 dX9_set_105 ?_
                  refine sgR G X 2 3 rfl rfl fl_X9_143 dX9_set_108 ?_
                  refine lv_iload_n hx hb dX9_set_111 rfl (lv_at hl 4 rfl) ?_
                  refine spI G X 15 2 rfl rfl fp_X9_150 dX9_set_112 (fun H locs X => ?_)
                  refine lv_iload hx hb dX9_set_115 (lv_at hl 0 rfl) ?_
                  exact srI G X (rfl) dX9_set_117 (by first | (exfalso; omega) | (have ho := setX_ok (f := V 15) (show setC w v = 0 from by unfold setC; rw [if_neg (by omega), if_neg (by omega), if_neg (by (repeat' split) <;> omega)]); exact ⟨sAg.rf.up (by decide), by rw [ho.1, p62], by rw [ho.2, sUp_s]; (repeat' split) <;> first | rfl | (exfalso; omega)⟩))
                · skip
                  refine lv_aload_n hx hb dX9_set_90 rfl (lv_at hl 2 rfl) ?_
                  refine sgR G X 0 0 rfl rfl fl_X9_10 dX9_set_91 ?_
                  refine sgR G X 2 3 rfl rfl fl_X9_143 dX9_set_94 ?_
                  refine lv_iload_n hx hb dX9_set_97 rfl (lv_at hl 4 rfl) ?_
                  refine spI G X 15 1 rfl rfl fp_X9_148 dX9_set_98 (fun H locs X => ?_)
                  refine lv_goto (tgt := 115) hx hb dX9_set_101 (by decide) ?_
                  refine lv_iload hx hb dX9_set_115 (lv_at hl 0 rfl) ?_
                  exact srI G X (rfl) dX9_set_117 (by first | (exfalso; omega) | (have ho := setX_ok (f := V 15) (show setC w v = 0 from by unfold setC; rw [if_neg (by omega), if_neg (by omega), if_neg (by (repeat' split) <;> omega)]); exact ⟨sAg.rf.up (by decide), by rw [ho.1, p62], by rw [ho.2, sUp_s]; (repeat' split) <;> first | rfl | (exfalso; omega)⟩))
              · skip
                refine lv_aload_n hx hb dX9_set_71 rfl (lv_at hl 2 rfl) ?_
                refine sgR G X 0 0 rfl rfl fl_X9_10 dX9_set_72 ?_
                refine sgR G X 2 3 rfl rfl fl_X9_143 dX9_set_75 ?_
                refine lv_iload_n hx hb dX9_set_78 rfl (lv_at hl 4 rfl) ?_
                refine spI G X 15 0 rfl rfl fp_X9_146 dX9_set_79 (fun H locs X => ?_)
                refine lv_goto (tgt := 115) hx hb dX9_set_82 (by decide) ?_
                refine lv_iload hx hb dX9_set_115 (lv_at hl 0 rfl) ?_
                exact srI G X (rfl) dX9_set_117 (by first | (exfalso; omega) | (have ho := setX_ok (f := V 15) (show setC w v = 0 from by unfold setC; rw [if_neg (by omega), if_neg (by omega), if_neg (by (repeat' split) <;> omega)]); exact ⟨sAg.rf.up (by decide), by rw [ho.1, p62], by rw [ho.2, sUp_s]; (repeat' split) <;> first | rfl | (exfalso; omega)⟩))
            · skip
              refine lv_aload_n hx hb dX9_set_53 rfl (lv_at hl 1 rfl) ?_
              refine lv_bipush (v := (-6)) hx hb dX9_set_54 (by decide) ?_
              refine scI (ci := 8) (As := [.int (-6)]) (rest := []) G X (k_refuse ha V (-6)) iy_X9_refuse ml_X9_57 rfl rfl rfl rfl hl.1 (by decide) (by decide) (Nat.le_of_ble_eq_true rfl) dX9_set_56 (fun y56 V56 H locs p56 X => ?_)
              exact srI G X (rfl) dX9_set_59 (by first | (exfalso; omega) | (have hb := setX_bad (f := V 15) (show setC w v = -6 from by unfold setC; rw [if_neg (by omega), if_neg (by omega), if_pos (by (repeat' split) <;> omega)]) (by decide); exact ⟨sAg.mono p56.1 (by decide), by rw [p56.2]; exact hb.1, by rw [p56.1 15 (by decide)]; exact hb.2⟩))
        · skip
          refine lv_bipush (v := 40) hx hb dX9_set_31 (by decide) ?_
          refine lv_goto (tgt := 47) hx hb dX9_set_33 (by decide) ?_
          refine lv_istore_n (lv' := [(3, .int 40), (0, .ref (a 0)), (1, .int w), (2, .int v)]) hx hb dX9_set_47 rfl hl (by decide) rfl (fun ls hl => ?_)
          refine lv_iload_n hx hb dX9_set_48 rfl (lv_at hl 3 rfl) ?_
          refine lv_iload_n hx hb dX9_set_49 rfl (lv_at hl 0 rfl) ?_
          refine sIle (tgt := 60) hx hb (rfl : Int32.toInt v = _) (by decide : (40 : Int32).toInt = 40) dX9_set_50 (by decide) (fun c50 => ?_) (fun c50 => ?_)
          · skip
            refine lv_aload_n hx hb dX9_set_60 rfl (lv_at hl 1 rfl) ?_
            refine lv_iload_n hx hb dX9_set_61 rfl (lv_at hl 2 rfl) ?_
            refine scI (ci := 8) (As := [.int w]) (rest := []) G X (k_nowOf ha V w) iy_X9_nowOf ml_X9_140 rfl rfl rfl rfl hl.1 (by decide) (by decide) (Nat.le_of_ble_eq_true rfl) dX9_set_62 (fun y62 V62 H locs p62 X => ?_)
            obtain ⟨p62, z62⟩ := p62
            subst V62
            refine lv_istore (lv' := [(4, .int y62), (3, .int 40), (0, .ref (a 0)), (1, .int w), (2, .int v)]) hx hb dX9_set_65 hl (by decide) rfl (fun ls hl => ?_)
            refine lv_iload_n hx hb dX9_set_67 rfl (lv_at hl 3 rfl) ?_
            refine sZne (tgt := 85) hx hb (rfl : Int32.toInt w = _) dX9_set_68 (by decide) (fun c68 => ?_) (fun c68 => ?_)
            · skip
              refine lv_iload_n hx hb dX9_set_85 rfl (lv_at hl 3 rfl) ?_
              refine lv_iconst (v := 1) hx hb dX9_set_86 (by decide) ?_
              refine sIne (tgt := 104) hx hb (rfl : Int32.toInt w = _) (by decide : (1 : Int32).toInt = 1) dX9_set_87 (by decide) (fun c87 => ?_) (fun c87 => ?_)
              · skip
                refine lv_aload_n hx hb dX9_set_104 rfl (lv_at hl 2 rfl) ?_
                refine sgR G X 0 0 rfl rfl fl_X9_10 dX9_set_105 ?_
                refine sgR G X 2 3 rfl rfl fl_X9_143 dX9_set_108 ?_
                refine lv_iload_n hx hb dX9_set_111 rfl (lv_at hl 4 rfl) ?_
                refine spI G X 15 2 rfl rfl fp_X9_150 dX9_set_112 (fun H locs X => ?_)
                refine lv_iload hx hb dX9_set_115 (lv_at hl 0 rfl) ?_
                exact srI G X (rfl) dX9_set_117 (by first | (exfalso; omega) | (have ho := setX_ok (f := V 15) (show setC w v = 0 from by unfold setC; rw [if_neg (by omega), if_neg (by omega), if_neg (by (repeat' split) <;> omega)]); exact ⟨sAg.rf.up (by decide), by rw [ho.1, p62], by rw [ho.2, sUp_s]; (repeat' split) <;> first | rfl | (exfalso; omega)⟩))
              · skip
                refine lv_aload_n hx hb dX9_set_90 rfl (lv_at hl 2 rfl) ?_
                refine sgR G X 0 0 rfl rfl fl_X9_10 dX9_set_91 ?_
                refine sgR G X 2 3 rfl rfl fl_X9_143 dX9_set_94 ?_
                refine lv_iload_n hx hb dX9_set_97 rfl (lv_at hl 4 rfl) ?_
                refine spI G X 15 1 rfl rfl fp_X9_148 dX9_set_98 (fun H locs X => ?_)
                refine lv_goto (tgt := 115) hx hb dX9_set_101 (by decide) ?_
                refine lv_iload hx hb dX9_set_115 (lv_at hl 0 rfl) ?_
                exact srI G X (rfl) dX9_set_117 (by first | (exfalso; omega) | (have ho := setX_ok (f := V 15) (show setC w v = 0 from by unfold setC; rw [if_neg (by omega), if_neg (by omega), if_neg (by (repeat' split) <;> omega)]); exact ⟨sAg.rf.up (by decide), by rw [ho.1, p62], by rw [ho.2, sUp_s]; (repeat' split) <;> first | rfl | (exfalso; omega)⟩))
            · skip
              refine lv_aload_n hx hb dX9_set_71 rfl (lv_at hl 2 rfl) ?_
              refine sgR G X 0 0 rfl rfl fl_X9_10 dX9_set_72 ?_
              refine sgR G X 2 3 rfl rfl fl_X9_143 dX9_set_75 ?_
              refine lv_iload_n hx hb dX9_set_78 rfl (lv_at hl 4 rfl) ?_
              refine spI G X 15 0 rfl rfl fp_X9_146 dX9_set_79 (fun H locs X => ?_)
              refine lv_goto (tgt := 115) hx hb dX9_set_82 (by decide) ?_
              refine lv_iload hx hb dX9_set_115 (lv_at hl 0 rfl) ?_
              exact srI G X (rfl) dX9_set_117 (by first | (exfalso; omega) | (have ho := setX_ok (f := V 15) (show setC w v = 0 from by unfold setC; rw [if_neg (by omega), if_neg (by omega), if_neg (by (repeat' split) <;> omega)]); exact ⟨sAg.rf.up (by decide), by rw [ho.1, p62], by rw [ho.2, sUp_s]; (repeat' split) <;> first | rfl | (exfalso; omega)⟩))
          · skip
            refine lv_aload_n hx hb dX9_set_53 rfl (lv_at hl 1 rfl) ?_
            refine lv_bipush (v := (-6)) hx hb dX9_set_54 (by decide) ?_
            refine scI (ci := 8) (As := [.int (-6)]) (rest := []) G X (k_refuse ha V (-6)) iy_X9_refuse ml_X9_57 rfl rfl rfl rfl hl.1 (by decide) (by decide) (Nat.le_of_ble_eq_true rfl) dX9_set_56 (fun y56 V56 H locs p56 X => ?_)
            exact srI G X (rfl) dX9_set_59 (by first | (exfalso; omega) | (have hb := setX_bad (f := V 15) (show setC w v = -6 from by unfold setC; rw [if_neg (by omega), if_neg (by omega), if_pos (by (repeat' split) <;> omega)]) (by decide); exact ⟨sAg.mono p56.1 (by decide), by rw [p56.2]; exact hb.1, by rw [p56.1 15 (by decide)]; exact hb.2⟩))
      · skip
        refine lv_aload_n hx hb dX9_set_20 rfl (lv_at hl 0 rfl) ?_
        refine lv_bipush (v := (-4)) hx hb dX9_set_21 (by decide) ?_
        refine scI (ci := 8) (As := [.int (-4)]) (rest := []) G X (k_refuse ha V (-4)) iy_X9_refuse ml_X9_57 rfl rfl rfl rfl hl.1 (by decide) (by decide) (Nat.le_of_ble_eq_true rfl) dX9_set_23 (fun y23 V23 H locs p23 X => ?_)
        exact srI G X (rfl) dX9_set_26 (by (have hb := setX_bad (f := V 15) (show setC w v = -4 from by unfold setC; rw [if_neg (by omega), if_pos (by omega)]) (by decide); exact ⟨sAg.mono p23.1 (by decide), by rw [p23.2]; exact hb.1, by rw [p23.1 15 (by decide)]; exact hb.2⟩))
    · skip
      refine lv_aload_n hx hb dX9_set_9 rfl (lv_at hl 0 rfl) ?_
      refine lv_bipush (v := (-2)) hx hb dX9_set_10 (by decide) ?_
      refine scI (ci := 8) (As := [.int (-2)]) (rest := []) G X (k_refuse ha V (-2)) iy_X9_refuse ml_X9_57 rfl rfl rfl rfl hl.1 (by decide) (by decide) (Nat.le_of_ble_eq_true rfl) dX9_set_12 (fun y12 V12 H locs p12 X => ?_)
      exact srI G X (rfl) dX9_set_15 (by (have hb := setX_bad (f := V 15) (show setC w v = -2 from by unfold setC; exact if_pos (by omega)) (by decide); exact ⟨sAg.mono p12.1 (by decide), by rw [p12.2]; exact hb.1, by rw [p12.1 15 (by decide)]; exact hb.2⟩))
def q_fan (V : sV) (v : Int32) : Int32 → sV → Prop := fun x V1 => sAg [1, 15] V V1 ∧ x = fanX v ∧ V1 15 = fanN (V 15) v
set_option maxRecDepth 100000 in
set_option maxHeartbeats 4000000 in
theorem k_fan {l : Launch} {D : va_G} {cI : ClassId} {a : Nat → Nat} (ha : sInj SX a) (V : sV) (v : Int32) : sMI l D cI SX a V yX9_fan cX9_fan 2 .int 2 [.ref (a 0), .int v] (q_fan V v) := by
  refine sMIof ha (by decide +kernel) (Nat.le_of_ble_eq_true rfl) ?_
  intro p e s m below meth c ls G X hl
  obtain ⟨hx, hb, hml, hown, hts, hlocks, hr, hK⟩ := id G
  have hl : lv_has ls 2 [(0, .ref (a 0)), (1, .int v)] := hl
  refine lv_iload_n hx hb dX9_fan_0 rfl (lv_at hl 1 rfl) ?_
  refine lv_bipush (v := (-50)) hx hb dX9_fan_1 (by decide) ?_
  refine sIge (tgt := 13) hx hb (rfl : Int32.toInt v = _) (by decide : ((-50) : Int32).toInt = -50) dX9_fan_3 (by decide) (fun c3 => ?_) (fun c3 => ?_)
  · skip
    refine lv_iload_n hx hb dX9_fan_13 rfl (lv_at hl 1 rfl) ?_
    refine lv_bipush (v := 50) hx hb dX9_fan_14 (by decide) ?_
    refine sIle (tgt := 26) hx hb (rfl : Int32.toInt v = _) (by decide : (50 : Int32).toInt = 50) dX9_fan_16 (by decide) (fun c16 => ?_) (fun c16 => ?_)
    · skip
      refine lv_aload_n hx hb dX9_fan_26 rfl (lv_at hl 0 rfl) ?_
      refine sgR G X 0 0 rfl rfl fl_X9_10 dX9_fan_27 ?_
      refine sgR G X 2 3 rfl rfl fl_X9_143 dX9_fan_30 ?_
      refine lv_iload_n hx hb dX9_fan_33 rfl (lv_at hl 1 rfl) ?_
      refine spI G X 15 3 rfl rfl fp_X9_152 dX9_fan_34 (fun H locs X => ?_)
      refine lv_iload_n hx hb dX9_fan_37 rfl (lv_at hl 1 rfl) ?_
      refine lv_bipush (v := 50) hx hb dX9_fan_38 (by decide) ?_
      refine lv_iadd hx hb dX9_fan_40 ?_
      refine lv_topi (fun x40 e40 => ?_)
      exact srI G X (rfl) dX9_fan_41 (by exact ⟨sAg.rf.up (by decide), by rw [e40]; unfold fanX; rw [if_neg (by omega), if_neg (by omega)], by rw [sUp_s]; unfold fanN; rw [if_neg (by omega), if_neg (by omega)]⟩)
    · skip
      refine lv_aload_n hx hb dX9_fan_19 rfl (lv_at hl 0 rfl) ?_
      refine lv_bipush (v := (-6)) hx hb dX9_fan_20 (by decide) ?_
      refine scI (ci := 8) (As := [.int (-6)]) (rest := []) G X (k_refuse ha V (-6)) iy_X9_refuse ml_X9_57 rfl rfl rfl rfl hl.1 (by decide) (by decide) (Nat.le_of_ble_eq_true rfl) dX9_fan_22 (fun y22 V22 H locs p22 X => ?_)
      exact srI G X (rfl) dX9_fan_25 (by exact ⟨sAg.mono p22.1 (by decide), by rw [p22.2]; unfold fanX; rw [if_neg (by omega), if_pos c16], by rw [p22.1 15 (by decide)]; unfold fanN; rw [if_neg (by omega), if_pos c16]⟩)
  · skip
    refine lv_aload_n hx hb dX9_fan_6 rfl (lv_at hl 0 rfl) ?_
    refine lv_bipush (v := (-4)) hx hb dX9_fan_7 (by decide) ?_
    refine scI (ci := 8) (As := [.int (-4)]) (rest := []) G X (k_refuse ha V (-4)) iy_X9_refuse ml_X9_57 rfl rfl rfl rfl hl.1 (by decide) (by decide) (Nat.le_of_ble_eq_true rfl) dX9_fan_9 (fun y9 V9 H locs p9 X => ?_)
    exact srI G X (rfl) dX9_fan_12 (by exact ⟨sAg.mono p9.1 (by decide), by rw [p9.2]; unfold fanX; rw [if_pos c3], by rw [p9.1 15 (by decide)]; unfold fanN; rw [if_pos c3]⟩)
def q_now (V : sV) (w : Int32) : Int32 → sV → Prop := fun x V1 => sAg [1] V V1 ∧ x = nowX (V 15) w
set_option maxRecDepth 100000 in
set_option maxHeartbeats 4000000 in
theorem k_now {l : Launch} {D : va_G} {cI : ClassId} {a : Nat → Nat} (ha : sInj SX a) (V : sV) (w : Int32) : sMI l D cI SX a V yX9_now cX9_now 2 .int 3 [.ref (a 0), .int w] (q_now V w) := by
  refine sMIof ha (by decide +kernel) (Nat.le_of_ble_eq_true rfl) ?_
  intro p e s m below meth c ls G X hl
  obtain ⟨hx, hb, hml, hown, hts, hlocks, hr, hK⟩ := id G
  have hl : lv_has ls 2 [(0, .ref (a 0)), (1, .int w)] := hl
  refine lv_iload_n hx hb dX9_now_0 rfl (lv_at hl 1 rfl) ?_
  refine sZlt (tgt := 9) hx hb (rfl : Int32.toInt w = _) dX9_now_1 (by decide) (fun c1 => ?_) (fun c1 => ?_)
  · skip
    refine lv_aload_n hx hb dX9_now_9 rfl (lv_at hl 0 rfl) ?_
    refine lv_bipush (v := (-2)) hx hb dX9_now_10 (by decide) ?_
    refine scI (ci := 8) (As := [.int (-2)]) (rest := []) G X (k_refuseFar ha V (-2)) iy_X9_refuseFar ml_X9_155 rfl rfl rfl rfl hl.1 (by decide) (by decide) (Nat.le_of_ble_eq_true rfl) dX9_now_12 (fun y12 V12 H locs p12 X => ?_)
    exact srI G X (rfl) dX9_now_15 (by exact ⟨p12.1, by rw [p12.2]; unfold nowX; (repeat' split) <;> first | rfl | (exfalso; omega)⟩)
  · skip
    refine lv_iload_n hx hb dX9_now_4 rfl (lv_at hl 1 rfl) ?_
    refine lv_iconst (v := 3) hx hb dX9_now_5 (by decide) ?_
    refine sIle (tgt := 16) hx hb (rfl : Int32.toInt w = _) (by decide : (3 : Int32).toInt = 3) dX9_now_6 (by decide) (fun c6 => ?_) (fun c6 => ?_)
    · skip
      refine lv_aload_n hx hb dX9_now_16 rfl (lv_at hl 0 rfl) ?_
      refine lv_iload_n hx hb dX9_now_17 rfl (lv_at hl 1 rfl) ?_
      refine scI (ci := 8) (As := [.int w]) (rest := []) G X (k_nowOf ha V w) iy_X9_nowOf ml_X9_140 rfl rfl rfl rfl hl.1 (by decide) (by decide) (Nat.le_of_ble_eq_true rfl) dX9_now_18 (fun y18 V18 H locs p18 X => ?_)
      obtain ⟨p18, z18⟩ := p18
      subst V18
      exact srI G X (rfl) dX9_now_21 (by exact ⟨sAg.rf, by rw [p18]; unfold nowX; rw [if_neg (by omega), if_neg (by omega)]⟩)
    · skip
      refine lv_aload_n hx hb dX9_now_9 rfl (lv_at hl 0 rfl) ?_
      refine lv_bipush (v := (-2)) hx hb dX9_now_10 (by decide) ?_
      refine scI (ci := 8) (As := [.int (-2)]) (rest := []) G X (k_refuseFar ha V (-2)) iy_X9_refuseFar ml_X9_155 rfl rfl rfl rfl hl.1 (by decide) (by decide) (Nat.le_of_ble_eq_true rfl) dX9_now_12 (fun y12 V12 H locs p12 X => ?_)
      exact srI G X (rfl) dX9_now_15 (by exact ⟨p12.1, by rw [p12.2]; unfold nowX; (repeat' split) <;> first | rfl | (exfalso; omega)⟩)
def q_size (V : sV) (i v : Int32) : Int32 → sV → Prop := fun x V1 => sAg [1, 7] V V1 ∧ (sFr V → x = -1)
set_option maxRecDepth 100000 in
set_option maxHeartbeats 4000000 in
theorem k_size {l : Launch} {D : va_G} {cI : ClassId} {a : Nat → Nat} (ha : sInj SX a) (V : sV) (i v : Int32) : sMI l D cI SX a V yX9_size cX9_size 4 .int 2 [.ref (a 0), .int i, .int v] (q_size V i v) := by
  refine sMIof ha (by decide +kernel) (Nat.le_of_ble_eq_true rfl) ?_
  intro p e s m below meth c ls G X hl
  obtain ⟨hx, hb, hml, hown, hts, hlocks, hr, hK⟩ := id G
  have hl : lv_has ls 4 [(0, .ref (a 0)), (1, .int i), (2, .int v)] := hl
  refine lv_aload_n hx hb dX9_size_0 rfl (lv_at hl 0 rfl) ?_
  refine sgR G X 0 0 rfl rfl fl_X9_10 dX9_size_1 ?_
  refine sgR G X 2 1 rfl rfl fl_X9_89 dX9_size_4 ?_
  refine lv_iload_n hx hb dX9_size_7 rfl (lv_at hl 1 rfl) ?_
  refine scI (ci := 2) (As := [.int i]) (rest := []) G X (k_has ha V i) iy_X2_has ml_X9_93 rfl rfl rfl rfl hl.1 (by decide) (by decide) (Nat.le_of_ble_eq_true rfl) dX9_size_8 (fun y8 V8 H locs p8 X => ?_)
  obtain ⟨p8, z8⟩ := p8
  subst V8
  refine sZne (tgt := 20) hx hb (rfl : Int32.toInt y8 = _) dX9_size_11 (by decide) (fun c11 => ?_) (fun c11 => ?_)
  · skip
    refine lv_iload_n hx hb dX9_size_20 rfl (lv_at hl 2 rfl) ?_
    refine sZge (tgt := 31) hx hb (rfl : Int32.toInt v = _) dX9_size_21 (by decide) (fun c21 => ?_) (fun c21 => ?_)
    · skip
      refine lv_iload_n hx hb dX9_size_31 rfl (lv_at hl 2 rfl) ?_
      refine lv_bipush (v := 9) hx hb dX9_size_32 (by decide) ?_
      refine sIle (tgt := 44) hx hb (rfl : Int32.toInt v = _) (by decide : (9 : Int32).toInt = 9) dX9_size_34 (by decide) (fun c34 => ?_) (fun c34 => ?_)
      · skip
        refine lv_aload_n hx hb dX9_size_44 rfl (lv_at hl 0 rfl) ?_
        refine sgR G X 0 0 rfl rfl fl_X9_10 dX9_size_45 ?_
        refine sgR G X 2 1 rfl rfl fl_X9_89 dX9_size_48 ?_
        refine sgR G X 3 3 rfl rfl fl_X9_114 dX9_size_51 ?_
        refine lv_iload_n hx hb dX9_size_54 rfl (lv_at hl 1 rfl) ?_
        refine scSI (As := [.ref (a 7), .int i]) (rest := []) G X (k_at ha V 7 10 rfl (by first | decide | assumption) i) iy_X5_at ml_X9_102 rfl rfl hl.1 (by decide) (by decide) (Nat.le_of_ble_eq_true rfl) dX9_size_55 (fun y55 V55 H locs p55 X => ?_)
        obtain ⟨p55, z55⟩ := p55
        subst V55
        refine lv_istore_n (lv' := [(3, .int y55), (0, .ref (a 0)), (1, .int i), (2, .int v)]) hx hb dX9_size_58 rfl hl (by decide) rfl (fun ls hl => ?_)
        refine lv_aload_n hx hb dX9_size_59 rfl (lv_at hl 1 rfl) ?_
        refine sgR G X 0 0 rfl rfl fl_X9_10 dX9_size_60 ?_
        refine sgR G X 2 1 rfl rfl fl_X9_89 dX9_size_63 ?_
        refine sgR G X 3 3 rfl rfl fl_X9_114 dX9_size_66 ?_
        refine lv_iload_n hx hb dX9_size_69 rfl (lv_at hl 2 rfl) ?_
        refine lv_iload_n hx hb dX9_size_70 rfl (lv_at hl 3 rfl) ?_
        refine scSV (As := [.ref (a 7), .int i, .int v]) (rest := []) G X (k_put ha V 7 10 rfl (by first | decide | assumption) i v) iy_X5_put ml_X9_158 rfl rfl hl.1 (by decide) (by decide) (Nat.le_of_ble_eq_true rfl) dX9_size_71 (fun V71 H locs p71 X => ?_)
        refine lv_iload_n hx hb dX9_size_74 rfl (lv_at hl 0 rfl) ?_
        exact srI G X (rfl) dX9_size_75 (by exact ⟨by rw [show V71 = _ from p71]; exact sAg.rf.up (by decide), (fun hf => by exfalso; have hg := hf.t; omega)⟩)
      · skip
        refine lv_aload_n hx hb dX9_size_37 rfl (lv_at hl 0 rfl) ?_
        refine lv_bipush (v := (-6)) hx hb dX9_size_38 (by decide) ?_
        refine scI (ci := 8) (As := [.int (-6)]) (rest := []) G X (k_refuse ha V (-6)) iy_X9_refuse ml_X9_57 rfl rfl rfl rfl hl.1 (by decide) (by decide) (Nat.le_of_ble_eq_true rfl) dX9_size_40 (fun y40 V40 H locs p40 X => ?_)
        exact srI G X (rfl) dX9_size_43 (by exact ⟨sAg.mono p40.1 (by decide), (fun hf => by exfalso; have hg := hf.t; omega)⟩)
    · skip
      refine lv_aload_n hx hb dX9_size_24 rfl (lv_at hl 0 rfl) ?_
      refine lv_bipush (v := (-4)) hx hb dX9_size_25 (by decide) ?_
      refine scI (ci := 8) (As := [.int (-4)]) (rest := []) G X (k_refuse ha V (-4)) iy_X9_refuse ml_X9_57 rfl rfl rfl rfl hl.1 (by decide) (by decide) (Nat.le_of_ble_eq_true rfl) dX9_size_27 (fun y27 V27 H locs p27 X => ?_)
      exact srI G X (rfl) dX9_size_30 (by exact ⟨sAg.mono p27.1 (by decide), (fun hf => by exfalso; have hg := hf.t; omega)⟩)
  · skip
    refine lv_aload_n hx hb dX9_size_14 rfl (lv_at hl 0 rfl) ?_
    refine lv_iconst (v := (-1)) hx hb dX9_size_15 (by decide) ?_
    refine scI (ci := 8) (As := [.int (-1)]) (rest := []) G X (k_refuse ha V (-1)) iy_X9_refuse ml_X9_57 rfl rfl rfl rfl hl.1 (by decide) (by decide) (Nat.le_of_ble_eq_true rfl) dX9_size_16 (fun y16 V16 H locs p16 X => ?_)
    exact srI G X (rfl) dX9_size_19 (by exact ⟨sAg.mono p16.1 (by decide), fun _ => p16.2⟩)
def q_outside (V : sV) (i : Int32) : Int32 → sV → Prop := fun x V1 => sAg [1] V V1 ∧ (sFr V → x = 1000000001)
set_option maxRecDepth 100000 in
set_option maxHeartbeats 4000000 in
theorem k_outside {l : Launch} {D : va_G} {cI : ClassId} {a : Nat → Nat} (ha : sInj SX a) (V : sV) (i : Int32) : sMI l D cI SX a V yX9_outside cX9_outside 2 .int 3 [.ref (a 0), .int i] (q_outside V i) := by
  refine sMIof ha (by decide +kernel) (Nat.le_of_ble_eq_true rfl) ?_
  intro p e s m below meth c ls G X hl
  obtain ⟨hx, hb, hml, hown, hts, hlocks, hr, hK⟩ := id G
  have hl : lv_has ls 2 [(0, .ref (a 0)), (1, .int i)] := hl
  refine lv_aload_n hx hb dX9_outside_0 rfl (lv_at hl 0 rfl) ?_
  refine sgR G X 0 0 rfl rfl fl_X9_10 dX9_outside_1 ?_
  refine sgR G X 2 1 rfl rfl fl_X9_89 dX9_outside_4 ?_
  refine lv_iload_n hx hb dX9_outside_7 rfl (lv_at hl 1 rfl) ?_
  refine scI (ci := 2) (As := [.int i]) (rest := []) G X (k_has ha V i) iy_X2_has ml_X9_93 rfl rfl rfl rfl hl.1 (by decide) (by decide) (Nat.le_of_ble_eq_true rfl) dX9_outside_8 (fun y8 V8 H locs p8 X => ?_)
  obtain ⟨p8, z8⟩ := p8
  subst V8
  refine sZne (tgt := 20) hx hb (rfl : Int32.toInt y8 = _) dX9_outside_11 (by decide) (fun c11 => ?_) (fun c11 => ?_)
  · skip
    refine lv_aload_n hx hb dX9_outside_20 rfl (lv_at hl 0 rfl) ?_
    refine sgR G X 0 0 rfl rfl fl_X9_10 dX9_outside_21 ?_
    refine sgR G X 2 1 rfl rfl fl_X9_89 dX9_outside_24 ?_
    refine lv_iload_n hx hb dX9_outside_27 rfl (lv_at hl 1 rfl) ?_
    refine scI (ci := 2) (As := [.int i]) (rest := []) G X (k_isDoor ha V i) iy_X2_isDoor ml_X9_162 rfl rfl rfl rfl hl.1 (by decide) (by decide) (Nat.le_of_ble_eq_true rfl) dX9_outside_28 (fun y28 V28 H locs p28 X => ?_)
    obtain ⟨p28, z28⟩ := p28
    subst V28
    refine sZeq (tgt := 41) hx hb (rfl : Int32.toInt y28 = _) dX9_outside_31 (by decide) (fun c31 => ?_) (fun c31 => ?_)
    · skip
      refine lv_aload_n hx hb dX9_outside_41 rfl (lv_at hl 0 rfl) ?_
      refine sgR G X 0 0 rfl rfl fl_X9_10 dX9_outside_42 ?_
      refine sgR G X 2 1 rfl rfl fl_X9_89 dX9_outside_45 ?_
      refine lv_iload_n hx hb dX9_outside_48 rfl (lv_at hl 1 rfl) ?_
      refine lv_aload_n hx hb dX9_outside_49 rfl (lv_at hl 0 rfl) ?_
      refine sgR G X 0 0 rfl rfl fl_X9_10 dX9_outside_50 ?_
      refine sgR G X 2 3 rfl rfl fl_X9_143 dX9_outside_53 ?_
      refine scI (ci := 2) (As := [.int i, .ref (a 15)]) (rest := []) G X (k_outsidePush ha V i 15 rfl) iy_X2_outsidePush ml_X9_165 rfl rfl rfl rfl hl.1 (by decide) (by decide) (Nat.le_of_ble_eq_true rfl) dX9_outside_56 (fun y56 V56 H locs p56 X => ?_)
      obtain ⟨p56, z56⟩ := p56
      subst V56
      exact srI G X (rfl) dX9_outside_59 (by exact ⟨sAg.rf, (fun hf => by exfalso; have hg := hf.t; omega)⟩)
    · skip
      refine lv_aload_n hx hb dX9_outside_34 rfl (lv_at hl 0 rfl) ?_
      refine lv_bipush (v := (-3)) hx hb dX9_outside_35 (by decide) ?_
      refine scI (ci := 8) (As := [.int (-3)]) (rest := []) G X (k_refuseFar ha V (-3)) iy_X9_refuseFar ml_X9_155 rfl rfl rfl rfl hl.1 (by decide) (by decide) (Nat.le_of_ble_eq_true rfl) dX9_outside_37 (fun y37 V37 H locs p37 X => ?_)
      exact srI G X (rfl) dX9_outside_40 (by exact ⟨sAg.mono p37.1 (by decide), (fun hf => by exfalso; have hg := hf.t; omega)⟩)
  · skip
    refine lv_aload_n hx hb dX9_outside_14 rfl (lv_at hl 0 rfl) ?_
    refine lv_iconst (v := (-1)) hx hb dX9_outside_15 (by decide) ?_
    refine scI (ci := 8) (As := [.int (-1)]) (rest := []) G X (k_refuseFar ha V (-1)) iy_X9_refuseFar ml_X9_155 rfl rfl rfl rfl hl.1 (by decide) (by decide) (Nat.le_of_ble_eq_true rfl) dX9_outside_16 (fun y16 V16 H locs p16 X => ?_)
    exact srI G X (rfl) dX9_outside_19 (by exact ⟨sAg.mono p16.1 (by decide), fun _ => by rw [p16.2]; rfl⟩)
def q_push (V : sV) (i : Int32) : Int32 → sV → Prop := fun x V1 => sAg [1, 39, 40, 41, 42, 43, 44] V V1 ∧ (sFr V → x = fPush i)
set_option maxRecDepth 100000 in
set_option maxHeartbeats 4000000 in
theorem k_push {l : Launch} {D : va_G} {cI : ClassId} {a : Nat → Nat} (ha : sInj SX a) (V : sV) (i : Int32) : sMI l D cI SX a V yX9_push cX9_push 2 .int 5 [.ref (a 0), .int i] (q_push V i) := by
  refine sMIof ha (by decide +kernel) (Nat.le_of_ble_eq_true rfl) ?_
  intro p e s m below meth c ls G X hl
  obtain ⟨hx, hb, hml, hown, hts, hlocks, hr, hK⟩ := id G
  have hl : lv_has ls 2 [(0, .ref (a 0)), (1, .int i)] := hl
  refine lv_iload_n hx hb dX9_push_0 rfl (lv_at hl 1 rfl) ?_
  refine sZlt (tgt := 15) hx hb (rfl : Int32.toInt i = _) dX9_push_1 (by decide) (fun c1 => ?_) (fun c1 => ?_)
  · skip
    refine lv_aload_n hx hb dX9_push_15 rfl (lv_at hl 0 rfl) ?_
    refine lv_iconst (v := (-1)) hx hb dX9_push_16 (by decide) ?_
    refine scI (ci := 8) (As := [.int (-1)]) (rest := []) G X (k_refuseFar ha V (-1)) iy_X9_refuseFar ml_X9_155 rfl rfl rfl rfl hl.1 (by decide) (by decide) (Nat.le_of_ble_eq_true rfl) dX9_push_17 (fun y17 V17 H locs p17 X => ?_)
    exact srI G X (rfl) dX9_push_20 (by exact ⟨sAg.mono p17.1 (by decide), (fun hf => by have hg := hf.t; rw [p17.2]; unfold fPush; (repeat' split) <;> first | rfl | (exfalso; omega))⟩)
  · skip
    refine lv_iload_n hx hb dX9_push_4 rfl (lv_at hl 1 rfl) ?_
    refine lv_aload_n hx hb dX9_push_5 rfl (lv_at hl 0 rfl) ?_
    refine sgR G X 0 0 rfl rfl fl_X9_10 dX9_push_6 ?_
    refine sgI G X 2 0 rfl rfl fl_X9_169 dX9_push_9 ?_
    refine sIlt (tgt := 21) hx hb (rfl : Int32.toInt i = _) (rfl : Int32.toInt (V 2 0) = _) dX9_push_12 (by decide) (fun c12 => ?_) (fun c12 => ?_)
    · skip
      refine lv_aload_n hx hb dX9_push_21 rfl (lv_at hl 0 rfl) ?_
      refine lv_iconst (v := 0) hx hb dX9_push_22 (by decide) ?_
      refine scV (ci := 8) (As := [.int 0]) (rest := []) G X (k_settleNow ha V 0) iy_X9_settleNow ml_X9_172 rfl rfl rfl rfl hl.1 (by decide) (by decide) (Nat.le_of_ble_eq_true rfl) dX9_push_23 (fun V23 H locs p23 X => ?_)
      refine lv_aload_n hx hb dX9_push_26 rfl (lv_at hl 0 rfl) ?_
      refine sgR G X 0 3 rfl rfl fl_X9_28 dX9_push_27 ?_
      refine sgR G X 38 5 rfl rfl fl_X9_175 dX9_push_30 ?_
      refine lv_iload_n hx hb dX9_push_33 rfl (lv_at hl 1 rfl) ?_
      refine scSI (As := [.ref (a 43), .int i]) (rest := []) G X (k_at ha V23 43 6 rfl (by first | decide | assumption) i) iy_X5_at ml_X9_102 rfl rfl hl.1 (by decide) (by decide) (Nat.le_of_ble_eq_true rfl) dX9_push_34 (fun y34 V34 H locs p34 X => ?_)
      obtain ⟨p34, z34⟩ := p34
      subst V34
      exact srI G X (rfl) dX9_push_37 (by exact ⟨sAg.mono p23.1 (by decide), (fun hf => by have hg := hf.t; rw [p34, (p23.2 hf.quiet hf.2.2.1).1 i]; unfold fPush; (repeat' split) <;> first | rfl | (exfalso; omega))⟩)
    · skip
      refine lv_aload_n hx hb dX9_push_15 rfl (lv_at hl 0 rfl) ?_
      refine lv_iconst (v := (-1)) hx hb dX9_push_16 (by decide) ?_
      refine scI (ci := 8) (As := [.int (-1)]) (rest := []) G X (k_refuseFar ha V (-1)) iy_X9_refuseFar ml_X9_155 rfl rfl rfl rfl hl.1 (by decide) (by decide) (Nat.le_of_ble_eq_true rfl) dX9_push_17 (fun y17 V17 H locs p17 X => ?_)
      exact srI G X (rfl) dX9_push_20 (by exact ⟨sAg.mono p17.1 (by decide), (fun hf => by have hg := hf.t; rw [p17.2]; unfold fPush; (repeat' split) <;> first | rfl | (exfalso; omega))⟩)
def q_flowP (V : sV) (i : Int32) : Int32 → sV → Prop := fun x V1 => sAg [1, 39, 40, 41, 42, 43, 44] V V1 ∧ (sFr V → x = 1000000001)
set_option maxRecDepth 100000 in
set_option maxHeartbeats 4000000 in
theorem k_flowP {l : Launch} {D : va_G} {cI : ClassId} {a : Nat → Nat} (ha : sInj SX a) (V : sV) (i : Int32) : sMI l D cI SX a V yX9_flow cX9_flow 2 .int 5 [.ref (a 0), .int i] (q_flowP V i) := by
  refine sMIof ha (by decide +kernel) (Nat.le_of_ble_eq_true rfl) ?_
  intro p e s m below meth c ls G X hl
  obtain ⟨hx, hb, hml, hown, hts, hlocks, hr, hK⟩ := id G
  have hl : lv_has ls 2 [(0, .ref (a 0)), (1, .int i)] := hl
  refine lv_aload_n hx hb dX9_flow_0 rfl (lv_at hl 0 rfl) ?_
  refine sgR G X 0 0 rfl rfl fl_X9_10 dX9_flow_1 ?_
  refine sgR G X 2 1 rfl rfl fl_X9_89 dX9_flow_4 ?_
  refine lv_iload_n hx hb dX9_flow_7 rfl (lv_at hl 1 rfl) ?_
  refine scI (ci := 2) (As := [.int i]) (rest := []) G X (k_has ha V i) iy_X2_has ml_X9_93 rfl rfl rfl rfl hl.1 (by decide) (by decide) (Nat.le_of_ble_eq_true rfl) dX9_flow_8 (fun y8 V8 H locs p8 X => ?_)
  obtain ⟨p8, z8⟩ := p8
  subst V8
  refine sZne (tgt := 20) hx hb (rfl : Int32.toInt y8 = _) dX9_flow_11 (by decide) (fun c11 => ?_) (fun c11 => ?_)
  · skip
    refine lv_aload_n hx hb dX9_flow_20 rfl (lv_at hl 0 rfl) ?_
    refine lv_iconst (v := 0) hx hb dX9_flow_21 (by decide) ?_
    refine scV (ci := 8) (As := [.int 0]) (rest := []) G X (k_settleNow ha V 0) iy_X9_settleNow ml_X9_172 rfl rfl rfl rfl hl.1 (by decide) (by decide) (Nat.le_of_ble_eq_true rfl) dX9_flow_22 (fun V22 H locs p22 X => ?_)
    refine lv_aload_n hx hb dX9_flow_25 rfl (lv_at hl 0 rfl) ?_
    refine sgR G X 0 3 rfl rfl fl_X9_28 dX9_flow_26 ?_
    refine lv_iload_n hx hb dX9_flow_29 rfl (lv_at hl 1 rfl) ?_
    refine scI (ci := 1) (As := [.int i]) (rest := []) G X (k_flow ha V22 i) iy_X1_flowThrough ml_X9_178 rfl rfl rfl rfl hl.1 (by decide) (by decide) (Nat.le_of_ble_eq_true rfl) dX9_flow_30 (fun y30 V30 H locs p30 X => ?_)
    obtain ⟨p30, z30⟩ := p30
    subst V30
    exact srI G X (rfl) dX9_flow_33 (by exact ⟨sAg.mono p22.1 (by decide), (fun hf => by exfalso; have hg := hf.t; omega)⟩)
  · skip
    refine lv_aload_n hx hb dX9_flow_14 rfl (lv_at hl 0 rfl) ?_
    refine lv_iconst (v := (-1)) hx hb dX9_flow_15 (by decide) ?_
    refine scI (ci := 8) (As := [.int (-1)]) (rest := []) G X (k_refuseFar ha V (-1)) iy_X9_refuseFar ml_X9_155 rfl rfl rfl rfl hl.1 (by decide) (by decide) (Nat.le_of_ble_eq_true rfl) dX9_flow_16 (fun y16 V16 H locs p16 X => ?_)
    exact srI G X (rfl) dX9_flow_19 (by exact ⟨sAg.mono p16.1 (by decide), fun _ => by rw [p16.2]; rfl⟩)
def q_lean (V : sV) (i : Int32) : Int32 → sV → Prop := fun x V1 => sAg [1, 39, 40, 41, 42, 43, 44] V V1 ∧ (sFr V → x = -1)
set_option maxRecDepth 100000 in
set_option maxHeartbeats 4000000 in
theorem k_lean {l : Launch} {D : va_G} {cI : ClassId} {a : Nat → Nat} (ha : sInj SX a) (V : sV) (i : Int32) : sMI l D cI SX a V yX9_lean cX9_lean 2 .int 5 [.ref (a 0), .int i] (q_lean V i) := by
  refine sMIof ha (by decide +kernel) (Nat.le_of_ble_eq_true rfl) ?_
  intro p e s m below meth c ls G X hl
  obtain ⟨hx, hb, hml, hown, hts, hlocks, hr, hK⟩ := id G
  have hl : lv_has ls 2 [(0, .ref (a 0)), (1, .int i)] := hl
  refine lv_aload_n hx hb dX9_lean_0 rfl (lv_at hl 0 rfl) ?_
  refine sgR G X 0 0 rfl rfl fl_X9_10 dX9_lean_1 ?_
  refine sgR G X 2 1 rfl rfl fl_X9_89 dX9_lean_4 ?_
  refine lv_iload_n hx hb dX9_lean_7 rfl (lv_at hl 1 rfl) ?_
  refine scI (ci := 2) (As := [.int i]) (rest := []) G X (k_has ha V i) iy_X2_has ml_X9_93 rfl rfl rfl rfl hl.1 (by decide) (by decide) (Nat.le_of_ble_eq_true rfl) dX9_lean_8 (fun y8 V8 H locs p8 X => ?_)
  obtain ⟨p8, z8⟩ := p8
  subst V8
  refine sZne (tgt := 20) hx hb (rfl : Int32.toInt y8 = _) dX9_lean_11 (by decide) (fun c11 => ?_) (fun c11 => ?_)
  · skip
    refine lv_aload_n hx hb dX9_lean_20 rfl (lv_at hl 0 rfl) ?_
    refine lv_iconst (v := 0) hx hb dX9_lean_21 (by decide) ?_
    refine scV (ci := 8) (As := [.int 0]) (rest := []) G X (k_settleNow ha V 0) iy_X9_settleNow ml_X9_172 rfl rfl rfl rfl hl.1 (by decide) (by decide) (Nat.le_of_ble_eq_true rfl) dX9_lean_22 (fun V22 H locs p22 X => ?_)
    refine lv_aload_n hx hb dX9_lean_25 rfl (lv_at hl 0 rfl) ?_
    refine lv_iload_n hx hb dX9_lean_26 rfl (lv_at hl 1 rfl) ?_
    refine scI (ci := 8) (As := [.int i]) (rest := []) G X (k_leanOf ha V22 i) iy_X9_leanOf ml_X9_181 rfl rfl rfl rfl hl.1 (by decide) (by decide) (Nat.le_of_ble_eq_true rfl) dX9_lean_27 (fun y27 V27 H locs p27 X => ?_)
    obtain ⟨p27, z27⟩ := p27
    subst V27
    exact srI G X (rfl) dX9_lean_30 (by exact ⟨sAg.mono p22.1 (by decide), (fun hf => by exfalso; have hg := hf.t; omega)⟩)
  · skip
    refine lv_aload_n hx hb dX9_lean_14 rfl (lv_at hl 0 rfl) ?_
    refine lv_iconst (v := (-1)) hx hb dX9_lean_15 (by decide) ?_
    refine scI (ci := 8) (As := [.int (-1)]) (rest := []) G X (k_refuse ha V (-1)) iy_X9_refuse ml_X9_57 rfl rfl rfl rfl hl.1 (by decide) (by decide) (Nat.le_of_ble_eq_true rfl) dX9_lean_16 (fun y16 V16 H locs p16 X => ?_)
    exact srI G X (rfl) dX9_lean_19 (by exact ⟨sAg.mono p16.1 (by decide), fun _ => p16.2⟩)
def q_coal (V : sV)  : Int32 → sV → Prop := fun x V1 => sAg [39, 40, 41, 42, 43, 44] V V1 ∧ (sFr V → x = 0)
set_option maxRecDepth 100000 in
set_option maxHeartbeats 4000000 in
theorem k_coal {l : Launch} {D : va_G} {cI : ClassId} {a : Nat → Nat} (ha : sInj SX a) (V : sV)  : sMI l D cI SX a V yX9_coal cX9_coal 1 .int 5 [.ref (a 0)] (q_coal V ) := by
  refine sMIof ha (by decide +kernel) (Nat.le_of_ble_eq_true rfl) ?_
  intro p e s m below meth c ls G X hl
  obtain ⟨hx, hb, hml, hown, hts, hlocks, hr, hK⟩ := id G
  have hl : lv_has ls 1 [(0, .ref (a 0))] := hl
  refine lv_aload_n hx hb dX9_coal_0 rfl (lv_at hl 0 rfl) ?_
  refine lv_iconst (v := 0) hx hb dX9_coal_1 (by decide) ?_
  refine scI (ci := 8) (As := [.int 0]) (rest := []) G X (k_coalWithout ha V 0) iy_X9_coalWithout ml_X9_184 rfl rfl rfl rfl hl.1 (by decide) (by decide) (Nat.le_of_ble_eq_true rfl) dX9_coal_2 (fun y2 V2 H locs p2 X => ?_)
  exact srI G X (rfl) dX9_coal_5 (by exact ⟨p2.1, fun hf => p2.2 hf.quiet hf.2.2.1⟩)
def q_smokes (V : sV)  : Int32 → sV → Prop := fun x V1 => sAg [39, 40, 41, 42, 43, 44] V V1 ∧ (sFr V → x = 0)
set_option maxRecDepth 100000 in
set_option maxHeartbeats 4000000 in
theorem k_smokes {l : Launch} {D : va_G} {cI : ClassId} {a : Nat → Nat} (ha : sInj SX a) (V : sV)  : sMI l D cI SX a V yX9_smokes cX9_smokes 1 .int 5 [.ref (a 0)] (q_smokes V ) := by
  refine sMIof ha (by decide +kernel) (Nat.le_of_ble_eq_true rfl) ?_
  intro p e s m below meth c ls G X hl
  obtain ⟨hx, hb, hml, hown, hts, hlocks, hr, hK⟩ := id G
  have hl : lv_has ls 1 [(0, .ref (a 0))] := hl
  refine lv_aload_n hx hb dX9_smokes_0 rfl (lv_at hl 0 rfl) ?_
  refine lv_iconst (v := 0) hx hb dX9_smokes_1 (by decide) ?_
  refine scV (ci := 8) (As := [.int 0]) (rest := []) G X (k_settleNow ha V 0) iy_X9_settleNow ml_X9_172 rfl rfl rfl rfl hl.1 (by decide) (by decide) (Nat.le_of_ble_eq_true rfl) dX9_smokes_2 (fun V2 H locs p2 X => ?_)
  refine lv_aload_n hx hb dX9_smokes_5 rfl (lv_at hl 0 rfl) ?_
  refine sgR G X 0 3 rfl rfl fl_X9_28 dX9_smokes_6 ?_
  refine scI (ci := 1) (As := []) (rest := []) G X (k_smoking ha V2 ) iy_X1_smoking ml_X9_187 rfl rfl rfl rfl hl.1 (by decide) (by decide) (Nat.le_of_ble_eq_true rfl) dX9_smokes_9 (fun y9 V9 H locs p9 X => ?_)
  obtain ⟨p9, z9⟩ := p9
  subst V9
  refine sZeq (tgt := 19) hx hb (rfl : Int32.toInt y9 = _) dX9_smokes_12 (by decide) (fun c12 => ?_) (fun c12 => ?_)
  · skip
    refine lv_iconst (v := 0) hx hb dX9_smokes_19 (by decide) ?_
    exact srI G X (rfl) dX9_smokes_20 (by first | exact ⟨p2.1, fun _ => rfl⟩ | exact ⟨p2.1, fun hf => by exfalso; rw [p9.2 (by rw [p2.1 3 (by decide)]; exact hf.many)] at c12; exact c12 rfl⟩)
  · skip
    refine lv_iconst (v := 1) hx hb dX9_smokes_15 (by decide) ?_
    refine lv_goto (tgt := 20) hx hb dX9_smokes_16 (by decide) ?_
    exact srI G X (rfl) dX9_smokes_20 (by first | exact ⟨p2.1, fun _ => rfl⟩ | exact ⟨p2.1, fun hf => by exfalso; rw [p9.2 (by rw [p2.1 3 (by decide)]; exact hf.many)] at c12; exact c12 rfl⟩)
def q_stopped (V : sV) (i : Int32) : Int32 → sV → Prop := fun x V1 => sAg [1, 39, 40, 41, 42, 43, 44] V V1 ∧ (sFr V → x = fStopped i)
set_option maxRecDepth 100000 in
set_option maxHeartbeats 4000000 in
theorem k_stopped {l : Launch} {D : va_G} {cI : ClassId} {a : Nat → Nat} (ha : sInj SX a) (V : sV) (i : Int32) : sMI l D cI SX a V yX9_stopped cX9_stopped 2 .int 5 [.ref (a 0), .int i] (q_stopped V i) := by
  refine sMIof ha (by decide +kernel) (Nat.le_of_ble_eq_true rfl) ?_
  intro p e s m below meth c ls G X hl
  obtain ⟨hx, hb, hml, hown, hts, hlocks, hr, hK⟩ := id G
  have hl : lv_has ls 2 [(0, .ref (a 0)), (1, .int i)] := hl
  refine lv_iload_n hx hb dX9_stopped_0 rfl (lv_at hl 1 rfl) ?_
  refine sZlt (tgt := 20) hx hb (rfl : Int32.toInt i = _) dX9_stopped_1 (by decide) (fun c1 => ?_) (fun c1 => ?_)
  · skip
    refine lv_aload_n hx hb dX9_stopped_20 rfl (lv_at hl 0 rfl) ?_
    refine lv_iconst (v := (-1)) hx hb dX9_stopped_21 (by decide) ?_
    refine scI (ci := 8) (As := [.int (-1)]) (rest := []) G X (k_refuse ha V (-1)) iy_X9_refuse ml_X9_57 rfl rfl rfl rfl hl.1 (by decide) (by decide) (Nat.le_of_ble_eq_true rfl) dX9_stopped_22 (fun y22 V22 H locs p22 X => ?_)
    exact srI G X (rfl) dX9_stopped_25 (by exact ⟨sAg.mono p22.1 (by decide), fun hf => by rw [p22.2]; unfold fStopped; first | rw [if_neg (by omega)] | (rw [e16, hf.1] at c17; have h9 : (1 : Int) ≤ i.toInt := c17; rw [if_neg (by omega)])⟩)
  · skip
    refine lv_iload_n hx hb dX9_stopped_4 rfl (lv_at hl 1 rfl) ?_
    refine lv_iconst (v := 1) hx hb dX9_stopped_5 (by decide) ?_
    refine lv_aload_n hx hb dX9_stopped_6 rfl (lv_at hl 0 rfl) ?_
    refine sgR G X 0 0 rfl rfl fl_X9_10 dX9_stopped_7 ?_
    refine sgR G X 2 1 rfl rfl fl_X9_89 dX9_stopped_10 ?_
    refine sgI G X 3 7 rfl rfl fl_X9_190 dX9_stopped_13 ?_
    refine lv_ishl hx hb dX9_stopped_16 ?_
    refine lv_topi (fun x16 e16 => ?_)
    refine sIlt (tgt := 26) hx hb (rfl : Int32.toInt i = _) (rfl : Int32.toInt x16 = _) dX9_stopped_17 (by decide) (fun c17 => ?_) (fun c17 => ?_)
    · skip
      refine lv_aload_n hx hb dX9_stopped_26 rfl (lv_at hl 0 rfl) ?_
      refine lv_iload_n hx hb dX9_stopped_27 rfl (lv_at hl 1 rfl) ?_
      refine scI (ci := 8) (As := [.int i]) (rest := []) G X (k_coalWithout ha V i) iy_X9_coalWithout ml_X9_184 rfl rfl rfl rfl hl.1 (by decide) (by decide) (Nat.le_of_ble_eq_true rfl) dX9_stopped_28 (fun y28 V28 H locs p28 X => ?_)
      exact srI G X (rfl) dX9_stopped_31 (by exact ⟨sAg.mono p28.1 (by decide), fun hf => by rw [p28.2 hf.quiet hf.2.2.1]; rw [e16, hf.1] at c17; have h9 : i.toInt < (1 : Int) := c17; unfold fStopped; rw [if_pos (by omega)]⟩)
    · skip
      refine lv_aload_n hx hb dX9_stopped_20 rfl (lv_at hl 0 rfl) ?_
      refine lv_iconst (v := (-1)) hx hb dX9_stopped_21 (by decide) ?_
      refine scI (ci := 8) (As := [.int (-1)]) (rest := []) G X (k_refuse ha V (-1)) iy_X9_refuse ml_X9_57 rfl rfl rfl rfl hl.1 (by decide) (by decide) (Nat.le_of_ble_eq_true rfl) dX9_stopped_22 (fun y22 V22 H locs p22 X => ?_)
      exact srI G X (rfl) dX9_stopped_25 (by exact ⟨sAg.mono p22.1 (by decide), fun hf => by rw [p22.2]; unfold fStopped; first | rw [if_neg (by omega)] | (rw [e16, hf.1] at c17; have h9 : (1 : Int) ≤ i.toInt := c17; rw [if_neg (by omega)])⟩)
