def q_has (V : sV) (i : Int32) : Int32 → sV → Prop := fun x V1 => ((x.toInt = 1 ∧ 0 ≤ i.toInt ∧ i.toInt < (V 3 7).toInt) ∨ (x.toInt = 0 ∧ (i.toInt < 0 ∨ (V 3 7).toInt ≤ i.toInt))) ∧ V1 = V
set_option maxRecDepth 100000 in
set_option maxHeartbeats 4000000 in
theorem k_has {l : Launch} {D : va_G} {cI : ClassId} {a : Nat → Nat} (ha : sInj SX a) (V : sV) (i : Int32) : sMI l D cI SX a V yX2_has cX2_has 2 .boolean 0 [.ref (a 3), .int i] (q_has V i) := by
  refine sMIof ha (by decide +kernel) (Nat.le_of_ble_eq_true rfl) ?_
  intro p e s m below meth c ls G X hl
  obtain ⟨hx, hb, hml, hown, hts, hlocks, hr, hK⟩ := id G
  have hl : lv_has ls 2 [(0, .ref (a 3)), (1, .int i)] := hl
  refine lv_iload_n hx hb dX2_has_0 rfl (lv_at hl 1 rfl) ?_
  refine sZlt (tgt := 16) hx hb (rfl : Int32.toInt i = _) dX2_has_1 (by decide) (fun c1 => ?_) (fun c1 => ?_)
  · skip
    refine lv_iconst (v := 0) hx hb dX2_has_16 (by decide) ?_
    exact srI G X (rfl) dX2_has_17 (by first | exact ⟨Or.inl ⟨rfl, c1, c9⟩, rfl⟩ | exact ⟨Or.inr ⟨rfl, Or.inr c9⟩, rfl⟩ | exact ⟨Or.inr ⟨rfl, Or.inl c1⟩, rfl⟩)
  · skip
    refine lv_iload_n hx hb dX2_has_4 rfl (lv_at hl 1 rfl) ?_
    refine lv_aload_n hx hb dX2_has_5 rfl (lv_at hl 0 rfl) ?_
    refine sgI G X 3 7 rfl rfl fl_X2_33 dX2_has_6 ?_
    refine sIge (tgt := 16) hx hb (rfl : Int32.toInt i = _) (rfl : Int32.toInt (V 3 7) = _) dX2_has_9 (by decide) (fun c9 => ?_) (fun c9 => ?_)
    · skip
      refine lv_iconst (v := 0) hx hb dX2_has_16 (by decide) ?_
      exact srI G X (rfl) dX2_has_17 (by first | exact ⟨Or.inl ⟨rfl, c1, c9⟩, rfl⟩ | exact ⟨Or.inr ⟨rfl, Or.inr c9⟩, rfl⟩ | exact ⟨Or.inr ⟨rfl, Or.inl c1⟩, rfl⟩)
    · skip
      refine lv_iconst (v := 1) hx hb dX2_has_12 (by decide) ?_
      refine lv_goto (tgt := 17) hx hb dX2_has_13 (by decide) ?_
      exact srI G X (rfl) dX2_has_17 (by first | exact ⟨Or.inl ⟨rfl, c1, c9⟩, rfl⟩ | exact ⟨Or.inr ⟨rfl, Or.inr c9⟩, rfl⟩ | exact ⟨Or.inr ⟨rfl, Or.inl c1⟩, rfl⟩)
def q_oFull (V : sV) : Int32 → sV → Prop := fun x V1 => ((x.toInt = 1 ∧ 10 ≤ (V 3 7).toInt) ∨ (x.toInt = 0 ∧ (V 3 7).toInt < 10)) ∧ V1 = V
set_option maxRecDepth 100000 in
set_option maxHeartbeats 4000000 in
theorem k_oFull {l : Launch} {D : va_G} {cI : ClassId} {a : Nat → Nat} (ha : sInj SX a) (V : sV)  : sMI l D cI SX a V yX2_isFull cX2_isFull 1 .boolean 0 [.ref (a 3)] (q_oFull V) := by
  refine sMIof ha (by decide +kernel) (Nat.le_of_ble_eq_true rfl) ?_
  intro p e s m below meth c ls G X hl
  obtain ⟨hx, hb, hml, hown, hts, hlocks, hr, hK⟩ := id G
  have hl : lv_has ls 1 [(0, .ref (a 3))] := hl
  refine lv_aload_n hx hb dX2_isFull_0 rfl (lv_at hl 0 rfl) ?_
  refine sgI G X 3 7 rfl rfl fl_X2_33 dX2_isFull_1 ?_
  refine lv_bipush (v := 10) hx hb dX2_isFull_4 (by decide) ?_
  refine sIlt (tgt := 13) hx hb (rfl : Int32.toInt (V 3 7) = _) (by decide : (10 : Int32).toInt = 10) dX2_isFull_6 (by decide) (fun c6 => ?_) (fun c6 => ?_)
  · skip
    refine lv_iconst (v := 0) hx hb dX2_isFull_13 (by decide) ?_
    exact srI G X (rfl) dX2_isFull_14 (by first | exact ⟨Or.inl ⟨rfl, c6⟩, rfl⟩ | exact ⟨Or.inr ⟨rfl, c6⟩, rfl⟩)
  · skip
    refine lv_iconst (v := 1) hx hb dX2_isFull_9 (by decide) ?_
    refine lv_goto (tgt := 14) hx hb dX2_isFull_10 (by decide) ?_
    exact srI G X (rfl) dX2_isFull_14 (by first | exact ⟨Or.inl ⟨rfl, c6⟩, rfl⟩ | exact ⟨Or.inr ⟨rfl, c6⟩, rfl⟩)
def q_isDoor (V : sV) (i : Int32) : Int32 → sV → Prop := fun x V1 => ((x.toInt = 1 ∧ (rAt 10 (V 6) i).toInt = 7) ∨ (x.toInt = 0 ∧ (rAt 10 (V 6) i).toInt ≠ 7)) ∧ V1 = V
set_option maxRecDepth 100000 in
set_option maxHeartbeats 4000000 in
theorem k_isDoor {l : Launch} {D : va_G} {cI : ClassId} {a : Nat → Nat} (ha : sInj SX a) (V : sV) (i : Int32) : sMI l D cI SX a V yX2_isDoor cX2_isDoor 2 .boolean 1 [.ref (a 3), .int i] (q_isDoor V i) := by
  refine sMIof ha (by decide +kernel) (Nat.le_of_ble_eq_true rfl) ?_
  intro p e s m below meth c ls G X hl
  obtain ⟨hx, hb, hml, hown, hts, hlocks, hr, hK⟩ := id G
  have hl : lv_has ls 2 [(0, .ref (a 3)), (1, .int i)] := hl
  refine lv_aload_n hx hb dX2_isDoor_0 rfl (lv_at hl 0 rfl) ?_
  refine sgR G X 3 2 rfl rfl fl_X2_18 dX2_isDoor_1 ?_
  refine lv_iload_n hx hb dX2_isDoor_4 rfl (lv_at hl 1 rfl) ?_
  refine scSI (As := [.ref (a 6), .int i]) (rest := []) G X (k_at ha V 6 10 rfl (by first | decide | assumption) i) iy_X5_at ml_X2_37 rfl rfl hl.1 (by decide) (by decide) (Nat.le_of_ble_eq_true rfl) dX2_isDoor_5 (fun y5 V5 H locs p5 X => ?_)
  obtain ⟨p5, z5⟩ := p5
  subst V5
  refine lv_bipush (v := 7) hx hb dX2_isDoor_8 (by decide) ?_
  refine sIne (tgt := 17) hx hb (rfl : Int32.toInt y5 = _) (by decide : (7 : Int32).toInt = 7) dX2_isDoor_10 (by decide) (fun c10 => ?_) (fun c10 => ?_)
  · skip
    refine lv_iconst (v := 0) hx hb dX2_isDoor_17 (by decide) ?_
    exact srI G X (rfl) dX2_isDoor_18 (by rw [p5] at c10; first | exact ⟨Or.inl ⟨rfl, c10⟩, rfl⟩ | exact ⟨Or.inr ⟨rfl, c10⟩, rfl⟩)
  · skip
    refine lv_iconst (v := 1) hx hb dX2_isDoor_13 (by decide) ?_
    refine lv_goto (tgt := 18) hx hb dX2_isDoor_14 (by decide) ?_
    exact srI G X (rfl) dX2_isDoor_18 (by rw [p5] at c10; first | exact ⟨Or.inl ⟨rfl, c10⟩, rfl⟩ | exact ⟨Or.inr ⟨rfl, c10⟩, rfl⟩)
def q_oAdd (V : sV) (i1 i2 i3 i4 i5 i6 i7 : Int32) : sV → Prop := fun V1 => sAg [3, 4, 5, 6, 7, 8, 9, 10] V V1 ∧ ((V 3 7).toInt < 10 → V1 3 7 = V 3 7 + 1 ∧ V1 4 = rPut 10 (V 4) (V 3 7) i1 ∧ V1 5 = rPut 10 (V 5) (V 3 7) i2 ∧ V1 6 = rPut 10 (V 6) (V 3 7) i3 ∧ V1 7 = rPut 10 (V 7) (V 3 7) i4 ∧ V1 8 = rPut 10 (V 8) (V 3 7) i5 ∧ V1 9 = rPut 10 (V 9) (V 3 7) i6 ∧ V1 10 = rPut 10 (V 10) (V 3 7) i7)
set_option maxRecDepth 100000 in
set_option maxHeartbeats 4000000 in
theorem k_oAdd {l : Launch} {D : va_G} {cI : ClassId} {a : Nat → Nat} (ha : sInj SX a) (V : sV) (i1 i2 i3 i4 i5 i6 i7 : Int32) : sMV l D cI SX a V yX2_add cX2_add 8 1 [.ref (a 3), .int i1, .int i2, .int i3, .int i4, .int i5, .int i6, .int i7] (q_oAdd V i1 i2 i3 i4 i5 i6 i7) := by
  refine sMVof ha (by decide +kernel) (Nat.le_of_ble_eq_true rfl) ?_
  intro p e s m below meth c ls G X hl
  obtain ⟨hx, hb, hml, hown, hts, hlocks, hr, hK⟩ := id G
  have hl : lv_has ls 8 [(0, .ref (a 3)), (1, .int i1), (2, .int i2), (3, .int i3), (4, .int i4), (5, .int i5), (6, .int i6), (7, .int i7)] := hl
  refine lv_aload_n hx hb dX2_add_0 rfl (lv_at hl 0 rfl) ?_
  refine scI (ci := 2) (As := []) (rest := []) G X (k_oFull ha V ) iy_X2_isFull ml_X2_43 rfl rfl rfl rfl hl.1 (by decide) (by decide) (Nat.le_of_ble_eq_true rfl) dX2_add_1 (fun y1 V1 H locs p1 X => ?_)
  obtain ⟨p1, z1⟩ := p1
  subst V1
  refine sZne (tgt := 105) hx hb (rfl : Int32.toInt y1 = _) dX2_add_4 (by decide) (fun c4 => ?_) (fun c4 => ?_)
  · skip
    exact srV G X dX2_add_105 (by first | exact ⟨sAg.rf, fun h => by omega⟩ | (have q16 : V16 = _ := p16; have q28 : V28 = _ := p28; have q40 : V40 = _ := p40; have q53 : V53 = _ := p53; have q66 : V66 = _ := p66; have q79 : V79 = _ := p79; have q92 : V92 = _ := p92; subst q16 q28 q40 q53 q66 q79 q92 e101; exact ⟨(((((((sAg.rf.up (by simp)).up (by simp)).up (by simp)).up (by simp)).up (by simp)).up (by simp)).up (by simp)).up (by simp), fun _ => ⟨rfl, rfl, rfl, rfl, rfl, rfl, rfl, rfl⟩⟩))
  · skip
    refine lv_aload_n hx hb dX2_add_7 rfl (lv_at hl 0 rfl) ?_
    refine sgR G X 3 0 rfl rfl fl_X2_9 dX2_add_8 ?_
    refine lv_aload_n hx hb dX2_add_11 rfl (lv_at hl 0 rfl) ?_
    refine sgI G X 3 7 rfl rfl fl_X2_33 dX2_add_12 ?_
    refine lv_iload_n hx hb dX2_add_15 rfl (lv_at hl 1 rfl) ?_
    refine scSV (As := [.ref (a 4), .int (V 3 7), .int i1]) (rest := []) G X (k_put ha V 4 10 rfl (by first | decide | assumption) (V 3 7) i1) iy_X5_put ml_X2_47 rfl rfl hl.1 (by decide) (by decide) (Nat.le_of_ble_eq_true rfl) dX2_add_16 (fun V16 H locs p16 X => ?_)
    refine lv_aload_n hx hb dX2_add_19 rfl (lv_at hl 0 rfl) ?_
    refine sgR G X 3 1 rfl rfl fl_X2_15 dX2_add_20 ?_
    refine lv_aload_n hx hb dX2_add_23 rfl (lv_at hl 0 rfl) ?_
    refine sgI G X 3 7 rfl rfl fl_X2_33 dX2_add_24 ?_
    refine lv_iload_n hx hb dX2_add_27 rfl (lv_at hl 2 rfl) ?_
    refine scSV (As := [.ref (a 5), .int (V16 3 7), .int i2]) (rest := []) G X (k_put ha V16 5 10 rfl (by first | decide | assumption) (V16 3 7) i2) iy_X5_put ml_X2_47 rfl rfl hl.1 (by decide) (by decide) (Nat.le_of_ble_eq_true rfl) dX2_add_28 (fun V28 H locs p28 X => ?_)
    refine lv_aload_n hx hb dX2_add_31 rfl (lv_at hl 0 rfl) ?_
    refine sgR G X 3 2 rfl rfl fl_X2_18 dX2_add_32 ?_
    refine lv_aload_n hx hb dX2_add_35 rfl (lv_at hl 0 rfl) ?_
    refine sgI G X 3 7 rfl rfl fl_X2_33 dX2_add_36 ?_
    refine lv_iload_n hx hb dX2_add_39 rfl (lv_at hl 3 rfl) ?_
    refine scSV (As := [.ref (a 6), .int (V28 3 7), .int i3]) (rest := []) G X (k_put ha V28 6 10 rfl (by first | decide | assumption) (V28 3 7) i3) iy_X5_put ml_X2_47 rfl rfl hl.1 (by decide) (by decide) (Nat.le_of_ble_eq_true rfl) dX2_add_40 (fun V40 H locs p40 X => ?_)
    refine lv_aload_n hx hb dX2_add_43 rfl (lv_at hl 0 rfl) ?_
    refine sgR G X 3 3 rfl rfl fl_X2_21 dX2_add_44 ?_
    refine lv_aload_n hx hb dX2_add_47 rfl (lv_at hl 0 rfl) ?_
    refine sgI G X 3 7 rfl rfl fl_X2_33 dX2_add_48 ?_
    refine lv_iload hx hb dX2_add_51 (lv_at hl 4 rfl) ?_
    refine scSV (As := [.ref (a 7), .int (V40 3 7), .int i4]) (rest := []) G X (k_put ha V40 7 10 rfl (by first | decide | assumption) (V40 3 7) i4) iy_X5_put ml_X2_47 rfl rfl hl.1 (by decide) (by decide) (Nat.le_of_ble_eq_true rfl) dX2_add_53 (fun V53 H locs p53 X => ?_)
    refine lv_aload_n hx hb dX2_add_56 rfl (lv_at hl 0 rfl) ?_
    refine sgR G X 3 4 rfl rfl fl_X2_24 dX2_add_57 ?_
    refine lv_aload_n hx hb dX2_add_60 rfl (lv_at hl 0 rfl) ?_
    refine sgI G X 3 7 rfl rfl fl_X2_33 dX2_add_61 ?_
    refine lv_iload hx hb dX2_add_64 (lv_at hl 5 rfl) ?_
    refine scSV (As := [.ref (a 8), .int (V53 3 7), .int i5]) (rest := []) G X (k_put ha V53 8 10 rfl (by first | decide | assumption) (V53 3 7) i5) iy_X5_put ml_X2_47 rfl rfl hl.1 (by decide) (by decide) (Nat.le_of_ble_eq_true rfl) dX2_add_66 (fun V66 H locs p66 X => ?_)
    refine lv_aload_n hx hb dX2_add_69 rfl (lv_at hl 0 rfl) ?_
    refine sgR G X 3 5 rfl rfl fl_X2_27 dX2_add_70 ?_
    refine lv_aload_n hx hb dX2_add_73 rfl (lv_at hl 0 rfl) ?_
    refine sgI G X 3 7 rfl rfl fl_X2_33 dX2_add_74 ?_
    refine lv_iload hx hb dX2_add_77 (lv_at hl 6 rfl) ?_
    refine scSV (As := [.ref (a 9), .int (V66 3 7), .int i6]) (rest := []) G X (k_put ha V66 9 10 rfl (by first | decide | assumption) (V66 3 7) i6) iy_X5_put ml_X2_47 rfl rfl hl.1 (by decide) (by decide) (Nat.le_of_ble_eq_true rfl) dX2_add_79 (fun V79 H locs p79 X => ?_)
    refine lv_aload_n hx hb dX2_add_82 rfl (lv_at hl 0 rfl) ?_
    refine sgR G X 3 6 rfl rfl fl_X2_30 dX2_add_83 ?_
    refine lv_aload_n hx hb dX2_add_86 rfl (lv_at hl 0 rfl) ?_
    refine sgI G X 3 7 rfl rfl fl_X2_33 dX2_add_87 ?_
    refine lv_iload hx hb dX2_add_90 (lv_at hl 7 rfl) ?_
    refine scSV (As := [.ref (a 10), .int (V79 3 7), .int i7]) (rest := []) G X (k_put ha V79 10 10 rfl (by first | decide | assumption) (V79 3 7) i7) iy_X5_put ml_X2_47 rfl rfl hl.1 (by decide) (by decide) (Nat.le_of_ble_eq_true rfl) dX2_add_92 (fun V92 H locs p92 X => ?_)
    refine lv_aload_n hx hb dX2_add_95 rfl (lv_at hl 0 rfl) ?_
    refine lv_dup hx hb dX2_add_96 rfl ?_
    refine sgI G X 3 7 rfl rfl fl_X2_33 dX2_add_97 ?_
    refine lv_iconst (v := 1) hx hb dX2_add_100 (by decide) ?_
    refine lv_iadd hx hb dX2_add_101 ?_
    refine lv_topi (fun x101 e101 => ?_)
    refine spI G X 3 7 rfl rfl fp_X2_33 dX2_add_102 (fun H locs X => ?_)
    exact srV G X dX2_add_105 (by first | exact ⟨sAg.rf, fun h => by omega⟩ | (have q16 : V16 = _ := p16; have q28 : V28 = _ := p28; have q40 : V40 = _ := p40; have q53 : V53 = _ := p53; have q66 : V66 = _ := p66; have q79 : V79 = _ := p79; have q92 : V92 = _ := p92; subst q16 q28 q40 q53 q66 q79 q92 e101; exact ⟨(((((((sAg.rf.up (by simp)).up (by simp)).up (by simp)).up (by simp)).up (by simp)).up (by simp)).up (by simp)).up (by simp), fun _ => ⟨rfl, rfl, rfl, rfl, rfl, rfl, rfl, rfl⟩⟩))
def q_dropLast (V : sV) : sV → Prop := fun V1 => ∃ z : Int32, V1 = sUp V 3 (upd (V 3) 7 z) ∧ z.toInt = max (V 3 7 - 1).toInt 0
set_option maxRecDepth 100000 in
set_option maxHeartbeats 4000000 in
theorem k_dropLast {l : Launch} {D : va_G} {cI : ClassId} {a : Nat → Nat} (ha : sInj SX a) (V : sV)  : sMV l D cI SX a V yX2_dropLast cX2_dropLast 1 1 [.ref (a 3)] (q_dropLast V) := by
  refine sMVof ha (by decide +kernel) (Nat.le_of_ble_eq_true rfl) ?_
  intro p e s m below meth c ls G X hl
  obtain ⟨hx, hb, hml, hown, hts, hlocks, hr, hK⟩ := id G
  have hl : lv_has ls 1 [(0, .ref (a 3))] := hl
  refine lv_aload_n hx hb dX2_dropLast_0 rfl (lv_at hl 0 rfl) ?_
  refine lv_aload_n hx hb dX2_dropLast_1 rfl (lv_at hl 0 rfl) ?_
  refine sgI G X 3 7 rfl rfl fl_X2_33 dX2_dropLast_2 ?_
  refine lv_iconst (v := 1) hx hb dX2_dropLast_5 (by decide) ?_
  refine lv_isub hx hb dX2_dropLast_6 ?_
  refine lv_topi (fun x6 e6 => ?_)
  refine lv_iconst (v := 0) hx hb dX2_dropLast_7 (by decide) ?_
  refine sMax hx hb hml hl.1 hown hts mm_X2_51 (by decide) (Nat.le_of_ble_eq_true rfl) dX2_dropLast_8 (fun x8 e8 => ?_)
  refine spI G X 3 7 rfl rfl fp_X2_33 dX2_dropLast_11 (fun H locs X => ?_)
  exact srV G X dX2_dropLast_14 (by exact ⟨x8, rfl, by rw [e8, e6]; rfl⟩)
def q_roomsToldOf (V : sV) : Int32 → sV → Prop := fun x V1 => True ∧ V1 = V
set_option maxRecDepth 100000 in
set_option maxHeartbeats 4000000 in
theorem k_roomsToldOf {l : Launch} {D : va_G} {cI : ClassId} {a : Nat → Nat} (ha : sInj SX a) (V : sV)  : sMI l D cI SX a V yX2_roomsToldOf cX2_roomsToldOf 3 .int 1 [.ref (a 3)] (q_roomsToldOf V) := by
  refine sMIof ha (by decide +kernel) (Nat.le_of_ble_eq_true rfl) ?_
  intro p e s m below meth c ls G X hl
  obtain ⟨hx, hb, hml, hown, hts, hlocks, hr, hK⟩ := id G
  have hl : lv_has ls 3 [(0, .ref (a 3))] := hl
  refine lv_iconst (v := 0) hx hb dX2_roomsToldOf_0 (by decide) ?_
  refine lv_istore_n (lv' := [(1, .int 0), (0, .ref (a 3))]) hx hb dX2_roomsToldOf_1 rfl hl (by decide) rfl (fun ls hl => ?_)
  refine lv_iconst (v := 0) hx hb dX2_roomsToldOf_2 (by decide) ?_
  refine lv_istore_n (lv' := [(2, .int 0), (1, .int 0), (0, .ref (a 3))]) hx hb dX2_roomsToldOf_3 rfl hl (by decide) rfl (fun ls hl => ?_)
  have L4 : ∀ (fu : Nat) (i : Int32) (z : Int32) (H : Heap) (locs : List Loc) (ls : Array Slot), (0 ≤ i.toInt) → (((V 3 7).toInt - i.toInt).toNat) < fu → sWS D cI SX a V s.heap H locs → lv_has ls 3 [(2, .int i), (1, .int z), (0, .ref (a 3))] → W p l e (rmD 1) s m ([.ref (a 3)] : List Value).toArray below meth c H locs 0 0 (MQ below (va_Qi (q_roomsToldOf V) (fun V1 t => va_P D vwCl (sWd cI SX a V1) t.heap) (sA SX a s.heap.size)) ([.ref (a 3)] : List Value).toArray s 0 0 (sA SX a s.heap.size)) (F0 m 4 ls []) := by
    intro fu
    induction fu with
    | zero => intro i z H locs ls hi hm; exact absurd hm (Nat.not_lt_zero _)
    | succ fu ih4 =>
      intro i z H locs ls hi hm X hl
      refine lv_iload_n hx hb dX2_roomsToldOf_4 rfl (lv_at hl 0 rfl) ?_
      refine lv_aload_n hx hb dX2_roomsToldOf_5 rfl (lv_at hl 2 rfl) ?_
      refine sgI G X 3 7 rfl rfl fl_X2_33 dX2_roomsToldOf_6 ?_
      refine sIge (tgt := 44) hx hb (rfl : Int32.toInt i = _) (rfl : Int32.toInt (V 3 7) = _) dX2_roomsToldOf_9 (by decide) (fun c9 => ?_) (fun c9 => ?_)
      · skip
        refine lv_iload_n hx hb dX2_roomsToldOf_44 rfl (lv_at hl 1 rfl) ?_
        exact srI G X (rfl) dX2_roomsToldOf_45 (by exact ⟨trivial, rfl⟩)
      · skip
        refine lv_iload_n hx hb dX2_roomsToldOf_12 rfl (lv_at hl 1 rfl) ?_
        refine lv_aload_n hx hb dX2_roomsToldOf_13 rfl (lv_at hl 2 rfl) ?_
        refine sgR G X 3 0 rfl rfl fl_X2_9 dX2_roomsToldOf_14 ?_
        refine lv_iload_n hx hb dX2_roomsToldOf_17 rfl (lv_at hl 0 rfl) ?_
        refine scSI (As := [.ref (a 4), .int i]) (rest := [.int z]) G X (k_at ha V 4 10 rfl (by first | decide | assumption) i) iy_X5_at ml_X2_37 rfl rfl hl.1 (by decide) (by decide) (Nat.le_of_ble_eq_true rfl) dX2_roomsToldOf_18 (fun y18 V18 H locs p18 X => ?_)
        obtain ⟨p18, z18⟩ := p18
        subst V18
        refine lv_aload_n hx hb dX2_roomsToldOf_21 rfl (lv_at hl 2 rfl) ?_
        refine sgR G X 3 1 rfl rfl fl_X2_15 dX2_roomsToldOf_22 ?_
        refine lv_iload_n hx hb dX2_roomsToldOf_25 rfl (lv_at hl 0 rfl) ?_
        refine scSI (As := [.ref (a 5), .int i]) (rest := [.int y18, .int z]) G X (k_at ha V 5 10 rfl (by first | decide | assumption) i) iy_X5_at ml_X2_37 rfl rfl hl.1 (by decide) (by decide) (Nat.le_of_ble_eq_true rfl) dX2_roomsToldOf_26 (fun y26 V26 H locs p26 X => ?_)
        obtain ⟨p26, z26⟩ := p26
        subst V26
        refine sMax hx hb hml hl.1 hown hts mm_X2_51 (by decide) (Nat.le_of_ble_eq_true rfl) dX2_roomsToldOf_29 (fun x29 e29 => ?_)
        refine lv_iconst (v := 1) hx hb dX2_roomsToldOf_32 (by decide) ?_
        refine lv_iadd hx hb dX2_roomsToldOf_33 ?_
        refine lv_topi (fun x33 e33 => ?_)
        refine sMax hx hb hml hl.1 hown hts mm_X2_51 (by decide) (Nat.le_of_ble_eq_true rfl) dX2_roomsToldOf_34 (fun x34 e34 => ?_)
        refine lv_istore_n (lv' := [(1, .int x34), (2, .int i), (0, .ref (a 3))]) hx hb dX2_roomsToldOf_37 rfl hl (by decide) rfl (fun ls hl => ?_)
        obtain ⟨x38, e38⟩ : ∃ y : Int32, y = i + (1) := ⟨_, rfl⟩
        refine lv_iinc (v := x38) (lv' := [(2, .int x38), (1, .int x34), (0, .ref (a 3))]) hx hb dX2_roomsToldOf_38 hl (k := 1) rfl (by rw [e38]; rfl) (by decide) rfl (fun ls hl => ?_)
        refine lv_goto (tgt := 4) hx hb dX2_roomsToldOf_41 (by decide) ?_
        exact ih4 x38 x34 _ _ _ (by rw [i32_i e38 (by have := i32_hi (V 3 7); omega)]; omega) (by rw [i32_i e38 (by have := i32_hi (V 3 7); omega)]; omega) X (lv_sub hl [0, 1, 2] rfl)
  exact L4 _ 0 0 _ _ _ (by decide) (Nat.lt_succ_self _) X (lv_sub hl [0, 1, 2] rfl)
def q_doors (V : sV) : Int32 → sV → Prop := fun x V1 => ((V 3 7).toInt ≤ 0 → x = 0) ∧ V1 = V
set_option maxRecDepth 100000 in
set_option maxHeartbeats 4000000 in
theorem k_doors {l : Launch} {D : va_G} {cI : ClassId} {a : Nat → Nat} (ha : sInj SX a) (V : sV)  : sMI l D cI SX a V yX2_doors cX2_doors 3 .int 2 [.ref (a 3)] (q_doors V) := by
  refine sMIof ha (by decide +kernel) (Nat.le_of_ble_eq_true rfl) ?_
  intro p e s m below meth c ls G X hl
  obtain ⟨hx, hb, hml, hown, hts, hlocks, hr, hK⟩ := id G
  have hl : lv_has ls 3 [(0, .ref (a 3))] := hl
  refine lv_iconst (v := 0) hx hb dX2_doors_0 (by decide) ?_
  refine lv_istore_n (lv' := [(1, .int 0), (0, .ref (a 3))]) hx hb dX2_doors_1 rfl hl (by decide) rfl (fun ls hl => ?_)
  refine lv_iconst (v := 0) hx hb dX2_doors_2 (by decide) ?_
  refine lv_istore_n (lv' := [(2, .int 0), (1, .int 0), (0, .ref (a 3))]) hx hb dX2_doors_3 rfl hl (by decide) rfl (fun ls hl => ?_)
  have L4 : ∀ (fu : Nat) (i : Int32) (z : Int32) (H : Heap) (locs : List Loc) (ls : Array Slot), (0 ≤ i.toInt) → ((V 3 7).toInt ≤ 0 → z = 0) → (((V 3 7).toInt - i.toInt).toNat) < fu → sWS D cI SX a V s.heap H locs → lv_has ls 3 [(2, .int i), (1, .int z), (0, .ref (a 3))] → W p l e (rmD 2) s m ([.ref (a 3)] : List Value).toArray below meth c H locs 0 0 (MQ below (va_Qi (q_doors V) (fun V1 t => va_P D vwCl (sWd cI SX a V1) t.heap) (sA SX a s.heap.size)) ([.ref (a 3)] : List Value).toArray s 0 0 (sA SX a s.heap.size)) (F0 m 4 ls []) := by
    intro fu
    induction fu with
    | zero => intro i z H locs ls hi hz hm; exact absurd hm (Nat.not_lt_zero _)
    | succ fu ih4 =>
      intro i z H locs ls hi hz hm X hl
      refine lv_iload_n hx hb dX2_doors_4 rfl (lv_at hl 0 rfl) ?_
      refine lv_aload_n hx hb dX2_doors_5 rfl (lv_at hl 2 rfl) ?_
      refine sgI G X 3 7 rfl rfl fl_X2_33 dX2_doors_6 ?_
      refine sIge (tgt := 34) hx hb (rfl : Int32.toInt i = _) (rfl : Int32.toInt (V 3 7) = _) dX2_doors_9 (by decide) (fun c9 => ?_) (fun c9 => ?_)
      · skip
        refine lv_iload_n hx hb dX2_doors_34 rfl (lv_at hl 1 rfl) ?_
        exact srI G X (rfl) dX2_doors_35 (by exact ⟨hz, rfl⟩)
      · skip
        refine lv_iload_n hx hb dX2_doors_12 rfl (lv_at hl 1 rfl) ?_
        refine lv_aload_n hx hb dX2_doors_13 rfl (lv_at hl 2 rfl) ?_
        refine lv_iload_n hx hb dX2_doors_14 rfl (lv_at hl 0 rfl) ?_
        refine scI (ci := 2) (As := [.int i]) (rest := [.int z]) G X (k_isDoor ha V i) iy_X2_isDoor ml_X2_61 rfl rfl rfl rfl hl.1 (by decide) (by decide) (Nat.le_of_ble_eq_true rfl) dX2_doors_15 (fun y15 V15 H locs p15 X => ?_)
        obtain ⟨p15, z15⟩ := p15
        subst V15
        refine sZeq (tgt := 25) hx hb (rfl : Int32.toInt y15 = _) dX2_doors_18 (by decide) (fun c18 => ?_) (fun c18 => ?_)
        · skip
          refine lv_iconst (v := 0) hx hb dX2_doors_25 (by decide) ?_
          refine lv_iadd hx hb dX2_doors_26 ?_
          refine lv_topi (fun x26 e26 => ?_)
          refine lv_istore_n (lv' := [(1, .int x26), (2, .int i), (0, .ref (a 3))]) hx hb dX2_doors_27 rfl hl (by decide) rfl (fun ls hl => ?_)
          obtain ⟨x28, e28⟩ : ∃ y : Int32, y = i + (1) := ⟨_, rfl⟩
          refine lv_iinc (v := x28) (lv' := [(2, .int x28), (1, .int x26), (0, .ref (a 3))]) hx hb dX2_doors_28 hl (k := 1) rfl (by rw [e28]; rfl) (by decide) rfl (fun ls hl => ?_)
          refine lv_goto (tgt := 4) hx hb dX2_doors_31 (by decide) ?_
          exact ih4 x28 x26 _ _ _ (by rw [i32_i e28 (by have := i32_hi (V 3 7); omega)]; omega) (fun h => by omega) (by rw [i32_i e28 (by have := i32_hi (V 3 7); omega)]; omega) X (lv_sub hl [0, 1, 2] rfl)
        · skip
          refine lv_iconst (v := 1) hx hb dX2_doors_21 (by decide) ?_
          refine lv_goto (tgt := 26) hx hb dX2_doors_22 (by decide) ?_
          refine lv_iadd hx hb dX2_doors_26 ?_
          refine lv_topi (fun x26 e26 => ?_)
          refine lv_istore_n (lv' := [(1, .int x26), (2, .int i), (0, .ref (a 3))]) hx hb dX2_doors_27 rfl hl (by decide) rfl (fun ls hl => ?_)
          obtain ⟨x28, e28⟩ : ∃ y : Int32, y = i + (1) := ⟨_, rfl⟩
          refine lv_iinc (v := x28) (lv' := [(2, .int x28), (1, .int x26), (0, .ref (a 3))]) hx hb dX2_doors_28 hl (k := 1) rfl (by rw [e28]; rfl) (by decide) rfl (fun ls hl => ?_)
          refine lv_goto (tgt := 4) hx hb dX2_doors_31 (by decide) ?_
          exact ih4 x28 x26 _ _ _ (by rw [i32_i e28 (by have := i32_hi (V 3 7); omega)]; omega) (fun h => by omega) (by rw [i32_i e28 (by have := i32_hi (V 3 7); omega)]; omega) X (lv_sub hl [0, 1, 2] rfl)
  exact L4 _ 0 0 _ _ _ (by decide) (fun _ => rfl) (Nat.lt_succ_self _) X (lv_sub hl [0, 1, 2] rfl)
def q_allSizes (V : sV) : Int32 → sV → Prop := fun x V1 => ((V 3 7).toInt ≤ 0 → x = 0) ∧ V1 = V
set_option maxRecDepth 100000 in
set_option maxHeartbeats 4000000 in
theorem k_allSizes {l : Launch} {D : va_G} {cI : ClassId} {a : Nat → Nat} (ha : sInj SX a) (V : sV)  : sMI l D cI SX a V yX2_allSizes cX2_allSizes 3 .int 1 [.ref (a 3)] (q_allSizes V) := by
  refine sMIof ha (by decide +kernel) (Nat.le_of_ble_eq_true rfl) ?_
  intro p e s m below meth c ls G X hl
  obtain ⟨hx, hb, hml, hown, hts, hlocks, hr, hK⟩ := id G
  have hl : lv_has ls 3 [(0, .ref (a 3))] := hl
  refine lv_iconst (v := 0) hx hb dX2_allSizes_0 (by decide) ?_
  refine lv_istore_n (lv' := [(1, .int 0), (0, .ref (a 3))]) hx hb dX2_allSizes_1 rfl hl (by decide) rfl (fun ls hl => ?_)
  refine lv_iconst (v := 0) hx hb dX2_allSizes_2 (by decide) ?_
  refine lv_istore_n (lv' := [(2, .int 0), (1, .int 0), (0, .ref (a 3))]) hx hb dX2_allSizes_3 rfl hl (by decide) rfl (fun ls hl => ?_)
  have L4 : ∀ (fu : Nat) (i : Int32) (z : Int32) (H : Heap) (locs : List Loc) (ls : Array Slot), (0 ≤ i.toInt) → ((V 3 7).toInt ≤ 0 → z = 0) → (((V 3 7).toInt - i.toInt).toNat) < fu → sWS D cI SX a V s.heap H locs → lv_has ls 3 [(2, .int i), (1, .int z), (0, .ref (a 3))] → W p l e (rmD 1) s m ([.ref (a 3)] : List Value).toArray below meth c H locs 0 0 (MQ below (va_Qi (q_allSizes V) (fun V1 t => va_P D vwCl (sWd cI SX a V1) t.heap) (sA SX a s.heap.size)) ([.ref (a 3)] : List Value).toArray s 0 0 (sA SX a s.heap.size)) (F0 m 4 ls []) := by
    intro fu
    induction fu with
    | zero => intro i z H locs ls hi hz hm; exact absurd hm (Nat.not_lt_zero _)
    | succ fu ih4 =>
      intro i z H locs ls hi hz hm X hl
      refine lv_iload_n hx hb dX2_allSizes_4 rfl (lv_at hl 0 rfl) ?_
      refine lv_aload_n hx hb dX2_allSizes_5 rfl (lv_at hl 2 rfl) ?_
      refine sgI G X 3 7 rfl rfl fl_X2_33 dX2_allSizes_6 ?_
      refine sIge (tgt := 29) hx hb (rfl : Int32.toInt i = _) (rfl : Int32.toInt (V 3 7) = _) dX2_allSizes_9 (by decide) (fun c9 => ?_) (fun c9 => ?_)
      · skip
        refine lv_iload_n hx hb dX2_allSizes_29 rfl (lv_at hl 1 rfl) ?_
        exact srI G X (rfl) dX2_allSizes_30 (by exact ⟨hz, rfl⟩)
      · skip
        refine lv_iload_n hx hb dX2_allSizes_12 rfl (lv_at hl 1 rfl) ?_
        refine lv_aload_n hx hb dX2_allSizes_13 rfl (lv_at hl 2 rfl) ?_
        refine sgR G X 3 3 rfl rfl fl_X2_21 dX2_allSizes_14 ?_
        refine lv_iload_n hx hb dX2_allSizes_17 rfl (lv_at hl 0 rfl) ?_
        refine scSI (As := [.ref (a 7), .int i]) (rest := [.int z]) G X (k_at ha V 7 10 rfl (by first | decide | assumption) i) iy_X5_at ml_X2_37 rfl rfl hl.1 (by decide) (by decide) (Nat.le_of_ble_eq_true rfl) dX2_allSizes_18 (fun y18 V18 H locs p18 X => ?_)
        obtain ⟨p18, z18⟩ := p18
        subst V18
        refine lv_iadd hx hb dX2_allSizes_21 ?_
        refine lv_topi (fun x21 e21 => ?_)
        refine lv_istore_n (lv' := [(1, .int x21), (2, .int i), (0, .ref (a 3))]) hx hb dX2_allSizes_22 rfl hl (by decide) rfl (fun ls hl => ?_)
        obtain ⟨x23, e23⟩ : ∃ y : Int32, y = i + (1) := ⟨_, rfl⟩
        refine lv_iinc (v := x23) (lv' := [(2, .int x23), (1, .int x21), (0, .ref (a 3))]) hx hb dX2_allSizes_23 hl (k := 1) rfl (by rw [e23]; rfl) (by decide) rfl (fun ls hl => ?_)
        refine lv_goto (tgt := 4) hx hb dX2_allSizes_26 (by decide) ?_
        exact ih4 x23 x21 _ _ _ (by rw [i32_i e23 (by have := i32_hi (V 3 7); omega)]; omega) (fun h => by omega) (by rw [i32_i e23 (by have := i32_hi (V 3 7); omega)]; omega) X (lv_sub hl [0, 1, 2] rfl)
  exact L4 _ 0 0 _ _ _ (by decide) (fun _ => rfl) (Nat.lt_succ_self _) X (lv_sub hl [0, 1, 2] rfl)
def q_canBeStopped (V : sV) (i1 i2 : Int32) : Int32 → sV → Prop := fun x V1 => ((x.toInt = 0 ∨ x.toInt = 1) ∧ ((V 3 7).toInt ≤ 0 → i1 = 0 → 0 ≤ i2.toInt → x.toInt = 1)) ∧ V1 = V
set_option maxRecDepth 100000 in
set_option maxHeartbeats 4000000 in
theorem k_canBeStopped {l : Launch} {D : va_G} {cI : ClassId} {a : Nat → Nat} (ha : sInj SX a) (V : sV) (i1 i2 : Int32) : sMI l D cI SX a V yX2_canBeStopped cX2_canBeStopped 5 .boolean 2 [.ref (a 3), .int i1, .int i2] (q_canBeStopped V i1 i2) := by
  refine sMIof ha (by decide +kernel) (Nat.le_of_ble_eq_true rfl) ?_
  intro p e s m below meth c ls G X hl
  obtain ⟨hx, hb, hml, hown, hts, hlocks, hr, hK⟩ := id G
  have hl : lv_has ls 5 [(0, .ref (a 3)), (1, .int i1), (2, .int i2)] := hl
  refine lv_iconst (v := 0) hx hb dX2_canBeStopped_0 (by decide) ?_
  refine lv_istore_n (lv' := [(3, .int 0), (0, .ref (a 3)), (1, .int i1), (2, .int i2)]) hx hb dX2_canBeStopped_1 rfl hl (by decide) rfl (fun ls hl => ?_)
  refine lv_iconst (v := 0) hx hb dX2_canBeStopped_2 (by decide) ?_
  refine lv_istore (lv' := [(4, .int 0), (3, .int 0), (0, .ref (a 3)), (1, .int i1), (2, .int i2)]) hx hb dX2_canBeStopped_3 hl (by decide) rfl (fun ls hl => ?_)
  have L5 : ∀ (fu : Nat) (i : Int32) (z : Int32) (H : Heap) (locs : List Loc) (ls : Array Slot), (0 ≤ i.toInt) → ((V 3 7).toInt ≤ 0 → z = 0) → (((V 3 7).toInt - i.toInt).toNat) < fu → sWS D cI SX a V s.heap H locs → lv_has ls 5 [(4, .int i), (3, .int z), (0, .ref (a 3)), (1, .int i1), (2, .int i2)] → W p l e (rmD 2) s m ([.ref (a 3), .int i1, .int i2] : List Value).toArray below meth c H locs 0 0 (MQ below (va_Qi (q_canBeStopped V i1 i2) (fun V1 t => va_P D vwCl (sWd cI SX a V1) t.heap) (sA SX a s.heap.size)) ([.ref (a 3), .int i1, .int i2] : List Value).toArray s 0 0 (sA SX a s.heap.size)) (F0 m 5 ls []) := by
    intro fu
    induction fu with
    | zero => intro i z H locs ls hi hz hm; exact absurd hm (Nat.not_lt_zero _)
    | succ fu ih5 =>
      intro i z H locs ls hi hz hm X hl
      refine lv_iload hx hb dX2_canBeStopped_5 (lv_at hl 0 rfl) ?_
      refine lv_aload_n hx hb dX2_canBeStopped_7 rfl (lv_at hl 2 rfl) ?_
      refine sgI G X 3 7 rfl rfl fl_X2_33 dX2_canBeStopped_8 ?_
      refine sIge (tgt := 53) hx hb (rfl : Int32.toInt i = _) (rfl : Int32.toInt (V 3 7) = _) dX2_canBeStopped_11 (by decide) (fun c11 => ?_) (fun c11 => ?_)
      · skip
        refine lv_iload_n hx hb dX2_canBeStopped_53 rfl (lv_at hl 3 rfl) ?_
        refine scSI (As := [.int i1]) (rest := []) G X (k_bitCount ha V i1) iy_J6_bitCount_0f7a4 ml_X2_65 rfl rfl hl.1 (by decide) (by decide) (Nat.le_of_ble_eq_true rfl) dX2_canBeStopped_54 (fun y54 V54 H locs p54 X => ?_)
        obtain ⟨p54, z54⟩ := p54
        subst V54
        refine lv_iconst (v := 3) hx hb dX2_canBeStopped_57 (by decide) ?_
        refine sIgt (tgt := 70) hx hb (rfl : Int32.toInt y54 = _) (by decide : (3 : Int32).toInt = 3) dX2_canBeStopped_58 (by decide) (fun c58 => ?_) (fun c58 => ?_)
        · skip
          refine lv_iconst (v := 0) hx hb dX2_canBeStopped_70 (by decide) ?_
          exact srI G X (rfl) dX2_canBeStopped_71 (by first | exact ⟨⟨Or.inr rfl, fun _ _ _ => rfl⟩, rfl⟩ | exact ⟨⟨Or.inl rfl, fun h h2 h3 => by exfalso; have := hz h; subst this; rw [Int32.toInt_zero] at c63; omega⟩, rfl⟩ | exact ⟨⟨Or.inl rfl, fun h h2 h3 => by exfalso; rw [p54 h2, Int32.toInt_zero] at c58; omega⟩, rfl⟩)
        · skip
          refine lv_iload_n hx hb dX2_canBeStopped_61 rfl (lv_at hl 1 rfl) ?_
          refine lv_iload_n hx hb dX2_canBeStopped_62 rfl (lv_at hl 4 rfl) ?_
          refine sIgt (tgt := 70) hx hb (rfl : Int32.toInt z = _) (rfl : Int32.toInt i2 = _) dX2_canBeStopped_63 (by decide) (fun c63 => ?_) (fun c63 => ?_)
          · skip
            refine lv_iconst (v := 0) hx hb dX2_canBeStopped_70 (by decide) ?_
            exact srI G X (rfl) dX2_canBeStopped_71 (by first | exact ⟨⟨Or.inr rfl, fun _ _ _ => rfl⟩, rfl⟩ | exact ⟨⟨Or.inl rfl, fun h h2 h3 => by exfalso; have := hz h; subst this; rw [Int32.toInt_zero] at c63; omega⟩, rfl⟩ | exact ⟨⟨Or.inl rfl, fun h h2 h3 => by exfalso; rw [p54 h2, Int32.toInt_zero] at c58; omega⟩, rfl⟩)
          · skip
            refine lv_iconst (v := 1) hx hb dX2_canBeStopped_66 (by decide) ?_
            refine lv_goto (tgt := 71) hx hb dX2_canBeStopped_67 (by decide) ?_
            exact srI G X (rfl) dX2_canBeStopped_71 (by first | exact ⟨⟨Or.inr rfl, fun _ _ _ => rfl⟩, rfl⟩ | exact ⟨⟨Or.inl rfl, fun h h2 h3 => by exfalso; have := hz h; subst this; rw [Int32.toInt_zero] at c63; omega⟩, rfl⟩ | exact ⟨⟨Or.inl rfl, fun h h2 h3 => by exfalso; rw [p54 h2, Int32.toInt_zero] at c58; omega⟩, rfl⟩)
      · skip
        refine lv_iload_n hx hb dX2_canBeStopped_14 rfl (lv_at hl 3 rfl) ?_
        refine lv_iload hx hb dX2_canBeStopped_15 (lv_at hl 0 rfl) ?_
        refine lv_ishr hx hb dX2_canBeStopped_17 ?_
        refine lv_topi (fun x17 e17 => ?_)
        refine lv_iconst (v := 1) hx hb dX2_canBeStopped_18 (by decide) ?_
        refine lv_iand hx hb dX2_canBeStopped_19 ?_
        refine lv_topi (fun x19 e19 => ?_)
        refine lv_iconst (v := 1) hx hb dX2_canBeStopped_20 (by decide) ?_
        refine sIne (tgt := 47) hx hb (rfl : Int32.toInt x19 = _) (by decide : (1 : Int32).toInt = 1) dX2_canBeStopped_21 (by decide) (fun c21 => ?_) (fun c21 => ?_)
        · skip
          obtain ⟨x47, e47⟩ : ∃ y : Int32, y = i + (1) := ⟨_, rfl⟩
          refine lv_iinc (v := x47) (lv' := [(4, .int x47), (3, .int z), (0, .ref (a 3)), (1, .int i1), (2, .int i2)]) hx hb dX2_canBeStopped_47 hl (k := 0) rfl (by rw [e47]; rfl) (by decide) rfl (fun ls hl => ?_)
          refine lv_goto (tgt := 5) hx hb dX2_canBeStopped_50 (by decide) ?_
          exact ih5 x47 z _ _ _ (by rw [i32_i e47 (by have := i32_hi (V 3 7); omega)]; omega) (fun h => by omega) (by rw [i32_i e47 (by have := i32_hi (V 3 7); omega)]; omega) X (lv_sub hl [0, 1, 2, 3, 4] rfl)
        · skip
          refine lv_aload_n hx hb dX2_canBeStopped_24 rfl (lv_at hl 2 rfl) ?_
          refine lv_iload hx hb dX2_canBeStopped_25 (lv_at hl 0 rfl) ?_
          refine scI (ci := 2) (As := [.int i]) (rest := []) G X (k_isDoor ha V i) iy_X2_isDoor ml_X2_61 rfl rfl rfl rfl hl.1 (by decide) (by decide) (Nat.le_of_ble_eq_true rfl) dX2_canBeStopped_27 (fun y27 V27 H locs p27 X => ?_)
          obtain ⟨p27, z27⟩ := p27
          subst V27
          refine sZeq (tgt := 35) hx hb (rfl : Int32.toInt y27 = _) dX2_canBeStopped_30 (by decide) (fun c30 => ?_) (fun c30 => ?_)
          · skip
            refine lv_iload_n hx hb dX2_canBeStopped_35 rfl (lv_at hl 1 rfl) ?_
            refine lv_aload_n hx hb dX2_canBeStopped_36 rfl (lv_at hl 2 rfl) ?_
            refine sgR G X 3 6 rfl rfl fl_X2_30 dX2_canBeStopped_37 ?_
            refine lv_iload hx hb dX2_canBeStopped_40 (lv_at hl 0 rfl) ?_
            refine scSI (As := [.ref (a 10), .int i]) (rest := [.int z]) G X (k_at ha V 10 10 rfl (by first | decide | assumption) i) iy_X5_at ml_X2_37 rfl rfl hl.1 (by decide) (by decide) (Nat.le_of_ble_eq_true rfl) dX2_canBeStopped_42 (fun y42 V42 H locs p42 X => ?_)
            obtain ⟨p42, z42⟩ := p42
            subst V42
            refine lv_iadd hx hb dX2_canBeStopped_45 ?_
            refine lv_topi (fun x45 e45 => ?_)
            refine lv_istore_n (lv' := [(3, .int x45), (4, .int i), (0, .ref (a 3)), (1, .int i1), (2, .int i2)]) hx hb dX2_canBeStopped_46 rfl hl (by decide) rfl (fun ls hl => ?_)
            obtain ⟨x47, e47⟩ : ∃ y : Int32, y = i + (1) := ⟨_, rfl⟩
            refine lv_iinc (v := x47) (lv' := [(4, .int x47), (3, .int x45), (0, .ref (a 3)), (1, .int i1), (2, .int i2)]) hx hb dX2_canBeStopped_47 hl (k := 1) rfl (by rw [e47]; rfl) (by decide) rfl (fun ls hl => ?_)
            refine lv_goto (tgt := 5) hx hb dX2_canBeStopped_50 (by decide) ?_
            exact ih5 x47 x45 _ _ _ (by rw [i32_i e47 (by have := i32_hi (V 3 7); omega)]; omega) (fun h => by omega) (by rw [i32_i e47 (by have := i32_hi (V 3 7); omega)]; omega) X (lv_sub hl [0, 1, 2, 3, 4] rfl)
          · skip
            refine lv_iconst (v := 0) hx hb dX2_canBeStopped_33 (by decide) ?_
            exact srI G X (rfl) dX2_canBeStopped_34 (by exact ⟨⟨Or.inl rfl, fun h => by omega⟩, rfl⟩)
  exact L5 _ 0 0 _ _ _ (by decide) (fun _ => rfl) (Nat.lt_succ_self _) X (lv_sub hl [0, 1, 2, 3, 4] rfl)
def q_outsidePush (V : sV) (i : Int32) (r : Nat) : Int32 → sV → Prop := fun x V1 => (V r 1 = 0 → rAt 10 (V 6) i = 0 → rAt 10 (V 8) i = 5 → x = 0) ∧ V1 = V
set_option maxRecDepth 100000 in
set_option maxHeartbeats 4000000 in
theorem k_outsidePush {l : Launch} {D : va_G} {cI : ClassId} {a : Nat → Nat} (ha : sInj SX a) (V : sV) (i : Int32) (r : Nat) (hr0 : SX[r]? = some (.inr (0, [none, none, none, none]))) : sMI l D cI SX a V yX2_outsidePush cX2_outsidePush 7 .int 1 [.ref (a 3), .int i, .ref (a r)] (q_outsidePush V i r) := by
  refine sMIof ha (by decide +kernel) (Nat.le_of_ble_eq_true rfl) ?_
  intro p e s m below meth c ls G X hl
  obtain ⟨hx, hb, hml, hown, hts, hlocks, hr, hK⟩ := id G
  have hl : lv_has ls 7 [(0, .ref (a 3)), (1, .int i), (2, .ref (a r))] := hl
  refine lv_aload_n hx hb dX2_outsidePush_0 rfl (lv_at hl 2 rfl) ?_
  refine lv_aload_n hx hb dX2_outsidePush_1 rfl (lv_at hl 0 rfl) ?_
  refine sgR G X 3 5 rfl rfl fl_X2_27 dX2_outsidePush_2 ?_
  refine lv_iload_n hx hb dX2_outsidePush_5 rfl (lv_at hl 1 rfl) ?_
  refine scSI (As := [.ref (a 9), .int i]) (rest := [.ref (a r)]) G X (k_at ha V 9 10 rfl (by first | decide | assumption) i) iy_X5_at ml_X2_37 rfl rfl hl.1 (by decide) (by decide) (Nat.le_of_ble_eq_true rfl) dX2_outsidePush_6 (fun y6 V6 H locs p6 X => ?_)
  obtain ⟨p6, z6⟩ := p6
  subst V6
  refine scI (ci := 0) (As := [.int y6]) (rest := []) G X (k_windAt ha V r hr0 y6) iy_X0_windAt ml_X2_71 rfl hr0 rfl rfl hl.1 (by decide) (by decide) (Nat.le_of_ble_eq_true rfl) dX2_outsidePush_9 (fun y9 V9 H locs p9 X => ?_)
  obtain ⟨p9, z9⟩ := p9
  subst V9
  refine lv_istore_n (lv' := [(3, .int y9), (0, .ref (a 3)), (1, .int i), (2, .ref (a r))]) hx hb dX2_outsidePush_12 rfl hl (by decide) rfl (fun ls hl => ?_)
  refine lv_aload_n hx hb dX2_outsidePush_13 rfl (lv_at hl 3 rfl) ?_
  refine sgI G X r 0 hr0 rfl fl_X2_76 dX2_outsidePush_14 ?_
  refine lv_iconst (v := 5) hx hb dX2_outsidePush_17 (by decide) ?_
  refine lv_aload_n hx hb dX2_outsidePush_18 rfl (lv_at hl 1 rfl) ?_
  refine sgR G X 3 4 rfl rfl fl_X2_24 dX2_outsidePush_19 ?_
  refine lv_iload_n hx hb dX2_outsidePush_22 rfl (lv_at hl 2 rfl) ?_
  refine scSI (As := [.ref (a 8), .int i]) (rest := [.int 5, .int (V r 0)]) G X (k_at ha V 8 10 rfl (by first | decide | assumption) i) iy_X5_at ml_X2_37 rfl rfl hl.1 (by decide) (by decide) (Nat.le_of_ble_eq_true rfl) dX2_outsidePush_23 (fun y23 V23 H locs p23 X => ?_)
  obtain ⟨p23, z23⟩ := p23
  subst V23
  refine lv_isub hx hb dX2_outsidePush_26 ?_
  refine lv_topi (fun x26 e26 => ?_)
  refine lv_imul hx hb dX2_outsidePush_27 ?_
  refine lv_topi (fun x27 e27 => ?_)
  refine lv_iload_n hx hb dX2_outsidePush_28 rfl (lv_at hl 0 rfl) ?_
  refine lv_iadd hx hb dX2_outsidePush_29 ?_
  refine lv_topi (fun x29 e29 => ?_)
  refine lv_istore (lv' := [(4, .int x29), (3, .int y9), (0, .ref (a 3)), (1, .int i), (2, .ref (a r))]) hx hb dX2_outsidePush_30 hl (by decide) rfl (fun ls hl => ?_)
  refine lv_iload hx hb dX2_outsidePush_32 (lv_at hl 0 rfl) ?_
  refine lv_aload_n hx hb dX2_outsidePush_34 rfl (lv_at hl 4 rfl) ?_
  refine sgI G X r 0 hr0 rfl fl_X2_76 dX2_outsidePush_35 ?_
  refine lv_isub hx hb dX2_outsidePush_38 ?_
  refine lv_topi (fun x38 e38 => ?_)
  refine lv_istore (lv' := [(5, .int x38), (4, .int x29), (3, .int y9), (0, .ref (a 3)), (1, .int i), (2, .ref (a r))]) hx hb dX2_outsidePush_39 hl (by decide) rfl (fun ls hl => ?_)
  refine lv_iload hx hb dX2_outsidePush_41 (lv_at hl 0 rfl) ?_
  refine lv_iconst (v := 3) hx hb dX2_outsidePush_43 (by decide) ?_
  refine lv_aload_n hx hb dX2_outsidePush_44 rfl (lv_at hl 5 rfl) ?_
  refine sgI G X r 0 hr0 rfl fl_X2_76 dX2_outsidePush_45 ?_
  refine lv_imul hx hb dX2_outsidePush_48 ?_
  refine lv_topi (fun x48 e48 => ?_)
  refine lv_isub hx hb dX2_outsidePush_49 ?_
  refine lv_topi (fun x49 e49 => ?_)
  refine lv_iconst (v := 2) hx hb dX2_outsidePush_50 (by decide) ?_
  refine lv_aload_n hx hb dX2_outsidePush_51 rfl (lv_at hl 5 rfl) ?_
  refine sgI G X r 1 hr0 rfl fl_X2_79 dX2_outsidePush_52 ?_
  refine lv_imul hx hb dX2_outsidePush_55 ?_
  refine lv_topi (fun x55 e55 => ?_)
  refine lv_isub hx hb dX2_outsidePush_56 ?_
  refine lv_topi (fun x56 e56 => ?_)
  refine lv_istore (lv' := [(6, .int x56), (5, .int x38), (4, .int x29), (3, .int y9), (0, .ref (a 3)), (1, .int i), (2, .ref (a r))]) hx hb dX2_outsidePush_57 hl (by decide) rfl (fun ls hl => ?_)
  refine lv_aload_n hx hb dX2_outsidePush_59 rfl (lv_at hl 4 rfl) ?_
  refine sgR G X 3 2 rfl rfl fl_X2_18 dX2_outsidePush_60 ?_
  refine lv_iload_n hx hb dX2_outsidePush_63 rfl (lv_at hl 5 rfl) ?_
  refine scSI (As := [.ref (a 6), .int i]) (rest := []) G X (k_at ha V 6 10 rfl (by first | decide | assumption) i) iy_X5_at ml_X2_37 rfl rfl hl.1 (by decide) (by decide) (Nat.le_of_ble_eq_true rfl) dX2_outsidePush_64 (fun y64 V64 H locs p64 X => ?_)
  obtain ⟨p64, z64⟩ := p64
  subst V64
  by_cases hs67 : Int32.toInt y64 < 1 ∨ 6 < Int32.toInt y64
  · refine lv_tableOut (tgt := 137) hx hb dX2_outsidePush_67 hs67 (by decide) ?_
    refine lv_iload hx hb dX2_outsidePush_137 (lv_at hl 2 rfl) ?_
    exact srI G X (rfl) dX2_outsidePush_139 (by exact ⟨fun h1 h2 h3 => by rw [e29, e27, e26, p23, h3, p9 h1]; simp, rfl⟩)
  by_cases hs67_0 : Int32.toInt y64 = 1
  · refine lv_tableIn (tgt := 104) (off := 37) hx hb dX2_outsidePush_67 (by rw [hs67_0]; decide) (by rw [hs67_0]; decide) (by rw [hs67_0]; rfl) (by decide) ?_
    refine lv_iload hx hb dX2_outsidePush_104 (lv_at hl 2 rfl) ?_
    refine lv_aload_n hx hb dX2_outsidePush_106 rfl (lv_at hl 6 rfl) ?_
    refine sgI G X r 0 hr0 rfl fl_X2_76 dX2_outsidePush_107 ?_
    refine lv_iadd hx hb dX2_outsidePush_110 ?_
    refine lv_topi (fun x110 e110 => ?_)
    exact srI G X (rfl) dX2_outsidePush_111 (by exact ⟨fun h1 h2 h3 => by exfalso; have h5 : y64.toInt = 0 := (by rw [p64, h2]; rfl); omega, rfl⟩)
  by_cases hs67_1 : Int32.toInt y64 = 2
  · refine lv_tableIn (tgt := 112) (off := 45) hx hb dX2_outsidePush_67 (by rw [hs67_1]; decide) (by rw [hs67_1]; decide) (by rw [hs67_1]; rfl) (by decide) ?_
    refine lv_iload hx hb dX2_outsidePush_112 (lv_at hl 1 rfl) ?_
    exact srI G X (rfl) dX2_outsidePush_114 (by exact ⟨fun h1 h2 h3 => by exfalso; have h5 : y64.toInt = 0 := (by rw [p64, h2]; rfl); omega, rfl⟩)
  by_cases hs67_2 : Int32.toInt y64 = 3
  · refine lv_tableIn (tgt := 115) (off := 48) hx hb dX2_outsidePush_67 (by rw [hs67_2]; decide) (by rw [hs67_2]; decide) (by rw [hs67_2]; rfl) (by decide) ?_
    refine lv_iload hx hb dX2_outsidePush_115 (lv_at hl 2 rfl) ?_
    refine lv_iload_n hx hb dX2_outsidePush_117 rfl (lv_at hl 3 rfl) ?_
    refine lv_iadd hx hb dX2_outsidePush_118 ?_
    refine lv_topi (fun x118 e118 => ?_)
    exact srI G X (rfl) dX2_outsidePush_119 (by exact ⟨fun h1 h2 h3 => by exfalso; have h5 : y64.toInt = 0 := (by rw [p64, h2]; rfl); omega, rfl⟩)
  by_cases hs67_3 : Int32.toInt y64 = 4
  · refine lv_tableIn (tgt := 120) (off := 53) hx hb dX2_outsidePush_67 (by rw [hs67_3]; decide) (by rw [hs67_3]; decide) (by rw [hs67_3]; rfl) (by decide) ?_
    refine lv_iload hx hb dX2_outsidePush_120 (lv_at hl 0 rfl) ?_
    exact srI G X (rfl) dX2_outsidePush_122 (by exact ⟨fun h1 h2 h3 => by exfalso; have h5 : y64.toInt = 0 := (by rw [p64, h2]; rfl); omega, rfl⟩)
  by_cases hs67_4 : Int32.toInt y64 = 5
  · refine lv_tableIn (tgt := 123) (off := 56) hx hb dX2_outsidePush_67 (by rw [hs67_4]; decide) (by rw [hs67_4]; decide) (by rw [hs67_4]; rfl) (by decide) ?_
    refine lv_iload hx hb dX2_outsidePush_123 (lv_at hl 2 rfl) ?_
    refine lv_aload_n hx hb dX2_outsidePush_125 rfl (lv_at hl 6 rfl) ?_
    refine sgI G X r 3 hr0 rfl fl_X2_82 dX2_outsidePush_126 ?_
    refine lv_iadd hx hb dX2_outsidePush_129 ?_
    refine lv_topi (fun x129 e129 => ?_)
    exact srI G X (rfl) dX2_outsidePush_130 (by exact ⟨fun h1 h2 h3 => by exfalso; have h5 : y64.toInt = 0 := (by rw [p64, h2]; rfl); omega, rfl⟩)
  by_cases hs67_5 : Int32.toInt y64 = 6
  · refine lv_tableIn (tgt := 131) (off := 64) hx hb dX2_outsidePush_67 (by rw [hs67_5]; decide) (by rw [hs67_5]; decide) (by rw [hs67_5]; rfl) (by decide) ?_
    refine lv_iload hx hb dX2_outsidePush_131 (lv_at hl 0 rfl) ?_
    refine lv_bipush (v := 20) hx hb dX2_outsidePush_133 (by decide) ?_
    refine lv_isub hx hb dX2_outsidePush_135 ?_
    refine lv_topi (fun x135 e135 => ?_)
    exact srI G X (rfl) dX2_outsidePush_136 (by exact ⟨fun h1 h2 h3 => by exfalso; have h5 : y64.toInt = 0 := (by rw [p64, h2]; rfl); omega, rfl⟩)
  exact absurd hs67 (by omega)
def q_oBecome (V : sV) (r r1 r2 r3 r4 r5 r6 r7 : Nat) : sV → Prop := fun V1 => sAg [r, r1, r2, r3, r4, r5, r6, r7] V V1
set_option maxRecDepth 100000 in
set_option maxHeartbeats 4000000 in
theorem k_oBecome {l : Launch} {D : va_G} {cI : ClassId} {a : Nat → Nat} (ha : sInj SX a) (V : sV) (r r1 r2 r3 r4 r5 r6 r7 : Nat) (hr0 : SX[r]? = some (.inr (2, [some r1, some r2, some r3, some r4, some r5, some r6, some r7, none]))) (h1 : SX[r1]? = some (.inl 10)) (h2 : SX[r2]? = some (.inl 10)) (h3 : SX[r3]? = some (.inl 10)) (h4 : SX[r4]? = some (.inl 10)) (h5 : SX[r5]? = some (.inl 10)) (h6 : SX[r6]? = some (.inl 10)) (h7 : SX[r7]? = some (.inl 10)) (o o1 o2 o3 o4 o5 o6 o7 : Nat) (ho0 : SX[o]? = some (.inr (2, [some o1, some o2, some o3, some o4, some o5, some o6, some o7, none]))) (g1 : SX[o1]? = some (.inl 10)) (g2 : SX[o2]? = some (.inl 10)) (g3 : SX[o3]? = some (.inl 10)) (g4 : SX[o4]? = some (.inl 10)) (g5 : SX[o5]? = some (.inl 10)) (g6 : SX[o6]? = some (.inl 10)) (g7 : SX[o7]? = some (.inl 10)) (n1 : o1 ≠ r1) (n2 : o2 ≠ r2) (n3 : o3 ≠ r3) (n4 : o4 ≠ r4) (n5 : o5 ≠ r5) (n6 : o6 ≠ r6) (n7 : o7 ≠ r7) : sMV l D cI SX a V yX2_become cX2_become 2 1 [.ref (a r), .ref (a o)] (q_oBecome V r r1 r2 r3 r4 r5 r6 r7) := by
  refine sMVof ha (by decide +kernel) (Nat.le_of_ble_eq_true rfl) ?_
  intro p e s m below meth c ls G X hl
  obtain ⟨hx, hb, hml, hown, hts, hlocks, hr, hK⟩ := id G
  have hl : lv_has ls 2 [(0, .ref (a r)), (1, .ref (a o))] := hl
  refine lv_aload_n hx hb dX2_become_0 rfl (lv_at hl 1 rfl) ?_
  refine sgR G X o 0 ho0 rfl fl_X2_9 dX2_become_1 ?_
  refine lv_aload_n hx hb dX2_become_4 rfl (lv_at hl 0 rfl) ?_
  refine sgR G X r 0 hr0 rfl fl_X2_9 dX2_become_5 ?_
  refine scSV (As := [.ref (a o1), .ref (a r1)]) (rest := []) G X (k_copy ha V o1 r1 10 g1 h1 (by first | decide | assumption) (by first | decide | assumption)) iy_X5_copy ml_X2_57 rfl rfl hl.1 (by decide) (by decide) (Nat.le_of_ble_eq_true rfl) dX2_become_8 (fun V8 H locs p8 X => ?_)
  refine lv_aload_n hx hb dX2_become_11 rfl (lv_at hl 1 rfl) ?_
  refine sgR G X o 1 ho0 rfl fl_X2_15 dX2_become_12 ?_
  refine lv_aload_n hx hb dX2_become_15 rfl (lv_at hl 0 rfl) ?_
  refine sgR G X r 1 hr0 rfl fl_X2_15 dX2_become_16 ?_
  refine scSV (As := [.ref (a o2), .ref (a r2)]) (rest := []) G X (k_copy ha V8 o2 r2 10 g2 h2 (by first | decide | assumption) (by first | decide | assumption)) iy_X5_copy ml_X2_57 rfl rfl hl.1 (by decide) (by decide) (Nat.le_of_ble_eq_true rfl) dX2_become_19 (fun V19 H locs p19 X => ?_)
  refine lv_aload_n hx hb dX2_become_22 rfl (lv_at hl 1 rfl) ?_
  refine sgR G X o 2 ho0 rfl fl_X2_18 dX2_become_23 ?_
  refine lv_aload_n hx hb dX2_become_26 rfl (lv_at hl 0 rfl) ?_
  refine sgR G X r 2 hr0 rfl fl_X2_18 dX2_become_27 ?_
  refine scSV (As := [.ref (a o3), .ref (a r3)]) (rest := []) G X (k_copy ha V19 o3 r3 10 g3 h3 (by first | decide | assumption) (by first | decide | assumption)) iy_X5_copy ml_X2_57 rfl rfl hl.1 (by decide) (by decide) (Nat.le_of_ble_eq_true rfl) dX2_become_30 (fun V30 H locs p30 X => ?_)
  refine lv_aload_n hx hb dX2_become_33 rfl (lv_at hl 1 rfl) ?_
  refine sgR G X o 3 ho0 rfl fl_X2_21 dX2_become_34 ?_
  refine lv_aload_n hx hb dX2_become_37 rfl (lv_at hl 0 rfl) ?_
  refine sgR G X r 3 hr0 rfl fl_X2_21 dX2_become_38 ?_
  refine scSV (As := [.ref (a o4), .ref (a r4)]) (rest := []) G X (k_copy ha V30 o4 r4 10 g4 h4 (by first | decide | assumption) (by first | decide | assumption)) iy_X5_copy ml_X2_57 rfl rfl hl.1 (by decide) (by decide) (Nat.le_of_ble_eq_true rfl) dX2_become_41 (fun V41 H locs p41 X => ?_)
  refine lv_aload_n hx hb dX2_become_44 rfl (lv_at hl 1 rfl) ?_
  refine sgR G X o 4 ho0 rfl fl_X2_24 dX2_become_45 ?_
  refine lv_aload_n hx hb dX2_become_48 rfl (lv_at hl 0 rfl) ?_
  refine sgR G X r 4 hr0 rfl fl_X2_24 dX2_become_49 ?_
  refine scSV (As := [.ref (a o5), .ref (a r5)]) (rest := []) G X (k_copy ha V41 o5 r5 10 g5 h5 (by first | decide | assumption) (by first | decide | assumption)) iy_X5_copy ml_X2_57 rfl rfl hl.1 (by decide) (by decide) (Nat.le_of_ble_eq_true rfl) dX2_become_52 (fun V52 H locs p52 X => ?_)
  refine lv_aload_n hx hb dX2_become_55 rfl (lv_at hl 1 rfl) ?_
  refine sgR G X o 5 ho0 rfl fl_X2_27 dX2_become_56 ?_
  refine lv_aload_n hx hb dX2_become_59 rfl (lv_at hl 0 rfl) ?_
  refine sgR G X r 5 hr0 rfl fl_X2_27 dX2_become_60 ?_
  refine scSV (As := [.ref (a o6), .ref (a r6)]) (rest := []) G X (k_copy ha V52 o6 r6 10 g6 h6 (by first | decide | assumption) (by first | decide | assumption)) iy_X5_copy ml_X2_57 rfl rfl hl.1 (by decide) (by decide) (Nat.le_of_ble_eq_true rfl) dX2_become_63 (fun V63 H locs p63 X => ?_)
  refine lv_aload_n hx hb dX2_become_66 rfl (lv_at hl 1 rfl) ?_
  refine sgR G X o 6 ho0 rfl fl_X2_30 dX2_become_67 ?_
  refine lv_aload_n hx hb dX2_become_70 rfl (lv_at hl 0 rfl) ?_
  refine sgR G X r 6 hr0 rfl fl_X2_30 dX2_become_71 ?_
  refine scSV (As := [.ref (a o7), .ref (a r7)]) (rest := []) G X (k_copy ha V63 o7 r7 10 g7 h7 (by first | decide | assumption) (by first | decide | assumption)) iy_X5_copy ml_X2_57 rfl rfl hl.1 (by decide) (by decide) (Nat.le_of_ble_eq_true rfl) dX2_become_74 (fun V74 H locs p74 X => ?_)
  refine lv_aload_n hx hb dX2_become_77 rfl (lv_at hl 0 rfl) ?_
  refine lv_aload_n hx hb dX2_become_78 rfl (lv_at hl 1 rfl) ?_
  refine sgI G X o 7 ho0 rfl fl_X2_33 dX2_become_79 ?_
  refine spI G X r 7 hr0 rfl fp_X2_33 dX2_become_82 (fun H locs X => ?_)
  exact srV G X dX2_become_85 (by obtain ⟨f8, e8, -⟩ := p8; obtain ⟨f19, e19, -⟩ := p19; obtain ⟨f30, e30, -⟩ := p30; obtain ⟨f41, e41, -⟩ := p41; obtain ⟨f52, e52, -⟩ := p52; obtain ⟨f63, e63, -⟩ := p63; obtain ⟨f74, e74, -⟩ := p74; rw [e74, e63, e52, e41, e30, e19, e8]; exact (((((((sAg.rf.up (by simp)).up (by simp)).up (by simp)).up (by simp)).up (by simp)).up (by simp)).up (by simp)).up (by simp))
