theorem sQuiet.ag {V V' : sV} {L : List Nat} {r : Nat} (h : sQuiet V r) (hA : sAg L V V') (hr : r ∉ L) (h3 : 3 ∉ L) (h6 : 6 ∉ L) (h8 : 8 ∉ L) : sQuiet V' r := by
  unfold sQuiet
  rw [hA r hr, hA 3 h3, hA 6 h6, hA 8 h8]
  exact h
/-- a new object of the class, as far as its answers show -/
def sFr (V : sV) : Prop := V 3 7 = 0 ∧ V 15 1 = 0 ∧ V 45 0 = 0 ∧ V 11 3 = 0 ∧ V 2 0 = 2 ∧ V 16 1 = 0 ∧ V 18 1 = 0 ∧ V 0 2 = 0 ∧ (∀ j, V 1 j = 0) ∧ V 15 0 = 10 ∧ V 15 2 = 0 ∧ V 15 3 = 0
theorem sFr.many {V : sV} (h : sFr V) : (V 3 7).toInt ≤ 0 := by rw [h.1]; decide
theorem sFr.quiet {V : sV} (h : sFr V) : sQuiet V 15 := ⟨h.2.1, by rw [h.1]; decide, fun i h1 h2 => by rw [h.1] at h2; exact absurd h2 (by show ¬ i.toInt < 0; omega)⟩
def nowF (f : Nat → Int32) (w : Int32) : Int32 := if w.toInt = 0 then f 0 else if w.toInt = 1 then f 1 else if w.toInt = 2 then f 2 else f 3
def q_told2 (V : sV) : sV → Prop := fun V1 => sAg [2, 3, 4, 5, 6, 7, 8, 9, 10, 11, 12, 13, 14, 15, 16, 17, 18, 19] V V1 ∧ V1 15 0 = V 33 0 ∧ V1 15 1 = V 33 1 ∧ V1 15 2 = V 33 2 ∧ V1 15 3 = V 33 3
set_option maxRecDepth 100000 in
set_option maxHeartbeats 4000000 in
theorem k_told2 {l : Launch} {D : va_G} {cI : ClassId} {a : Nat → Nat} (ha : sInj SX a) (V : sV)  : sMV l D cI SX a V yX7_become cX7_become 2 2 [.ref (a 2), .ref (a 20)] (q_told2 V) := by
  refine sMVof ha (by decide +kernel) (Nat.le_of_ble_eq_true rfl) ?_
  intro p e s m below meth c ls G X hl
  obtain ⟨hx, hb, hml, hown, hts, hlocks, hr, hK⟩ := id G
  have hl : lv_has ls 2 [(0, .ref (a 2)), (1, .ref (a 20))] := hl
  refine lv_aload_n hx hb dX7_become_0 rfl (lv_at hl 0 rfl) ?_
  refine lv_aload_n hx hb dX7_become_1 rfl (lv_at hl 1 rfl) ?_
  refine sgI G X 20 0 rfl rfl fl_X7_9 dX7_become_2 ?_
  refine spI G X 2 0 rfl rfl fp_X7_9 dX7_become_5 (fun H locs X => ?_)
  refine lv_aload_n hx hb dX7_become_8 rfl (lv_at hl 0 rfl) ?_
  refine sgR G X 2 1 rfl rfl fl_X7_18 dX7_become_9 ?_
  refine lv_aload_n hx hb dX7_become_12 rfl (lv_at hl 1 rfl) ?_
  refine sgR G X 20 1 rfl rfl fl_X7_18 dX7_become_13 ?_
  refine scV (ci := 2) (As := [.ref (a 21)]) (rest := []) G X (k_oBecome ha (sUp V 2 (upd (V 2) 0 (V 20 0))) 3 4 5 6 7 8 9 10 rfl rfl rfl rfl rfl rfl rfl rfl 21 22 23 24 25 26 27 28 rfl rfl rfl rfl rfl rfl rfl rfl (by first | decide | assumption) (by first | decide | assumption) (by first | decide | assumption) (by first | decide | assumption) (by first | decide | assumption) (by first | decide | assumption) (by first | decide | assumption)) iy_X2_become ml_X7_51 rfl rfl rfl rfl hl.1 (by decide) (by decide) (Nat.le_of_ble_eq_true rfl) dX7_become_16 (fun V16 H locs p16 X => ?_)
  refine lv_aload_n hx hb dX7_become_19 rfl (lv_at hl 0 rfl) ?_
  refine sgR G X 2 2 rfl rfl fl_X7_25 dX7_become_20 ?_
  refine lv_aload_n hx hb dX7_become_23 rfl (lv_at hl 1 rfl) ?_
  refine sgR G X 20 2 rfl rfl fl_X7_25 dX7_become_24 ?_
  refine scV (ci := 7) (As := [.ref (a 29)]) (rest := []) G X (k_wBecome ha V16 11 12 13 14 rfl rfl rfl rfl 29 30 31 32 rfl rfl rfl rfl (by first | decide | assumption) (by first | decide | assumption) (by first | decide | assumption)) iy_X8_become ml_X7_55 rfl rfl rfl rfl hl.1 (by decide) (by decide) (Nat.le_of_ble_eq_true rfl) dX7_become_27 (fun V27 H locs p27 X => ?_)
  refine lv_aload_n hx hb dX7_become_30 rfl (lv_at hl 0 rfl) ?_
  refine sgR G X 2 3 rfl rfl fl_X7_32 dX7_become_31 ?_
  refine lv_aload_n hx hb dX7_become_34 rfl (lv_at hl 1 rfl) ?_
  refine sgR G X 20 3 rfl rfl fl_X7_32 dX7_become_35 ?_
  refine sgI G X 33 0 rfl rfl fl_X7_36 dX7_become_38 ?_
  refine lv_aload_n hx hb dX7_become_41 rfl (lv_at hl 1 rfl) ?_
  refine sgR G X 20 3 rfl rfl fl_X7_32 dX7_become_42 ?_
  refine sgI G X 33 1 rfl rfl fl_X7_58 dX7_become_45 ?_
  refine lv_aload_n hx hb dX7_become_48 rfl (lv_at hl 1 rfl) ?_
  refine sgR G X 20 3 rfl rfl fl_X7_32 dX7_become_49 ?_
  refine sgI G X 33 2 rfl rfl fl_X7_61 dX7_become_52 ?_
  refine lv_aload_n hx hb dX7_become_55 rfl (lv_at hl 1 rfl) ?_
  refine sgR G X 20 3 rfl rfl fl_X7_32 dX7_become_56 ?_
  refine sgI G X 33 3 rfl rfl fl_X7_64 dX7_become_59 ?_
  refine scV (ci := 0) (As := [.int (V27 33 0), .int (V27 33 1), .int (V27 33 2), .int (V27 33 3)]) (rest := []) G X (k_airBecome ha V27 15 rfl (V27 33 0) (V27 33 1) (V27 33 2) (V27 33 3)) iy_X0_become ml_X7_67 rfl rfl rfl rfl hl.1 (by decide) (by decide) (Nat.le_of_ble_eq_true rfl) dX7_become_62 (fun V62 H locs p62 X => ?_)
  refine lv_aload_n hx hb dX7_become_65 rfl (lv_at hl 0 rfl) ?_
  refine sgR G X 2 4 rfl rfl fl_X7_44 dX7_become_66 ?_
  refine lv_aload_n hx hb dX7_become_69 rfl (lv_at hl 1 rfl) ?_
  refine sgR G X 20 4 rfl rfl fl_X7_44 dX7_become_70 ?_
  refine scV (ci := 4) (As := [.ref (a 34)]) (rest := []) G X (k_rowBecome ha V62 16 17 80 rfl rfl (by first | decide | assumption) (by first | decide | assumption) 34 35 rfl rfl (by first | decide | assumption)) iy_X4_become ml_X7_70 rfl rfl rfl rfl hl.1 (by decide) (by decide) (Nat.le_of_ble_eq_true rfl) dX7_become_73 (fun V73 H locs p73 X => ?_)
  refine lv_aload_n hx hb dX7_become_76 rfl (lv_at hl 0 rfl) ?_
  refine sgR G X 2 5 rfl rfl fl_X7_48 dX7_become_77 ?_
  refine lv_aload_n hx hb dX7_become_80 rfl (lv_at hl 1 rfl) ?_
  refine sgR G X 20 5 rfl rfl fl_X7_48 dX7_become_81 ?_
  refine scV (ci := 4) (As := [.ref (a 36)]) (rest := []) G X (k_rowBecome ha V73 18 19 10 rfl rfl (by first | decide | assumption) (by first | decide | assumption) 36 37 rfl rfl (by first | decide | assumption)) iy_X4_become ml_X7_70 rfl rfl rfl rfl hl.1 (by decide) (by decide) (Nat.le_of_ble_eq_true rfl) dX7_become_84 (fun V84 H locs p84 X => ?_)
  exact srV G X dX7_become_87 (by (have hB : sAg [2, 3, 4, 5, 6, 7, 8, 9, 10, 11, 12, 13, 14] V V27 := ((sAg.rf.up (by decide)).tr ((sAg.mono p16 (by decide)).tr (sAg.mono p27 (by decide)))); have hC : sAg [16, 17, 18, 19] V62 V84 := ((sAg.mono p73 (by decide)).tr (sAg.mono p84 (by decide))); refine ⟨(hB.mono (by decide)).tr ((sAg.mono p62.1 (by decide)).tr (hC.mono (by decide))), ?_, ?_, ?_, ?_⟩ <;> rw [hC 15 (by decide)] <;> first | (rw [p62.2.1, hB 33 (by decide)]) | (rw [p62.2.2.1, hB 33 (by decide)]) | (rw [p62.2.2.2.1, hB 33 (by decide)]) | (rw [p62.2.2.2.2, hB 33 (by decide)])))
def q_told20 (V : sV) : sV → Prop := fun V1 => sAg [20, 21, 22, 23, 24, 25, 26, 27, 28, 29, 30, 31, 32, 33, 34, 35, 36, 37] V V1 ∧ V1 33 0 = V 15 0 ∧ V1 33 1 = V 15 1 ∧ V1 33 2 = V 15 2 ∧ V1 33 3 = V 15 3
set_option maxRecDepth 100000 in
set_option maxHeartbeats 4000000 in
theorem k_told20 {l : Launch} {D : va_G} {cI : ClassId} {a : Nat → Nat} (ha : sInj SX a) (V : sV)  : sMV l D cI SX a V yX7_become cX7_become 2 2 [.ref (a 20), .ref (a 2)] (q_told20 V) := by
  refine sMVof ha (by decide +kernel) (Nat.le_of_ble_eq_true rfl) ?_
  intro p e s m below meth c ls G X hl
  obtain ⟨hx, hb, hml, hown, hts, hlocks, hr, hK⟩ := id G
  have hl : lv_has ls 2 [(0, .ref (a 20)), (1, .ref (a 2))] := hl
  refine lv_aload_n hx hb dX7_become_0 rfl (lv_at hl 0 rfl) ?_
  refine lv_aload_n hx hb dX7_become_1 rfl (lv_at hl 1 rfl) ?_
  refine sgI G X 2 0 rfl rfl fl_X7_9 dX7_become_2 ?_
  refine spI G X 20 0 rfl rfl fp_X7_9 dX7_become_5 (fun H locs X => ?_)
  refine lv_aload_n hx hb dX7_become_8 rfl (lv_at hl 0 rfl) ?_
  refine sgR G X 20 1 rfl rfl fl_X7_18 dX7_become_9 ?_
  refine lv_aload_n hx hb dX7_become_12 rfl (lv_at hl 1 rfl) ?_
  refine sgR G X 2 1 rfl rfl fl_X7_18 dX7_become_13 ?_
  refine scV (ci := 2) (As := [.ref (a 3)]) (rest := []) G X (k_oBecome ha (sUp V 20 (upd (V 20) 0 (V 2 0))) 21 22 23 24 25 26 27 28 rfl rfl rfl rfl rfl rfl rfl rfl 3 4 5 6 7 8 9 10 rfl rfl rfl rfl rfl rfl rfl rfl (by first | decide | assumption) (by first | decide | assumption) (by first | decide | assumption) (by first | decide | assumption) (by first | decide | assumption) (by first | decide | assumption) (by first | decide | assumption)) iy_X2_become ml_X7_51 rfl rfl rfl rfl hl.1 (by decide) (by decide) (Nat.le_of_ble_eq_true rfl) dX7_become_16 (fun V16 H locs p16 X => ?_)
  refine lv_aload_n hx hb dX7_become_19 rfl (lv_at hl 0 rfl) ?_
  refine sgR G X 20 2 rfl rfl fl_X7_25 dX7_become_20 ?_
  refine lv_aload_n hx hb dX7_become_23 rfl (lv_at hl 1 rfl) ?_
  refine sgR G X 2 2 rfl rfl fl_X7_25 dX7_become_24 ?_
  refine scV (ci := 7) (As := [.ref (a 11)]) (rest := []) G X (k_wBecome ha V16 29 30 31 32 rfl rfl rfl rfl 11 12 13 14 rfl rfl rfl rfl (by first | decide | assumption) (by first | decide | assumption) (by first | decide | assumption)) iy_X8_become ml_X7_55 rfl rfl rfl rfl hl.1 (by decide) (by decide) (Nat.le_of_ble_eq_true rfl) dX7_become_27 (fun V27 H locs p27 X => ?_)
  refine lv_aload_n hx hb dX7_become_30 rfl (lv_at hl 0 rfl) ?_
  refine sgR G X 20 3 rfl rfl fl_X7_32 dX7_become_31 ?_
  refine lv_aload_n hx hb dX7_become_34 rfl (lv_at hl 1 rfl) ?_
  refine sgR G X 2 3 rfl rfl fl_X7_32 dX7_become_35 ?_
  refine sgI G X 15 0 rfl rfl fl_X7_36 dX7_become_38 ?_
  refine lv_aload_n hx hb dX7_become_41 rfl (lv_at hl 1 rfl) ?_
  refine sgR G X 2 3 rfl rfl fl_X7_32 dX7_become_42 ?_
  refine sgI G X 15 1 rfl rfl fl_X7_58 dX7_become_45 ?_
  refine lv_aload_n hx hb dX7_become_48 rfl (lv_at hl 1 rfl) ?_
  refine sgR G X 2 3 rfl rfl fl_X7_32 dX7_become_49 ?_
  refine sgI G X 15 2 rfl rfl fl_X7_61 dX7_become_52 ?_
  refine lv_aload_n hx hb dX7_become_55 rfl (lv_at hl 1 rfl) ?_
  refine sgR G X 2 3 rfl rfl fl_X7_32 dX7_become_56 ?_
  refine sgI G X 15 3 rfl rfl fl_X7_64 dX7_become_59 ?_
  refine scV (ci := 0) (As := [.int (V27 15 0), .int (V27 15 1), .int (V27 15 2), .int (V27 15 3)]) (rest := []) G X (k_airBecome ha V27 33 rfl (V27 15 0) (V27 15 1) (V27 15 2) (V27 15 3)) iy_X0_become ml_X7_67 rfl rfl rfl rfl hl.1 (by decide) (by decide) (Nat.le_of_ble_eq_true rfl) dX7_become_62 (fun V62 H locs p62 X => ?_)
  refine lv_aload_n hx hb dX7_become_65 rfl (lv_at hl 0 rfl) ?_
  refine sgR G X 20 4 rfl rfl fl_X7_44 dX7_become_66 ?_
  refine lv_aload_n hx hb dX7_become_69 rfl (lv_at hl 1 rfl) ?_
  refine sgR G X 2 4 rfl rfl fl_X7_44 dX7_become_70 ?_
  refine scV (ci := 4) (As := [.ref (a 16)]) (rest := []) G X (k_rowBecome ha V62 34 35 80 rfl rfl (by first | decide | assumption) (by first | decide | assumption) 16 17 rfl rfl (by first | decide | assumption)) iy_X4_become ml_X7_70 rfl rfl rfl rfl hl.1 (by decide) (by decide) (Nat.le_of_ble_eq_true rfl) dX7_become_73 (fun V73 H locs p73 X => ?_)
  refine lv_aload_n hx hb dX7_become_76 rfl (lv_at hl 0 rfl) ?_
  refine sgR G X 20 5 rfl rfl fl_X7_48 dX7_become_77 ?_
  refine lv_aload_n hx hb dX7_become_80 rfl (lv_at hl 1 rfl) ?_
  refine sgR G X 2 5 rfl rfl fl_X7_48 dX7_become_81 ?_
  refine scV (ci := 4) (As := [.ref (a 18)]) (rest := []) G X (k_rowBecome ha V73 36 37 10 rfl rfl (by first | decide | assumption) (by first | decide | assumption) 18 19 rfl rfl (by first | decide | assumption)) iy_X4_become ml_X7_70 rfl rfl rfl rfl hl.1 (by decide) (by decide) (Nat.le_of_ble_eq_true rfl) dX7_become_84 (fun V84 H locs p84 X => ?_)
  exact srV G X dX7_become_87 (by (have hB : sAg [20, 21, 22, 23, 24, 25, 26, 27, 28, 29, 30, 31, 32] V V27 := ((sAg.rf.up (by decide)).tr ((sAg.mono p16 (by decide)).tr (sAg.mono p27 (by decide)))); have hC : sAg [34, 35, 36, 37] V62 V84 := ((sAg.mono p73 (by decide)).tr (sAg.mono p84 (by decide))); refine ⟨(hB.mono (by decide)).tr ((sAg.mono p62.1 (by decide)).tr (hC.mono (by decide))), ?_, ?_, ?_, ?_⟩ <;> rw [hC 33 (by decide)] <;> first | (rw [p62.2.1, hB 15 (by decide)]) | (rw [p62.2.2.1, hB 15 (by decide)]) | (rw [p62.2.2.2.1, hB 15 (by decide)]) | (rw [p62.2.2.2.2, hB 15 (by decide)])))
def q_draw (V : sV) : Int32 → sV → Prop := fun x V1 => sAg [49] V V1
set_option maxRecDepth 100000 in
set_option maxHeartbeats 4000000 in
theorem k_draw {l : Launch} {D : va_G} {cI : ClassId} {a : Nat → Nat} (ha : sInj SX a) (V : sV) (q : Int32) : sMI l D cI SX a V yX6_draw cX6_draw 2 .int 0 [.ref (a 49), .int q] (q_draw V) := by
  refine sMIof ha (by decide +kernel) (Nat.le_of_ble_eq_true rfl) ?_
  intro p e s m below meth c ls G X hl
  obtain ⟨hx, hb, hml, hown, hts, hlocks, hr, hK⟩ := id G
  have hl : lv_has ls 2 [(0, .ref (a 49)), (1, .int q)] := hl
  refine lv_aload_n hx hb dX6_draw_0 rfl (lv_at hl 0 rfl) ?_
  refine lv_aload_n hx hb dX6_draw_1 rfl (lv_at hl 0 rfl) ?_
  refine sgI G X 49 0 rfl rfl fl_X6_7 dX6_draw_2 ?_
  refine lv_ldc hx hb hown (hts _ kc_X6_13) dX6_draw_5 ?_
  refine lv_imul hx hb dX6_draw_7 ?_
  refine lv_topi (fun x7 e7 => ?_)
  refine lv_ldc hx hb hown (hts _ kc_X6_14) dX6_draw_8 ?_
  refine lv_iadd hx hb dX6_draw_10 ?_
  refine lv_topi (fun x10 e10 => ?_)
  refine spI G X 49 0 rfl rfl fp_X6_7 dX6_draw_11 (fun H locs X => ?_)
  refine lv_iload_n hx hb dX6_draw_14 rfl (lv_at hl 1 rfl) ?_
  refine sZle (tgt := 34) hx hb (rfl : Int32.toInt q = _) dX6_draw_15 (by decide) (fun c15 => ?_) (fun c15 => ?_)
  · skip
    refine lv_iconst (v := 0) hx hb dX6_draw_34 (by decide) ?_
    exact srI G X (rfl) dX6_draw_35 (by exact (sAg.rf.up (by simp)))
  · skip
    refine lv_aload_n hx hb dX6_draw_18 rfl (lv_at hl 0 rfl) ?_
    refine sgI G X 49 0 rfl rfl fl_X6_7 dX6_draw_19 ?_
    refine sTop (y := x10) rfl ?_
    refine lv_ldc hx hb hown (hts _ kc_X6_15) dX6_draw_22 ?_
    refine lv_iand hx hb dX6_draw_24 ?_
    refine lv_topi (fun x24 e24 => ?_)
    refine lv_sipush (v := 256) hx hb dX6_draw_25 (by decide) ?_
    refine lv_idiv hx hb dX6_draw_28 (by decide) ?_
    refine lv_topi (fun x28 e28 => ?_)
    refine lv_iload_n hx hb dX6_draw_29 rfl (lv_at hl 1 rfl) ?_
    refine lv_irem hx hb dX6_draw_30 (by intro h; rw [h, Int32.toInt_zero] at c15; omega) ?_
    refine lv_topi (fun x30 e30 => ?_)
    refine lv_goto (tgt := 35) hx hb dX6_draw_31 (by decide) ?_
    exact srI G X (rfl) dX6_draw_35 (by exact (sAg.rf.up (by simp)))
def q_refuse (V : sV) (q : Int32) : Int32 → sV → Prop := fun x V1 => sAg [1] V V1 ∧ x = q
set_option maxRecDepth 100000 in
set_option maxHeartbeats 4000000 in
theorem k_refuse {l : Launch} {D : va_G} {cI : ClassId} {a : Nat → Nat} (ha : sInj SX a) (V : sV) (q : Int32) : sMI l D cI SX a V yX9_refuse cX9_refuse 2 .int 1 [.ref (a 0), .int q] (q_refuse V q) := by
  refine sMIof ha (by decide +kernel) (Nat.le_of_ble_eq_true rfl) ?_
  intro p e s m below meth c ls G X hl
  obtain ⟨hx, hb, hml, hown, hts, hlocks, hr, hK⟩ := id G
  have hl : lv_has ls 2 [(0, .ref (a 0)), (1, .int q)] := hl
  refine lv_aload_n hx hb dX9_refuse_0 rfl (lv_at hl 0 rfl) ?_
  refine sgR G X 0 7 rfl rfl fl_X9_53 dX9_refuse_1 ?_
  refine lv_iload_n hx hb dX9_refuse_4 rfl (lv_at hl 1 rfl) ?_
  refine lv_ineg hx hb dX9_refuse_5 ?_
  refine lv_topi (fun x5 e5 => ?_)
  refine lv_aload_n hx hb dX9_refuse_6 rfl (lv_at hl 0 rfl) ?_
  refine sgR G X 0 7 rfl rfl fl_X9_53 dX9_refuse_7 ?_
  refine lv_iload_n hx hb dX9_refuse_10 rfl (lv_at hl 1 rfl) ?_
  refine lv_ineg hx hb dX9_refuse_11 ?_
  refine lv_topi (fun x11 e11 => ?_)
  refine scSI (As := [.ref (a 1), .int x11]) (rest := [.int x5, .ref (a 1)]) G X (k_at ha V 1 7 rfl (by first | decide | assumption) x11) iy_X5_at ml_X9_102 rfl rfl hl.1 (by decide) (by decide) (Nat.le_of_ble_eq_true rfl) dX9_refuse_12 (fun y12 V12 H locs p12 X => ?_)
  obtain ⟨p12, z12⟩ := p12
  subst V12
  refine lv_iconst (v := 1) hx hb dX9_refuse_15 (by decide) ?_
  refine lv_iadd hx hb dX9_refuse_16 ?_
  refine lv_topi (fun x16 e16 => ?_)
  refine scSV (As := [.ref (a 1), .int x5, .int x16]) (rest := []) G X (k_put ha V 1 7 rfl (by first | decide | assumption) x5 x16) iy_X5_put ml_X9_158 rfl rfl hl.1 (by decide) (by decide) (Nat.le_of_ble_eq_true rfl) dX9_refuse_17 (fun V17 H locs p17 X => ?_)
  refine lv_iload_n hx hb dX9_refuse_20 rfl (lv_at hl 1 rfl) ?_
  exact srI G X (rfl) dX9_refuse_21 (by exact ⟨by rw [show V17 = _ from p17]; exact sAg.rf.up (by simp), rfl⟩)
def q_refuseFar (V : sV) (q : Int32) : Int32 → sV → Prop := fun x V1 => sAg [1] V V1 ∧ x = 1000000000 - q
set_option maxRecDepth 100000 in
set_option maxHeartbeats 4000000 in
theorem k_refuseFar {l : Launch} {D : va_G} {cI : ClassId} {a : Nat → Nat} (ha : sInj SX a) (V : sV) (q : Int32) : sMI l D cI SX a V yX9_refuseFar cX9_refuseFar 2 .int 2 [.ref (a 0), .int q] (q_refuseFar V q) := by
  refine sMIof ha (by decide +kernel) (Nat.le_of_ble_eq_true rfl) ?_
  intro p e s m below meth c ls G X hl
  obtain ⟨hx, hb, hml, hown, hts, hlocks, hr, hK⟩ := id G
  have hl : lv_has ls 2 [(0, .ref (a 0)), (1, .int q)] := hl
  refine lv_ldc hx hb hown (hts _ kc_X9_254) dX9_refuseFar_0 ?_
  refine lv_aload_n hx hb dX9_refuseFar_2 rfl (lv_at hl 0 rfl) ?_
  refine lv_iload_n hx hb dX9_refuseFar_3 rfl (lv_at hl 1 rfl) ?_
  refine scI (ci := 8) (As := [.int q]) (rest := [.int 1000000000]) G X (k_refuse ha V q) iy_X9_refuse ml_X9_57 rfl rfl rfl rfl hl.1 (by decide) (by decide) (Nat.le_of_ble_eq_true rfl) dX9_refuseFar_4 (fun y4 V4 H locs p4 X => ?_)
  refine lv_isub hx hb dX9_refuseFar_7 ?_
  refine lv_topi (fun x7 e7 => ?_)
  exact srI G X (rfl) dX9_refuseFar_8 (by exact ⟨p4.1, by rw [e7, p4.2]⟩)
def q_nowOf (V : sV) (q : Int32) : Int32 → sV → Prop := fun x V1 => x = nowF (V 15) q ∧ V1 = V
set_option maxRecDepth 100000 in
set_option maxHeartbeats 4000000 in
theorem k_nowOf {l : Launch} {D : va_G} {cI : ClassId} {a : Nat → Nat} (ha : sInj SX a) (V : sV) (q : Int32) : sMI l D cI SX a V yX9_nowOf cX9_nowOf 2 .int 0 [.ref (a 0), .int q] (q_nowOf V q) := by
  refine sMIof ha (by decide +kernel) (Nat.le_of_ble_eq_true rfl) ?_
  intro p e s m below meth c ls G X hl
  obtain ⟨hx, hb, hml, hown, hts, hlocks, hr, hK⟩ := id G
  have hl : lv_has ls 2 [(0, .ref (a 0)), (1, .int q)] := hl
  refine lv_iload_n hx hb dX9_nowOf_0 rfl (lv_at hl 1 rfl) ?_
  by_cases hs1 : Int32.toInt q < 0 ∨ 2 < Int32.toInt q
  · refine lv_tableOut (tgt := 61) hx hb dX9_nowOf_1 hs1 (by decide) ?_
    refine lv_aload_n hx hb dX9_nowOf_61 rfl (lv_at hl 0 rfl) ?_
    refine sgR G X 0 0 rfl rfl fl_X9_10 dX9_nowOf_62 ?_
    refine sgR G X 2 3 rfl rfl fl_X9_143 dX9_nowOf_65 ?_
    refine sgI G X 15 3 rfl rfl fl_X9_152 dX9_nowOf_68 ?_
    exact srI G X (rfl) dX9_nowOf_71 (by exact ⟨by unfold nowF; rw [if_neg (by omega), if_neg (by omega), if_neg (by omega)], rfl⟩)
  by_cases hs1_0 : Int32.toInt q = 0
  · refine lv_tableIn (tgt := 28) (off := 27) hx hb dX9_nowOf_1 (by rw [hs1_0]; decide) (by rw [hs1_0]; decide) (by rw [hs1_0]; rfl) (by decide) ?_
    refine lv_aload_n hx hb dX9_nowOf_28 rfl (lv_at hl 0 rfl) ?_
    refine sgR G X 0 0 rfl rfl fl_X9_10 dX9_nowOf_29 ?_
    refine sgR G X 2 3 rfl rfl fl_X9_143 dX9_nowOf_32 ?_
    refine sgI G X 15 0 rfl rfl fl_X9_146 dX9_nowOf_35 ?_
    exact srI G X (rfl) dX9_nowOf_38 (by exact ⟨by unfold nowF; rw [if_pos hs1_0], rfl⟩)
  by_cases hs1_1 : Int32.toInt q = 1
  · refine lv_tableIn (tgt := 39) (off := 38) hx hb dX9_nowOf_1 (by rw [hs1_1]; decide) (by rw [hs1_1]; decide) (by rw [hs1_1]; rfl) (by decide) ?_
    refine lv_aload_n hx hb dX9_nowOf_39 rfl (lv_at hl 0 rfl) ?_
    refine sgR G X 0 0 rfl rfl fl_X9_10 dX9_nowOf_40 ?_
    refine sgR G X 2 3 rfl rfl fl_X9_143 dX9_nowOf_43 ?_
    refine sgI G X 15 1 rfl rfl fl_X9_148 dX9_nowOf_46 ?_
    exact srI G X (rfl) dX9_nowOf_49 (by exact ⟨by unfold nowF; rw [if_neg hs1_0, if_pos hs1_1], rfl⟩)
  by_cases hs1_2 : Int32.toInt q = 2
  · refine lv_tableIn (tgt := 50) (off := 49) hx hb dX9_nowOf_1 (by rw [hs1_2]; decide) (by rw [hs1_2]; decide) (by rw [hs1_2]; rfl) (by decide) ?_
    refine lv_aload_n hx hb dX9_nowOf_50 rfl (lv_at hl 0 rfl) ?_
    refine sgR G X 0 0 rfl rfl fl_X9_10 dX9_nowOf_51 ?_
    refine sgR G X 2 3 rfl rfl fl_X9_143 dX9_nowOf_54 ?_
    refine sgI G X 15 2 rfl rfl fl_X9_150 dX9_nowOf_57 ?_
    exact srI G X (rfl) dX9_nowOf_60 (by exact ⟨by unfold nowF; rw [if_neg hs1_0, if_neg hs1_1, if_pos hs1_2], rfl⟩)
  exact absurd hs1 (by omega)
def q_settleNow (V : sV) : sV → Prop := fun V1 => sAg [39, 40, 41, 42, 43, 44] V V1 ∧ (sQuiet V 15 → V 45 0 = 0 → sCalm V1)
set_option maxRecDepth 100000 in
set_option maxHeartbeats 4000000 in
theorem k_settleNow {l : Launch} {D : va_G} {cI : ClassId} {a : Nat → Nat} (ha : sInj SX a) (V : sV) (q : Int32) : sMV l D cI SX a V yX9_settleNow cX9_settleNow 2 4 [.ref (a 0), .int q] (q_settleNow V) := by
  refine sMVof ha (by decide +kernel) (Nat.le_of_ble_eq_true rfl) ?_
  intro p e s m below meth c ls G X hl
  obtain ⟨hx, hb, hml, hown, hts, hlocks, hr, hK⟩ := id G
  have hl : lv_has ls 2 [(0, .ref (a 0)), (1, .int q)] := hl
  refine lv_aload_n hx hb dX9_settleNow_0 rfl (lv_at hl 0 rfl) ?_
  refine sgR G X 0 3 rfl rfl fl_X9_28 dX9_settleNow_1 ?_
  refine lv_iload_n hx hb dX9_settleNow_4 rfl (lv_at hl 1 rfl) ?_
  refine scV (ci := 1) (As := [.int q]) (rest := []) G X (k_takeSizes ha V q) iy_X1_takeSizes ml_X9_217 rfl rfl rfl rfl hl.1 (by decide) (by decide) (Nat.le_of_ble_eq_true rfl) dX9_settleNow_5 (fun V5 H locs p5 X => ?_)
  refine lv_aload_n hx hb dX9_settleNow_8 rfl (lv_at hl 0 rfl) ?_
  refine sgR G X 0 3 rfl rfl fl_X9_28 dX9_settleNow_9 ?_
  refine lv_aload_n hx hb dX9_settleNow_12 rfl (lv_at hl 0 rfl) ?_
  refine sgR G X 0 0 rfl rfl fl_X9_10 dX9_settleNow_13 ?_
  refine sgR G X 2 3 rfl rfl fl_X9_143 dX9_settleNow_16 ?_
  refine scV (ci := 1) (As := [.ref (a 15)]) (rest := []) G X (k_settle ha V5 15 rfl (by first | decide | assumption)) iy_X1_settle ml_X9_220 rfl rfl rfl rfl hl.1 (by decide) (by decide) (Nat.le_of_ble_eq_true rfl) dX9_settleNow_19 (fun V19 H locs p19 X => ?_)
  exact srV G X dX9_settleNow_22 (by (have hA : sAg [39] V V5 := p5; exact ⟨((sAg.mono p5 (by decide)).tr (sAg.mono p19.1 (by decide))), fun hQ h0 => p19.2 (hQ.ag hA (by decide) (by decide) (by decide) (by decide)) (by rw [hA 45 (by decide)]; exact h0)⟩))
def q_settleSized (V : sV) : sV → Prop := fun V1 => sAg [39, 40, 41, 42, 43, 44] V V1
set_option maxRecDepth 100000 in
set_option maxHeartbeats 4000000 in
theorem k_settleSized {l : Launch} {D : va_G} {cI : ClassId} {a : Nat → Nat} (ha : sInj SX a) (V : sV) (i1 i2 : Int32) : sMV l D cI SX a V yX9_settleSized cX9_settleSized 3 4 [.ref (a 0), .int i1, .int i2] (q_settleSized V) := by
  refine sMVof ha (by decide +kernel) (Nat.le_of_ble_eq_true rfl) ?_
  intro p e s m below meth c ls G X hl
  obtain ⟨hx, hb, hml, hown, hts, hlocks, hr, hK⟩ := id G
  have hl : lv_has ls 3 [(0, .ref (a 0)), (1, .int i1), (2, .int i2)] := hl
  refine lv_aload_n hx hb dX9_settleSized_0 rfl (lv_at hl 0 rfl) ?_
  refine sgR G X 0 3 rfl rfl fl_X9_28 dX9_settleSized_1 ?_
  refine lv_iconst (v := 0) hx hb dX9_settleSized_4 (by decide) ?_
  refine scV (ci := 1) (As := [.int 0]) (rest := []) G X (k_takeSizes ha V 0) iy_X1_takeSizes ml_X9_217 rfl rfl rfl rfl hl.1 (by decide) (by decide) (Nat.le_of_ble_eq_true rfl) dX9_settleSized_5 (fun V5 H locs p5 X => ?_)
  refine lv_aload_n hx hb dX9_settleSized_8 rfl (lv_at hl 0 rfl) ?_
  refine sgR G X 0 3 rfl rfl fl_X9_28 dX9_settleSized_9 ?_
  refine lv_iload_n hx hb dX9_settleSized_12 rfl (lv_at hl 1 rfl) ?_
  refine lv_iload_n hx hb dX9_settleSized_13 rfl (lv_at hl 2 rfl) ?_
  refine scV (ci := 1) (As := [.int i1, .int i2]) (rest := []) G X (k_changeSize ha V5 i1 i2) iy_X1_changeSize ml_X9_255 rfl rfl rfl rfl hl.1 (by decide) (by decide) (Nat.le_of_ble_eq_true rfl) dX9_settleSized_14 (fun V14 H locs p14 X => ?_)
  refine lv_aload_n hx hb dX9_settleSized_17 rfl (lv_at hl 0 rfl) ?_
  refine sgR G X 0 3 rfl rfl fl_X9_28 dX9_settleSized_18 ?_
  refine lv_aload_n hx hb dX9_settleSized_21 rfl (lv_at hl 0 rfl) ?_
  refine sgR G X 0 0 rfl rfl fl_X9_10 dX9_settleSized_22 ?_
  refine sgR G X 2 3 rfl rfl fl_X9_143 dX9_settleSized_25 ?_
  refine scV (ci := 1) (As := [.ref (a 15)]) (rest := []) G X (k_settle ha V14 15 rfl (by first | decide | assumption)) iy_X1_settle ml_X9_220 rfl rfl rfl rfl hl.1 (by decide) (by decide) (Nat.le_of_ble_eq_true rfl) dX9_settleSized_28 (fun V28 H locs p28 X => ?_)
  exact srV G X dX9_settleSized_31 (by exact (((sAg.mono p5 (by decide)).tr (sAg.mono p14 (by decide))).tr (sAg.mono p28.1 (by decide))))
def q_settleInWeather (V : sV) : sV → Prop := fun V1 => sAg [39, 40, 41, 42, 43, 44, 50] V V1
set_option maxRecDepth 100000 in
set_option maxHeartbeats 4000000 in
theorem k_settleInWeather {l : Launch} {D : va_G} {cI : ClassId} {a : Nat → Nat} (ha : sInj SX a) (V : sV) (i : Int32) : sMV l D cI SX a V yX9_settleInWeather cX9_settleInWeather 2 4 [.ref (a 0), .int i] (q_settleInWeather V) := by
  refine sMVof ha (by decide +kernel) (Nat.le_of_ble_eq_true rfl) ?_
  intro p e s m below meth c ls G X hl
  obtain ⟨hx, hb, hml, hown, hts, hlocks, hr, hK⟩ := id G
  have hl : lv_has ls 2 [(0, .ref (a 0)), (1, .int i)] := hl
  refine lv_aload_n hx hb dX9_settleInWeather_0 rfl (lv_at hl 0 rfl) ?_
  refine sgR G X 0 6 rfl rfl fl_X9_49 dX9_settleInWeather_1 ?_
  refine lv_aload_n hx hb dX9_settleInWeather_4 rfl (lv_at hl 0 rfl) ?_
  refine sgR G X 0 0 rfl rfl fl_X9_10 dX9_settleInWeather_5 ?_
  refine sgR G X 2 2 rfl rfl fl_X9_126 dX9_settleInWeather_8 ?_
  refine sgR G X 11 0 rfl rfl fl_X9_133 dX9_settleInWeather_11 ?_
  refine lv_iload_n hx hb dX9_settleInWeather_14 rfl (lv_at hl 1 rfl) ?_
  refine scSI (As := [.ref (a 12), .int i]) (rest := [.ref (a 50)]) G X (k_at ha V 12 4 rfl (by first | decide | assumption) i) iy_X5_at ml_X9_102 rfl rfl hl.1 (by decide) (by decide) (Nat.le_of_ble_eq_true rfl) dX9_settleInWeather_15 (fun y15 V15 H locs p15 X => ?_)
  obtain ⟨p15, z15⟩ := p15
  subst V15
  refine lv_aload_n hx hb dX9_settleInWeather_18 rfl (lv_at hl 0 rfl) ?_
  refine sgR G X 0 0 rfl rfl fl_X9_10 dX9_settleInWeather_19 ?_
  refine sgR G X 2 2 rfl rfl fl_X9_126 dX9_settleInWeather_22 ?_
  refine sgR G X 11 1 rfl rfl fl_X9_136 dX9_settleInWeather_25 ?_
  refine lv_iload_n hx hb dX9_settleInWeather_28 rfl (lv_at hl 1 rfl) ?_
  refine scSI (As := [.ref (a 13), .int i]) (rest := [.int y15, .ref (a 50)]) G X (k_at ha V 13 4 rfl (by first | decide | assumption) i) iy_X5_at ml_X9_102 rfl rfl hl.1 (by decide) (by decide) (Nat.le_of_ble_eq_true rfl) dX9_settleInWeather_29 (fun y29 V29 H locs p29 X => ?_)
  obtain ⟨p29, z29⟩ := p29
  subst V29
  refine lv_aload_n hx hb dX9_settleInWeather_32 rfl (lv_at hl 0 rfl) ?_
  refine sgR G X 0 0 rfl rfl fl_X9_10 dX9_settleInWeather_33 ?_
  refine sgR G X 2 2 rfl rfl fl_X9_126 dX9_settleInWeather_36 ?_
  refine sgR G X 11 2 rfl rfl fl_X9_139 dX9_settleInWeather_39 ?_
  refine lv_iload_n hx hb dX9_settleInWeather_42 rfl (lv_at hl 1 rfl) ?_
  refine scSI (As := [.ref (a 14), .int i]) (rest := [.int y29, .int y15, .ref (a 50)]) G X (k_at ha V 14 4 rfl (by first | decide | assumption) i) iy_X5_at ml_X9_102 rfl rfl hl.1 (by decide) (by decide) (Nat.le_of_ble_eq_true rfl) dX9_settleInWeather_43 (fun y43 V43 H locs p43 X => ?_)
  obtain ⟨p43, z43⟩ := p43
  subst V43
  refine lv_aload_n hx hb dX9_settleInWeather_46 rfl (lv_at hl 0 rfl) ?_
  refine sgR G X 0 0 rfl rfl fl_X9_10 dX9_settleInWeather_47 ?_
  refine sgR G X 2 3 rfl rfl fl_X9_143 dX9_settleInWeather_50 ?_
  refine sgI G X 15 3 rfl rfl fl_X9_152 dX9_settleInWeather_53 ?_
  refine scV (ci := 0) (As := [.int y15, .int y29, .int y43, .int (V 15 3)]) (rest := []) G X (k_airBecome ha V 50 rfl y15 y29 y43 (V 15 3)) iy_X0_become ml_X9_213 rfl rfl rfl rfl hl.1 (by decide) (by decide) (Nat.le_of_ble_eq_true rfl) dX9_settleInWeather_56 (fun V56 H locs p56 X => ?_)
  refine lv_aload_n hx hb dX9_settleInWeather_59 rfl (lv_at hl 0 rfl) ?_
  refine sgR G X 0 3 rfl rfl fl_X9_28 dX9_settleInWeather_60 ?_
  refine lv_iconst (v := 0) hx hb dX9_settleInWeather_63 (by decide) ?_
  refine scV (ci := 1) (As := [.int 0]) (rest := []) G X (k_takeSizes ha V56 0) iy_X1_takeSizes ml_X9_217 rfl rfl rfl rfl hl.1 (by decide) (by decide) (Nat.le_of_ble_eq_true rfl) dX9_settleInWeather_64 (fun V64 H locs p64 X => ?_)
  refine lv_aload_n hx hb dX9_settleInWeather_67 rfl (lv_at hl 0 rfl) ?_
  refine sgR G X 0 3 rfl rfl fl_X9_28 dX9_settleInWeather_68 ?_
  refine lv_aload_n hx hb dX9_settleInWeather_71 rfl (lv_at hl 0 rfl) ?_
  refine sgR G X 0 6 rfl rfl fl_X9_49 dX9_settleInWeather_72 ?_
  refine scV (ci := 1) (As := [.ref (a 50)]) (rest := []) G X (k_settle ha V64 50 rfl (by first | decide | assumption)) iy_X1_settle ml_X9_220 rfl rfl rfl rfl hl.1 (by decide) (by decide) (Nat.le_of_ble_eq_true rfl) dX9_settleInWeather_75 (fun V75 H locs p75 X => ?_)
  exact srV G X dX9_settleInWeather_78 (by exact (((sAg.mono p56.1 (by decide)).tr (sAg.mono p64 (by decide))).tr (sAg.mono p75.1 (by decide))))
def q_coalWithout (V : sV) : Int32 → sV → Prop := fun x V1 => sAg [39, 40, 41, 42, 43, 44] V V1 ∧ (sQuiet V 15 → V 45 0 = 0 → x = 0)
set_option maxRecDepth 100000 in
set_option maxHeartbeats 4000000 in
theorem k_coalWithout {l : Launch} {D : va_G} {cI : ClassId} {a : Nat → Nat} (ha : sInj SX a) (V : sV) (q : Int32) : sMI l D cI SX a V yX9_coalWithout cX9_coalWithout 2 .int 4 [.ref (a 0), .int q] (q_coalWithout V) := by
  refine sMIof ha (by decide +kernel) (Nat.le_of_ble_eq_true rfl) ?_
  intro p e s m below meth c ls G X hl
  obtain ⟨hx, hb, hml, hown, hts, hlocks, hr, hK⟩ := id G
  have hl : lv_has ls 2 [(0, .ref (a 0)), (1, .int q)] := hl
  refine lv_aload_n hx hb dX9_coalWithout_0 rfl (lv_at hl 0 rfl) ?_
  refine sgR G X 0 3 rfl rfl fl_X9_28 dX9_coalWithout_1 ?_
  refine lv_iload_n hx hb dX9_coalWithout_4 rfl (lv_at hl 1 rfl) ?_
  refine scV (ci := 1) (As := [.int q]) (rest := []) G X (k_takeSizes ha V q) iy_X1_takeSizes ml_X9_217 rfl rfl rfl rfl hl.1 (by decide) (by decide) (Nat.le_of_ble_eq_true rfl) dX9_coalWithout_5 (fun V5 H locs p5 X => ?_)
  refine lv_aload_n hx hb dX9_coalWithout_8 rfl (lv_at hl 0 rfl) ?_
  refine sgR G X 0 3 rfl rfl fl_X9_28 dX9_coalWithout_9 ?_
  refine lv_aload_n hx hb dX9_coalWithout_12 rfl (lv_at hl 0 rfl) ?_
  refine sgR G X 0 0 rfl rfl fl_X9_10 dX9_coalWithout_13 ?_
  refine sgR G X 2 3 rfl rfl fl_X9_143 dX9_coalWithout_16 ?_
  refine scV (ci := 1) (As := [.ref (a 15)]) (rest := []) G X (k_settle ha V5 15 rfl (by first | decide | assumption)) iy_X1_settle ml_X9_220 rfl rfl rfl rfl hl.1 (by decide) (by decide) (Nat.le_of_ble_eq_true rfl) dX9_coalWithout_19 (fun V19 H locs p19 X => ?_)
  refine lv_aload_n hx hb dX9_coalWithout_22 rfl (lv_at hl 0 rfl) ?_
  refine sgR G X 0 3 rfl rfl fl_X9_28 dX9_coalWithout_23 ?_
  refine scI (ci := 1) (As := []) (rest := []) G X (k_inflow ha V19 ) iy_X1_inflow ml_X9_210 rfl rfl rfl rfl hl.1 (by decide) (by decide) (Nat.le_of_ble_eq_true rfl) dX9_coalWithout_26 (fun y26 V26 H locs p26 X => ?_)
  obtain ⟨p26, z26⟩ := p26
  subst V26
  refine lv_aload_n hx hb dX9_coalWithout_29 rfl (lv_at hl 0 rfl) ?_
  refine sgR G X 0 0 rfl rfl fl_X9_10 dX9_coalWithout_30 ?_
  refine sgR G X 2 3 rfl rfl fl_X9_143 dX9_coalWithout_33 ?_
  refine sgI G X 15 0 rfl rfl fl_X9_146 dX9_coalWithout_36 ?_
  refine lv_imul hx hb dX9_coalWithout_39 ?_
  refine lv_topi (fun x39 e39 => ?_)
  exact srI G X (rfl) dX9_coalWithout_40 (by (have hA : sAg [39] V V5 := p5; exact ⟨((sAg.mono p5 (by decide)).tr (sAg.mono p19.1 (by decide))), fun hQ h0 => by rw [e39, p26 (p19.2 (hQ.ag hA (by decide) (by decide) (by decide) (by decide)) (by rw [hA 45 (by decide)]; exact h0))]; simp⟩))
def q_idleAlone (V : sV) : Int32 → sV → Prop := fun x V1 => sAg [39, 40, 41, 42, 43, 44] V V1
set_option maxRecDepth 100000 in
set_option maxHeartbeats 4000000 in
theorem k_idleAlone {l : Launch} {D : va_G} {cI : ClassId} {a : Nat → Nat} (ha : sInj SX a) (V : sV) (q : Int32) : sMI l D cI SX a V yX9_idleAlone cX9_idleAlone 4 .int 5 [.ref (a 0), .int q] (q_idleAlone V) := by
  refine sMIof ha (by decide +kernel) (Nat.le_of_ble_eq_true rfl) ?_
  intro p e s m below meth c ls G X hl
  obtain ⟨hx, hb, hml, hown, hts, hlocks, hr, hK⟩ := id G
  have hl : lv_has ls 4 [(0, .ref (a 0)), (1, .int q)] := hl
  refine lv_iconst (v := 0) hx hb dX9_idleAlone_0 (by decide) ?_
  refine lv_istore_n (lv' := [(2, .int 0), (0, .ref (a 0)), (1, .int q)]) hx hb dX9_idleAlone_1 rfl hl (by decide) rfl (fun ls hl => ?_)
  refine lv_iconst (v := 0) hx hb dX9_idleAlone_2 (by decide) ?_
  refine lv_istore_n (lv' := [(3, .int 0), (2, .int 0), (0, .ref (a 0)), (1, .int q)]) hx hb dX9_idleAlone_3 rfl hl (by decide) rfl (fun ls hl => ?_)
  have L4 : ∀ (fu4 : Nat) (i : Int32) (z : Int32) (Y : sV) (H : Heap) (locs : List Loc) (ls : Array Slot), (0 ≤ i.toInt) → (sAg [39, 40, 41, 42, 43, 44] V Y) → (((V 3 7).toInt - i.toInt).toNat) < fu4 → sWS D cI SX a Y s.heap H locs → lv_has ls 4 [(3, .int i), (2, .int z), (0, .ref (a 0)), (1, .int q)] → W p l e (rmD 5) s m ([.ref (a 0), .int q] : List Value).toArray below meth c H locs 0 0 (MQ below (va_Qi (q_idleAlone V) (fun V1 t => va_P D vwCl (sWd cI SX a V1) t.heap) (sA SX a s.heap.size)) ([.ref (a 0), .int q] : List Value).toArray s 0 0 (sA SX a s.heap.size)) (F0 m 4 ls []) := by
    intro fu4
    induction fu4 with
    | zero => intro i z Y H locs ls hi hA hm4; exact absurd hm4 (Nat.not_lt_zero _)
    | succ fu4 ih4 =>
      intro i z Y H locs ls hi hA hm4 X hl
      refine lv_iload_n hx hb dX9_idleAlone_4 rfl (lv_at hl 0 rfl) ?_
      refine lv_aload_n hx hb dX9_idleAlone_5 rfl (lv_at hl 2 rfl) ?_
      refine sgR G X 0 0 rfl rfl fl_X9_10 dX9_idleAlone_6 ?_
      refine sgR G X 2 1 rfl rfl fl_X9_89 dX9_idleAlone_9 ?_
      refine sgI G X 3 7 rfl rfl fl_X9_190 dX9_idleAlone_12 ?_
      refine sIge (tgt := 55) hx hb (rfl : Int32.toInt i = _) (rfl : Int32.toInt (Y 3 7) = _) dX9_idleAlone_15 (by decide) (fun c15 => ?_) (fun c15 => ?_)
      · skip
        rw [hA 3 (by decide)] at c15
        refine lv_iload_n hx hb dX9_idleAlone_55 rfl (lv_at hl 1 rfl) ?_
        exact srI G X (rfl) dX9_idleAlone_56 (by exact hA)
      · skip
        rw [hA 3 (by decide)] at c15
        refine lv_aload_n hx hb dX9_idleAlone_18 rfl (lv_at hl 2 rfl) ?_
        refine sgR G X 0 0 rfl rfl fl_X9_10 dX9_idleAlone_19 ?_
        refine sgR G X 2 1 rfl rfl fl_X9_89 dX9_idleAlone_22 ?_
        refine lv_iload_n hx hb dX9_idleAlone_25 rfl (lv_at hl 0 rfl) ?_
        refine scI (ci := 2) (As := [.int i]) (rest := []) G X (k_isDoor ha Y i) iy_X2_isDoor ml_X9_162 rfl rfl rfl rfl hl.1 (by decide) (by decide) (Nat.le_of_ble_eq_true rfl) dX9_idleAlone_26 (fun y26 V26 H locs p26 X => ?_)
        obtain ⟨p26, z26⟩ := p26
        subst V26
        refine sZne (tgt := 49) hx hb (rfl : Int32.toInt y26 = _) dX9_idleAlone_29 (by decide) (fun c29 => ?_) (fun c29 => ?_)
        · skip
          obtain ⟨x49, e49⟩ : ∃ y : Int32, y = i + (1) := ⟨_, rfl⟩
          refine lv_iinc (v := x49) (lv' := [(3, .int x49), (2, .int z), (0, .ref (a 0)), (1, .int q)]) hx hb dX9_idleAlone_49 hl (k := 0) rfl (by rw [e49]; rfl) (by decide) rfl (fun ls hl => ?_)
          refine lv_goto (tgt := 4) hx hb dX9_idleAlone_52 (by decide) ?_
          exact ih4 x49 z Y _ _ _ (by rw [i32_i e49 (by have := i32_hi (V 3 7); omega)]; omega) (by first | exact hA.tr p36.1 | exact hA) (by rw [i32_i e49 (by have := i32_hi (V 3 7); omega)]; omega) X (lv_sub hl [0, 1, 2, 3] rfl)
        · skip
          refine lv_aload_n hx hb dX9_idleAlone_32 rfl (lv_at hl 2 rfl) ?_
          refine lv_iconst (v := 1) hx hb dX9_idleAlone_33 (by decide) ?_
          refine lv_iload_n hx hb dX9_idleAlone_34 rfl (lv_at hl 0 rfl) ?_
          refine lv_ishl hx hb dX9_idleAlone_35 ?_
          refine lv_topi (fun x35 e35 => ?_)
          refine scI (ci := 8) (As := [.int x35]) (rest := []) G X (k_coalWithout ha Y x35) iy_X9_coalWithout ml_X9_184 rfl rfl rfl rfl hl.1 (by decide) (by decide) (Nat.le_of_ble_eq_true rfl) dX9_idleAlone_36 (fun y36 V36 H locs p36 X => ?_)
          refine lv_iload_n hx hb dX9_idleAlone_39 rfl (lv_at hl 3 rfl) ?_
          refine sIlt (tgt := 49) hx hb (rfl : Int32.toInt y36 = _) (rfl : Int32.toInt q = _) dX9_idleAlone_40 (by decide) (fun c40 => ?_) (fun c40 => ?_)
          · skip
            obtain ⟨x49, e49⟩ : ∃ y : Int32, y = i + (1) := ⟨_, rfl⟩
            refine lv_iinc (v := x49) (lv' := [(3, .int x49), (2, .int z), (0, .ref (a 0)), (1, .int q)]) hx hb dX9_idleAlone_49 hl (k := 0) rfl (by rw [e49]; rfl) (by decide) rfl (fun ls hl => ?_)
            refine lv_goto (tgt := 4) hx hb dX9_idleAlone_52 (by decide) ?_
            exact ih4 x49 z V36 _ _ _ (by rw [i32_i e49 (by have := i32_hi (V 3 7); omega)]; omega) (by first | exact hA.tr p36.1 | exact hA) (by rw [i32_i e49 (by have := i32_hi (V 3 7); omega)]; omega) X (lv_sub hl [0, 1, 2, 3] rfl)
          · skip
            refine lv_iload_n hx hb dX9_idleAlone_43 rfl (lv_at hl 1 rfl) ?_
            refine lv_iconst (v := 1) hx hb dX9_idleAlone_44 (by decide) ?_
            refine lv_iload_n hx hb dX9_idleAlone_45 rfl (lv_at hl 0 rfl) ?_
            refine lv_ishl hx hb dX9_idleAlone_46 ?_
            refine lv_topi (fun x46 e46 => ?_)
            refine lv_ior hx hb dX9_idleAlone_47 ?_
            refine lv_topi (fun x47 e47 => ?_)
            refine lv_istore_n (lv' := [(2, .int x47), (3, .int i), (0, .ref (a 0)), (1, .int q)]) hx hb dX9_idleAlone_48 rfl hl (by decide) rfl (fun ls hl => ?_)
            obtain ⟨x49, e49⟩ : ∃ y : Int32, y = i + (1) := ⟨_, rfl⟩
            refine lv_iinc (v := x49) (lv' := [(3, .int x49), (2, .int x47), (0, .ref (a 0)), (1, .int q)]) hx hb dX9_idleAlone_49 hl (k := 1) rfl (by rw [e49]; rfl) (by decide) rfl (fun ls hl => ?_)
            refine lv_goto (tgt := 4) hx hb dX9_idleAlone_52 (by decide) ?_
            exact ih4 x49 x47 V36 _ _ _ (by rw [i32_i e49 (by have := i32_hi (V 3 7); omega)]; omega) (by first | exact hA.tr p36.1 | exact hA) (by rw [i32_i e49 (by have := i32_hi (V 3 7); omega)]; omega) X (lv_sub hl [0, 1, 2, 3] rfl)
  exact L4 _ 0 0 V _ _ _ (by decide) (sAg.rf) (Nat.lt_succ_self _) X (lv_sub hl [0, 1, 2, 3] rfl)
def q_leanOf (V : sV) : Int32 → sV → Prop := fun x V1 => True ∧ V1 = V
set_option maxRecDepth 100000 in
set_option maxHeartbeats 4000000 in
theorem k_leanOf {l : Launch} {D : va_G} {cI : ClassId} {a : Nat → Nat} (ha : sInj SX a) (V : sV) (i : Int32) : sMI l D cI SX a V yX9_leanOf cX9_leanOf 3 .int 2 [.ref (a 0), .int i] (q_leanOf V) := by
  refine sMIof ha (by decide +kernel) (Nat.le_of_ble_eq_true rfl) ?_
  intro p e s m below meth c ls G X hl
  obtain ⟨hx, hb, hml, hown, hts, hlocks, hr, hK⟩ := id G
  have hl : lv_has ls 3 [(0, .ref (a 0)), (1, .int i)] := hl
  refine lv_aload_n hx hb dX9_leanOf_0 rfl (lv_at hl 0 rfl) ?_
  refine sgR G X 0 3 rfl rfl fl_X9_28 dX9_leanOf_1 ?_
  refine lv_iload_n hx hb dX9_leanOf_4 rfl (lv_at hl 1 rfl) ?_
  refine scI (ci := 1) (As := [.int i]) (rest := []) G X (k_flow ha V i) iy_X1_flowThrough ml_X9_178 rfl rfl rfl rfl hl.1 (by decide) (by decide) (Nat.le_of_ble_eq_true rfl) dX9_leanOf_5 (fun y5 V5 H locs p5 X => ?_)
  obtain ⟨p5, z5⟩ := p5
  subst V5
  refine lv_istore_n (lv' := [(2, .int y5), (0, .ref (a 0)), (1, .int i)]) hx hb dX9_leanOf_8 rfl hl (by decide) rfl (fun ls hl => ?_)
  refine lv_iload_n hx hb dX9_leanOf_9 rfl (lv_at hl 0 rfl) ?_
  refine sZle (tgt := 17) hx hb (rfl : Int32.toInt y5 = _) dX9_leanOf_10 (by decide) (fun c10 => ?_) (fun c10 => ?_)
  · skip
    refine lv_iload_n hx hb dX9_leanOf_17 rfl (lv_at hl 0 rfl) ?_
    refine sZge (tgt := 25) hx hb (rfl : Int32.toInt y5 = _) dX9_leanOf_18 (by decide) (fun c18 => ?_) (fun c18 => ?_)
    · skip
      refine lv_iconst (v := 0) hx hb dX9_leanOf_25 (by decide) ?_
      exact srI G X (rfl) dX9_leanOf_26 (by exact ⟨trivial, rfl⟩)
    · skip
      refine lv_iconst (v := 2) hx hb dX9_leanOf_21 (by decide) ?_
      refine lv_goto (tgt := 26) hx hb dX9_leanOf_22 (by decide) ?_
      exact srI G X (rfl) dX9_leanOf_26 (by exact ⟨trivial, rfl⟩)
  · skip
    refine lv_iconst (v := 1) hx hb dX9_leanOf_13 (by decide) ?_
    refine lv_goto (tgt := 26) hx hb dX9_leanOf_14 (by decide) ?_
    exact srI G X (rfl) dX9_leanOf_26 (by exact ⟨trivial, rfl⟩)
def q_firstNotSo (V : sV) : Int32 → sV → Prop := fun x V1 => sAg [39, 40, 41, 42, 43, 44] V V1 ∧ (sFr V → x = -9)
set_option maxRecDepth 100000 in
set_option maxHeartbeats 4000000 in
theorem k_firstNotSo {l : Launch} {D : va_G} {cI : ClassId} {a : Nat → Nat} (ha : sInj SX a) (V : sV)  : sMI l D cI SX a V yX9_firstNotSo cX9_firstNotSo 4 .int 5 [.ref (a 0)] (q_firstNotSo V) := by
  refine sMIof ha (by decide +kernel) (Nat.le_of_ble_eq_true rfl) ?_
  intro p e s m below meth c ls G X hl
  obtain ⟨hx, hb, hml, hown, hts, hlocks, hr, hK⟩ := id G
  have hl : lv_has ls 4 [(0, .ref (a 0))] := hl
  refine lv_aload_n hx hb dX9_firstNotSo_0 rfl (lv_at hl 0 rfl) ?_
  refine lv_iconst (v := 0) hx hb dX9_firstNotSo_1 (by decide) ?_
  refine scV (ci := 8) (As := [.int 0]) (rest := []) G X (k_settleNow ha V 0) iy_X9_settleNow ml_X9_172 rfl rfl rfl rfl hl.1 (by decide) (by decide) (Nat.le_of_ble_eq_true rfl) dX9_firstNotSo_2 (fun V2 H locs p2 X => ?_)
  refine lv_aload_n hx hb dX9_firstNotSo_5 rfl (lv_at hl 0 rfl) ?_
  refine sgR G X 0 0 rfl rfl fl_X9_10 dX9_firstNotSo_6 ?_
  refine sgR G X 2 5 rfl rfl fl_X9_240 dX9_firstNotSo_9 ?_
  refine sgI G X 18 1 rfl rfl fl_X9_75 dX9_firstNotSo_12 ?_
  refine lv_istore_n (lv' := [(1, .int (V2 18 1)), (0, .ref (a 0))]) hx hb dX9_firstNotSo_15 rfl hl (by decide) rfl (fun ls hl => ?_)
  refine lv_aload_n hx hb dX9_firstNotSo_16 rfl (lv_at hl 1 rfl) ?_
  refine sgR G X 0 0 rfl rfl fl_X9_10 dX9_firstNotSo_17 ?_
  refine sgR G X 2 1 rfl rfl fl_X9_89 dX9_firstNotSo_20 ?_
  refine sgI G X 3 7 rfl rfl fl_X9_190 dX9_firstNotSo_23 ?_
  refine lv_istore_n (lv' := [(2, .int (V2 3 7)), (1, .int (V2 18 1)), (0, .ref (a 0))]) hx hb dX9_firstNotSo_26 rfl hl (by decide) rfl (fun ls hl => ?_)
  refine lv_iconst (v := 0) hx hb dX9_firstNotSo_27 (by decide) ?_
  refine lv_istore_n (lv' := [(3, .int 0), (2, .int (V2 3 7)), (1, .int (V2 18 1)), (0, .ref (a 0))]) hx hb dX9_firstNotSo_28 rfl hl (by decide) rfl (fun ls hl => ?_)
  have L29 : ∀ (fu29 : Nat) (i : Int32) (H : Heap) (locs : List Loc) (ls : Array Slot), (0 ≤ i.toInt) → (((V2 18 1).toInt - i.toInt).toNat) < fu29 → sWS D cI SX a V2 s.heap H locs → lv_has ls 4 [(3, .int i), (2, .int (V2 3 7)), (1, .int (V2 18 1)), (0, .ref (a 0))] → W p l e (rmD 5) s m ([.ref (a 0)] : List Value).toArray below meth c H locs 0 0 (MQ below (va_Qi (q_firstNotSo V) (fun V1 t => va_P D vwCl (sWd cI SX a V1) t.heap) (sA SX a s.heap.size)) ([.ref (a 0)] : List Value).toArray s 0 0 (sA SX a s.heap.size)) (F0 m 29 ls []) := by
    intro fu29
    induction fu29 with
    | zero => intro i H locs ls hi hm29; exact absurd hm29 (Nat.not_lt_zero _)
    | succ fu29 ih29 =>
      intro i H locs ls hi hm29 X hl
      refine lv_iload_n hx hb dX9_firstNotSo_29 rfl (lv_at hl 0 rfl) ?_
      refine lv_iload_n hx hb dX9_firstNotSo_30 rfl (lv_at hl 2 rfl) ?_
      refine sIge (tgt := 66) hx hb (rfl : Int32.toInt i = _) (rfl : Int32.toInt (V2 18 1) = _) dX9_firstNotSo_31 (by decide) (fun c31 => ?_) (fun c31 => ?_)
      · skip
        refine lv_iload_n hx hb dX9_firstNotSo_66 rfl (lv_at hl 2 rfl) ?_
        refine lv_iload_n hx hb dX9_firstNotSo_67 rfl (lv_at hl 1 rfl) ?_
        refine sIne (tgt := 76) hx hb (rfl : Int32.toInt (V2 18 1) = _) (rfl : Int32.toInt (V2 3 7) = _) dX9_firstNotSo_68 (by decide) (fun c68 => ?_) (fun c68 => ?_)
        · skip
          refine lv_iload_n hx hb dX9_firstNotSo_76 rfl (lv_at hl 2 rfl) ?_
          refine lv_iload_n hx hb dX9_firstNotSo_77 rfl (lv_at hl 1 rfl) ?_
          refine sMin hx hb hml hl.1 hown hts mm_X9_261 (by decide) (Nat.le_of_ble_eq_true rfl) dX9_firstNotSo_78 (fun x78 e78 => ?_)
          exact srI G X (rfl) dX9_firstNotSo_81 (by first | exact ⟨p2.1, fun _ => rfl⟩ | exact ⟨p2.1, fun hf => by exfalso; rw [p2.1 3 (by decide), p2.1 18 (by decide), hf.1, hf.2.2.2.2.2.2.1] at c68; exact c68 rfl⟩)
        · skip
          refine lv_bipush (v := (-9)) hx hb dX9_firstNotSo_71 (by decide) ?_
          refine lv_goto (tgt := 81) hx hb dX9_firstNotSo_73 (by decide) ?_
          exact srI G X (rfl) dX9_firstNotSo_81 (by first | exact ⟨p2.1, fun _ => rfl⟩ | exact ⟨p2.1, fun hf => by exfalso; rw [p2.1 3 (by decide), p2.1 18 (by decide), hf.1, hf.2.2.2.2.2.2.1] at c68; exact c68 rfl⟩)
      · skip
        refine lv_iload_n hx hb dX9_firstNotSo_34 rfl (lv_at hl 0 rfl) ?_
        refine lv_iload_n hx hb dX9_firstNotSo_35 rfl (lv_at hl 1 rfl) ?_
        refine sIge (tgt := 66) hx hb (rfl : Int32.toInt i = _) (rfl : Int32.toInt (V2 3 7) = _) dX9_firstNotSo_36 (by decide) (fun c36 => ?_) (fun c36 => ?_)
        · skip
          refine lv_iload_n hx hb dX9_firstNotSo_66 rfl (lv_at hl 2 rfl) ?_
          refine lv_iload_n hx hb dX9_firstNotSo_67 rfl (lv_at hl 1 rfl) ?_
          refine sIne (tgt := 76) hx hb (rfl : Int32.toInt (V2 18 1) = _) (rfl : Int32.toInt (V2 3 7) = _) dX9_firstNotSo_68 (by decide) (fun c68 => ?_) (fun c68 => ?_)
          · skip
            refine lv_iload_n hx hb dX9_firstNotSo_76 rfl (lv_at hl 2 rfl) ?_
            refine lv_iload_n hx hb dX9_firstNotSo_77 rfl (lv_at hl 1 rfl) ?_
            refine sMin hx hb hml hl.1 hown hts mm_X9_261 (by decide) (Nat.le_of_ble_eq_true rfl) dX9_firstNotSo_78 (fun x78 e78 => ?_)
            exact srI G X (rfl) dX9_firstNotSo_81 (by first | exact ⟨p2.1, fun _ => rfl⟩ | exact ⟨p2.1, fun hf => by exfalso; rw [p2.1 3 (by decide), p2.1 18 (by decide), hf.1, hf.2.2.2.2.2.2.1] at c68; exact c68 rfl⟩)
          · skip
            refine lv_bipush (v := (-9)) hx hb dX9_firstNotSo_71 (by decide) ?_
            refine lv_goto (tgt := 81) hx hb dX9_firstNotSo_73 (by decide) ?_
            exact srI G X (rfl) dX9_firstNotSo_81 (by first | exact ⟨p2.1, fun _ => rfl⟩ | exact ⟨p2.1, fun hf => by exfalso; rw [p2.1 3 (by decide), p2.1 18 (by decide), hf.1, hf.2.2.2.2.2.2.1] at c68; exact c68 rfl⟩)
        · skip
          refine lv_aload_n hx hb dX9_firstNotSo_39 rfl (lv_at hl 3 rfl) ?_
          refine sgR G X 0 0 rfl rfl fl_X9_10 dX9_firstNotSo_40 ?_
          refine sgR G X 2 5 rfl rfl fl_X9_240 dX9_firstNotSo_43 ?_
          refine lv_iload_n hx hb dX9_firstNotSo_46 rfl (lv_at hl 0 rfl) ?_
          refine scI (ci := 4) (As := [.int i]) (rest := []) G X (k_rowGet ha V2 18 19 10 rfl rfl (by first | decide | assumption) (by first | decide | assumption) i) iy_X4_get ml_X9_258 rfl rfl rfl rfl hl.1 (by decide) (by decide) (Nat.le_of_ble_eq_true rfl) dX9_firstNotSo_47 (fun y47 V47 H locs p47 X => ?_)
          obtain ⟨p47, z47⟩ := p47
          subst V47
          refine lv_aload_n hx hb dX9_firstNotSo_50 rfl (lv_at hl 3 rfl) ?_
          refine lv_iload_n hx hb dX9_firstNotSo_51 rfl (lv_at hl 0 rfl) ?_
          refine scI (ci := 8) (As := [.int i]) (rest := [.int y47]) G X (k_leanOf ha V2 i) iy_X9_leanOf ml_X9_181 rfl rfl rfl rfl hl.1 (by decide) (by decide) (Nat.le_of_ble_eq_true rfl) dX9_firstNotSo_52 (fun y52 V52 H locs p52 X => ?_)
          obtain ⟨p52, z52⟩ := p52
          subst V52
          refine sIeq (tgt := 60) hx hb (rfl : Int32.toInt y47 = _) (rfl : Int32.toInt y52 = _) dX9_firstNotSo_55 (by decide) (fun c55 => ?_) (fun c55 => ?_)
          · skip
            obtain ⟨x60, e60⟩ : ∃ y : Int32, y = i + (1) := ⟨_, rfl⟩
            refine lv_iinc (v := x60) (lv' := [(3, .int x60), (2, .int (V2 3 7)), (1, .int (V2 18 1)), (0, .ref (a 0))]) hx hb dX9_firstNotSo_60 hl (k := 0) rfl (by rw [e60]; rfl) (by decide) rfl (fun ls hl => ?_)
            refine lv_goto (tgt := 29) hx hb dX9_firstNotSo_63 (by decide) ?_
            exact ih29 x60 _ _ _ (by rw [i32_i e60 (by have := i32_hi (V2 18 1); omega)]; omega) (by rw [i32_i e60 (by have := i32_hi (V2 18 1); omega)]; omega) X (lv_sub hl [0, 1, 2, 3] rfl)
          · skip
            refine lv_iload_n hx hb dX9_firstNotSo_58 rfl (lv_at hl 0 rfl) ?_
            exact srI G X (rfl) dX9_firstNotSo_59 (by exact ⟨p2.1, fun hf => by exfalso; rw [p2.1 3 (by decide), hf.1] at c36; exact absurd c36 (by show ¬ i.toInt < 0; omega)⟩)
  exact L29 _ 0 _ _ _ (by decide) (Nat.lt_succ_self _) X (lv_sub hl [0, 1, 2, 3] rfl)
