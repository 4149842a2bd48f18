theorem rAt_put_s {n : Nat} {f : Nat → Int32} {i v : Int32} (h1 : 0 ≤ i.toInt) (h2 : i.toInt < n) : rAt n (rPut n f i v) i = v := by
  rw [rAt_in h1 h2, rPut_in h1 h2]
  exact if_pos rfl
theorem rAt_put_n {n : Nat} {f : Nat → Int32} {i j v : Int32} (h : j.toInt ≠ i.toInt) : rAt n (rPut n f i v) j = rAt n f j := by
  by_cases hi : 0 ≤ i.toInt ∧ i.toInt < n
  · rw [rPut_in hi.1 hi.2]
    by_cases hj : 0 ≤ j.toInt ∧ j.toInt < n
    · rw [rAt_in hj.1 hj.2, rAt_in hj.1 hj.2]
      have h1 := i32_cl hi.1
      have h2 := i32_cl hj.1
      exact if_neg (by omega)
    · rw [rAt_out (by omega), rAt_out (by omega)]
  · rw [rPut_out (by omega)]
theorem rAt_zero {n : Nat} {f : Nat → Int32} (h : ∀ j, j < n → f j = 0) (i : Int32) : rAt n f i = 0 := by
  by_cases hi : 0 ≤ i.toInt ∧ i.toInt < n
  · rw [rAt_in hi.1 hi.2]
    have h1 := i32_cl hi.1
    exact h _ (by omega)
  · exact rAt_out (by omega)
/-- no wind, few holes, each plain and at height 5 -/
def sQuiet (V : sV) (r : Nat) : Prop := V r 1 = 0 ∧ (V 3 7).toInt ≤ 10 ∧ ∀ i : Int32, 0 ≤ i.toInt → i.toInt < (V 3 7).toInt → rAt 10 (V 6) i = 0 ∧ rAt 10 (V 8) i = 5
/-- nothing pushes -/
def sCalm (V : sV) : Prop := (∀ j : Int32, rAt 6 (V 43) j = 0) ∧ V 45 0 = 0 ∧ ∀ i : Int32, 0 ≤ i.toInt → i.toInt < (V 3 7).toInt → rAt 10 (V 42) i = 0 ∧ rAt 10 (V 40) i = -1
theorem sFlow0 {f : Nat → Int32} {p q x z w u t m : Int32} (hp : p = 0) (hq : q = 0) (e1 : x = p - q) (e2 : z = if 0 ≤ x then x else 0 - x) (e3 : w.toInt = min z.toInt (1200 : Int32).toInt) (hf : f 0 = 0) (e4 : u = rAt 1201 f w) (e5 : m = t * u) : m = 0 := by
  subst hp hq
  have h1 : x = 0 := by rw [e1]; rfl
  subst h1
  have h2 : z = 0 := by rw [e2]; rfl
  subst h2
  have h3 : w.toInt = 0 := by rw [e3]; rfl
  have h4 : w = 0 := Int32.toInt_inj.mp h3
  subst h4
  have h5 : rAt 1201 f 0 = f 0 := rAt_in (by decide) (by decide)
  rw [e5, e4, h5, hf]
  simp
theorem sMax0 {x y : Int32} (h : y = 0) (e : x.toInt = max y.toInt (0 : Int32).toInt) : x = 0 := by
  subst h
  exact Int32.toInt_inj.mp (by rw [e]; rfl)
def q_flow (V : sV) (i : Int32) : Int32 → sV → Prop := fun x V1 => (sCalm V → 0 ≤ i.toInt → i.toInt < (V 3 7).toInt → x = 0) ∧ V1 = V
set_option maxRecDepth 100000 in
set_option maxHeartbeats 4000000 in
theorem k_flow {l : Launch} {D : va_G} {cI : ClassId} {a : Nat → Nat} (ha : sInj SX a) (V : sV) (i : Int32) : sMI l D cI SX a V yX1_flowThrough cX1_flowThrough 6 .int 1 [.ref (a 38), .int i] (q_flow V i) := by
  refine sMIof ha (by decide +kernel) (Nat.le_of_ble_eq_true rfl) ?_
  intro p e s m below meth c ls G X hl
  obtain ⟨hx, hb, hml, hown, hts, hlocks, hr, hK⟩ := id G
  have hl : lv_has ls 6 [(0, .ref (a 38)), (1, .int i)] := hl
  refine lv_aload_n hx hb dX1_flowThrough_0 rfl (lv_at hl 0 rfl) ?_
  refine sgR G X 38 2 rfl rfl fl_X1_19 dX1_flowThrough_1 ?_
  refine lv_iload_n hx hb dX1_flowThrough_4 rfl (lv_at hl 1 rfl) ?_
  refine scSI (As := [.ref (a 40), .int i]) (rest := []) G X (k_at ha V 40 10 rfl (by first | decide | assumption) i) iy_X5_at ml_X1_52 rfl rfl hl.1 (by decide) (by decide) (Nat.le_of_ble_eq_true rfl) dX1_flowThrough_5 (fun y5 V5 H locs p5 X => ?_)
  obtain ⟨p5, z5⟩ := p5
  subst V5
  refine lv_istore_n (lv' := [(2, .int y5), (0, .ref (a 38)), (1, .int i)]) hx hb dX1_flowThrough_8 rfl hl (by decide) rfl (fun ls hl => ?_)
  refine lv_iload_n hx hb dX1_flowThrough_9 rfl (lv_at hl 0 rfl) ?_
  refine lv_iconst (v := (-1)) hx hb dX1_flowThrough_10 (by decide) ?_
  refine sIne (tgt := 25) hx hb (rfl : Int32.toInt y5 = _) (by decide : ((-1) : Int32).toInt = -1) dX1_flowThrough_11 (by decide) (fun c11 => ?_) (fun c11 => ?_)
  · skip
    refine lv_aload_n hx hb dX1_flowThrough_25 rfl (lv_at hl 1 rfl) ?_
    refine sgR G X 38 5 rfl rfl fl_X1_28 dX1_flowThrough_26 ?_
    refine lv_iload_n hx hb dX1_flowThrough_29 rfl (lv_at hl 0 rfl) ?_
    refine scSI (As := [.ref (a 43), .int y5]) (rest := []) G X (k_at ha V 43 6 rfl (by first | decide | assumption) y5) iy_X5_at ml_X1_52 rfl rfl hl.1 (by decide) (by decide) (Nat.le_of_ble_eq_true rfl) dX1_flowThrough_30 (fun y30 V30 H locs p30 X => ?_)
    obtain ⟨p30, z30⟩ := p30
    subst V30
    refine lv_istore_n (lv' := [(3, .int y30), (2, .int y5), (0, .ref (a 38)), (1, .int i)]) hx hb dX1_flowThrough_33 rfl hl (by decide) rfl (fun ls hl => ?_)
    refine lv_iload_n hx hb dX1_flowThrough_34 rfl (lv_at hl 0 rfl) ?_
    refine lv_aload_n hx hb dX1_flowThrough_35 rfl (lv_at hl 2 rfl) ?_
    refine sgR G X 38 5 rfl rfl fl_X1_28 dX1_flowThrough_36 ?_
    refine lv_aload_n hx hb dX1_flowThrough_39 rfl (lv_at hl 2 rfl) ?_
    refine sgR G X 38 3 rfl rfl fl_X1_22 dX1_flowThrough_40 ?_
    refine lv_iload_n hx hb dX1_flowThrough_43 rfl (lv_at hl 3 rfl) ?_
    refine scSI (As := [.ref (a 41), .int i]) (rest := [.ref (a 43), .int y30]) G X (k_at ha V 41 10 rfl (by first | decide | assumption) i) iy_X5_at ml_X1_52 rfl rfl hl.1 (by decide) (by decide) (Nat.le_of_ble_eq_true rfl) dX1_flowThrough_44 (fun y44 V44 H locs p44 X => ?_)
    obtain ⟨p44, z44⟩ := p44
    subst V44
    refine scSI (As := [.ref (a 43), .int y44]) (rest := [.int y30]) G X (k_at ha V 43 6 rfl (by first | decide | assumption) y44) iy_X5_at ml_X1_52 rfl rfl hl.1 (by decide) (by decide) (Nat.le_of_ble_eq_true rfl) dX1_flowThrough_47 (fun y47 V47 H locs p47 X => ?_)
    obtain ⟨p47, z47⟩ := p47
    subst V47
    refine lv_isub hx hb dX1_flowThrough_50 ?_
    refine lv_topi (fun x50 e50 => ?_)
    refine lv_istore (lv' := [(4, .int x50), (3, .int y30), (2, .int y5), (0, .ref (a 38)), (1, .int i)]) hx hb dX1_flowThrough_51 hl (by decide) rfl (fun ls hl => ?_)
    refine lv_aload_n hx hb dX1_flowThrough_53 rfl (lv_at hl 3 rfl) ?_
    refine sgR G X 38 1 rfl rfl fl_X1_15 dX1_flowThrough_54 ?_
    refine lv_iload_n hx hb dX1_flowThrough_57 rfl (lv_at hl 4 rfl) ?_
    refine scSI (As := [.ref (a 39), .int i]) (rest := []) G X (k_at ha V 39 10 rfl (by first | decide | assumption) i) iy_X5_at ml_X1_52 rfl rfl hl.1 (by decide) (by decide) (Nat.le_of_ble_eq_true rfl) dX1_flowThrough_58 (fun y58 V58 H locs p58 X => ?_)
    obtain ⟨p58, z58⟩ := p58
    subst V58
    refine lv_aload_n hx hb dX1_flowThrough_61 rfl (lv_at hl 3 rfl) ?_
    refine sgR G X 38 7 rfl rfl fl_X1_34 dX1_flowThrough_62 ?_
    refine lv_iload hx hb dX1_flowThrough_65 (lv_at hl 0 rfl) ?_
    refine sAbs hx hb hml hl.1 hown hts mm_X1_104 (by decide) (Nat.le_of_ble_eq_true rfl) dX1_flowThrough_67 (fun x67 e67 => ?_)
    refine lv_sipush (v := 1200) hx hb dX1_flowThrough_70 (by decide) ?_
    refine sMin hx hb hml hl.1 hown hts mm_X1_109 (by decide) (Nat.le_of_ble_eq_true rfl) dX1_flowThrough_73 (fun x73 e73 => ?_)
    refine scSI (As := [.ref (a 45), .int x73]) (rest := [.int y58]) G X (k_at ha V 45 1201 rfl (by first | decide | assumption) x73) iy_X5_at ml_X1_52 rfl rfl hl.1 (by decide) (by decide) (Nat.le_of_ble_eq_true rfl) dX1_flowThrough_76 (fun y76 V76 H locs p76 X => ?_)
    obtain ⟨p76, z76⟩ := p76
    subst V76
    refine lv_imul hx hb dX1_flowThrough_79 ?_
    refine lv_topi (fun x79 e79 => ?_)
    refine lv_istore (lv' := [(5, .int x79), (4, .int x50), (3, .int y30), (2, .int y5), (0, .ref (a 38)), (1, .int i)]) hx hb dX1_flowThrough_80 hl (by decide) rfl (fun ls hl => ?_)
    refine lv_iload hx hb dX1_flowThrough_82 (lv_at hl 1 rfl) ?_
    refine sZge (tgt := 93) hx hb (rfl : Int32.toInt x50 = _) dX1_flowThrough_84 (by decide) (fun c84 => ?_) (fun c84 => ?_)
    · skip
      refine lv_iload hx hb dX1_flowThrough_93 (lv_at hl 0 rfl) ?_
      exact srI G X (rfl) dX1_flowThrough_95 (by exact ⟨fun hc h1 h2 => by first | (exfalso; rw [p5, (hc.2.2 i h1 h2).2] at c11; exact c11 rfl) | (have h9 : x79 = 0 := sFlow0 (p19.trans (hc.2.2 i h1 h2).1) (p47.trans (hc.1 _)) e50 e67 e73 hc.2.1 p76 e79; first | exact h9 | (rw [e89, h9]; rfl)), rfl⟩)
    · skip
      refine lv_iload hx hb dX1_flowThrough_87 (lv_at hl 0 rfl) ?_
      refine lv_ineg hx hb dX1_flowThrough_89 ?_
      refine lv_topi (fun x89 e89 => ?_)
      refine lv_goto (tgt := 95) hx hb dX1_flowThrough_90 (by decide) ?_
      exact srI G X (rfl) dX1_flowThrough_95 (by exact ⟨fun hc h1 h2 => by first | (exfalso; rw [p5, (hc.2.2 i h1 h2).2] at c11; exact c11 rfl) | (have h9 : x79 = 0 := sFlow0 (p19.trans (hc.2.2 i h1 h2).1) (p47.trans (hc.1 _)) e50 e67 e73 hc.2.1 p76 e79; first | exact h9 | (rw [e89, h9]; rfl)), rfl⟩)
  · skip
    refine lv_aload_n hx hb dX1_flowThrough_14 rfl (lv_at hl 1 rfl) ?_
    refine sgR G X 38 4 rfl rfl fl_X1_25 dX1_flowThrough_15 ?_
    refine lv_iload_n hx hb dX1_flowThrough_18 rfl (lv_at hl 2 rfl) ?_
    refine scSI (As := [.ref (a 42), .int i]) (rest := []) G X (k_at ha V 42 10 rfl (by first | decide | assumption) i) iy_X5_at ml_X1_52 rfl rfl hl.1 (by decide) (by decide) (Nat.le_of_ble_eq_true rfl) dX1_flowThrough_19 (fun y19 V19 H locs p19 X => ?_)
    obtain ⟨p19, z19⟩ := p19
    subst V19
    refine lv_goto (tgt := 33) hx hb dX1_flowThrough_22 (by decide) ?_
    refine lv_istore_n (lv' := [(3, .int y19), (2, .int y5), (0, .ref (a 38)), (1, .int i)]) hx hb dX1_flowThrough_33 rfl hl (by decide) rfl (fun ls hl => ?_)
    refine lv_iload_n hx hb dX1_flowThrough_34 rfl (lv_at hl 0 rfl) ?_
    refine lv_aload_n hx hb dX1_flowThrough_35 rfl (lv_at hl 2 rfl) ?_
    refine sgR G X 38 5 rfl rfl fl_X1_28 dX1_flowThrough_36 ?_
    refine lv_aload_n hx hb dX1_flowThrough_39 rfl (lv_at hl 2 rfl) ?_
    refine sgR G X 38 3 rfl rfl fl_X1_22 dX1_flowThrough_40 ?_
    refine lv_iload_n hx hb dX1_flowThrough_43 rfl (lv_at hl 3 rfl) ?_
    refine scSI (As := [.ref (a 41), .int i]) (rest := [.ref (a 43), .int y19]) G X (k_at ha V 41 10 rfl (by first | decide | assumption) i) iy_X5_at ml_X1_52 rfl rfl hl.1 (by decide) (by decide) (Nat.le_of_ble_eq_true rfl) dX1_flowThrough_44 (fun y44 V44 H locs p44 X => ?_)
    obtain ⟨p44, z44⟩ := p44
    subst V44
    refine scSI (As := [.ref (a 43), .int y44]) (rest := [.int y19]) G X (k_at ha V 43 6 rfl (by first | decide | assumption) y44) iy_X5_at ml_X1_52 rfl rfl hl.1 (by decide) (by decide) (Nat.le_of_ble_eq_true rfl) dX1_flowThrough_47 (fun y47 V47 H locs p47 X => ?_)
    obtain ⟨p47, z47⟩ := p47
    subst V47
    refine lv_isub hx hb dX1_flowThrough_50 ?_
    refine lv_topi (fun x50 e50 => ?_)
    refine lv_istore (lv' := [(4, .int x50), (3, .int y19), (2, .int y5), (0, .ref (a 38)), (1, .int i)]) hx hb dX1_flowThrough_51 hl (by decide) rfl (fun ls hl => ?_)
    refine lv_aload_n hx hb dX1_flowThrough_53 rfl (lv_at hl 3 rfl) ?_
    refine sgR G X 38 1 rfl rfl fl_X1_15 dX1_flowThrough_54 ?_
    refine lv_iload_n hx hb dX1_flowThrough_57 rfl (lv_at hl 4 rfl) ?_
    refine scSI (As := [.ref (a 39), .int i]) (rest := []) G X (k_at ha V 39 10 rfl (by first | decide | assumption) i) iy_X5_at ml_X1_52 rfl rfl hl.1 (by decide) (by decide) (Nat.le_of_ble_eq_true rfl) dX1_flowThrough_58 (fun y58 V58 H locs p58 X => ?_)
    obtain ⟨p58, z58⟩ := p58
    subst V58
    refine lv_aload_n hx hb dX1_flowThrough_61 rfl (lv_at hl 3 rfl) ?_
    refine sgR G X 38 7 rfl rfl fl_X1_34 dX1_flowThrough_62 ?_
    refine lv_iload hx hb dX1_flowThrough_65 (lv_at hl 0 rfl) ?_
    refine sAbs hx hb hml hl.1 hown hts mm_X1_104 (by decide) (Nat.le_of_ble_eq_true rfl) dX1_flowThrough_67 (fun x67 e67 => ?_)
    refine lv_sipush (v := 1200) hx hb dX1_flowThrough_70 (by decide) ?_
    refine sMin hx hb hml hl.1 hown hts mm_X1_109 (by decide) (Nat.le_of_ble_eq_true rfl) dX1_flowThrough_73 (fun x73 e73 => ?_)
    refine scSI (As := [.ref (a 45), .int x73]) (rest := [.int y58]) G X (k_at ha V 45 1201 rfl (by first | decide | assumption) x73) iy_X5_at ml_X1_52 rfl rfl hl.1 (by decide) (by decide) (Nat.le_of_ble_eq_true rfl) dX1_flowThrough_76 (fun y76 V76 H locs p76 X => ?_)
    obtain ⟨p76, z76⟩ := p76
    subst V76
    refine lv_imul hx hb dX1_flowThrough_79 ?_
    refine lv_topi (fun x79 e79 => ?_)
    refine lv_istore (lv' := [(5, .int x79), (4, .int x50), (3, .int y19), (2, .int y5), (0, .ref (a 38)), (1, .int i)]) hx hb dX1_flowThrough_80 hl (by decide) rfl (fun ls hl => ?_)
    refine lv_iload hx hb dX1_flowThrough_82 (lv_at hl 1 rfl) ?_
    refine sZge (tgt := 93) hx hb (rfl : Int32.toInt x50 = _) dX1_flowThrough_84 (by decide) (fun c84 => ?_) (fun c84 => ?_)
    · skip
      refine lv_iload hx hb dX1_flowThrough_93 (lv_at hl 0 rfl) ?_
      exact srI G X (rfl) dX1_flowThrough_95 (by exact ⟨fun hc h1 h2 => by first | (exfalso; rw [p5, (hc.2.2 i h1 h2).2] at c11; exact c11 rfl) | (have h9 : x79 = 0 := sFlow0 (p19.trans (hc.2.2 i h1 h2).1) (p47.trans (hc.1 _)) e50 e67 e73 hc.2.1 p76 e79; first | exact h9 | (rw [e89, h9]; rfl)), rfl⟩)
    · skip
      refine lv_iload hx hb dX1_flowThrough_87 (lv_at hl 0 rfl) ?_
      refine lv_ineg hx hb dX1_flowThrough_89 ?_
      refine lv_topi (fun x89 e89 => ?_)
      refine lv_goto (tgt := 95) hx hb dX1_flowThrough_90 (by decide) ?_
      exact srI G X (rfl) dX1_flowThrough_95 (by exact ⟨fun hc h1 h2 => by first | (exfalso; rw [p5, (hc.2.2 i h1 h2).2] at c11; exact c11 rfl) | (have h9 : x79 = 0 := sFlow0 (p19.trans (hc.2.2 i h1 h2).1) (p47.trans (hc.1 _)) e50 e67 e73 hc.2.1 p76 e79; first | exact h9 | (rw [e89, h9]; rfl)), rfl⟩)
def q_takeSizes (V : sV) : sV → Prop := fun V1 => sAg [39] V V1
set_option maxRecDepth 100000 in
set_option maxHeartbeats 4000000 in
theorem k_takeSizes {l : Launch} {D : va_G} {cI : ClassId} {a : Nat → Nat} (ha : sInj SX a) (V : sV) (q : Int32) : sMV l D cI SX a V yX1_takeSizes cX1_takeSizes 3 1 [.ref (a 38), .int q] (q_takeSizes V) := by
  refine sMVof ha (by decide +kernel) (Nat.le_of_ble_eq_true rfl) ?_
  intro p e s m below meth c ls G X hl
  obtain ⟨hx, hb, hml, hown, hts, hlocks, hr, hK⟩ := id G
  have hl : lv_has ls 3 [(0, .ref (a 38)), (1, .int q)] := hl
  refine lv_iconst (v := 0) hx hb dX1_takeSizes_0 (by decide) ?_
  refine lv_istore_n (lv' := [(2, .int 0), (0, .ref (a 38)), (1, .int q)]) hx hb dX1_takeSizes_1 rfl hl (by decide) rfl (fun ls hl => ?_)
  have L2 : ∀ (fu2 : Nat) (i : Int32) (Y : sV) (H : Heap) (locs : List Loc) (ls : Array Slot), (0 ≤ i.toInt) → (sAg [39] V Y) → (((V 3 7).toInt - i.toInt).toNat) < fu2 → sWS D cI SX a Y s.heap H locs → lv_has ls 3 [(2, .int i), (0, .ref (a 38)), (1, .int q)] → W p l e (rmD 1) s m ([.ref (a 38), .int q] : List Value).toArray below meth c H locs 0 0 (MQ below (va_Qv (q_takeSizes V) (fun V1 t => va_P D vwCl (sWd cI SX a V1) t.heap) (sA SX a s.heap.size)) ([.ref (a 38), .int q] : List Value).toArray s 0 0 (sA SX a s.heap.size)) (F0 m 2 ls []) := by
    intro fu2
    induction fu2 with
    | zero => intro i Y H locs ls hi hA hm2; exact absurd hm2 (Nat.not_lt_zero _)
    | succ fu2 ih2 =>
      intro i Y H locs ls hi hA hm2 X hl
      refine lv_iload_n hx hb dX1_takeSizes_2 rfl (lv_at hl 0 rfl) ?_
      refine lv_aload_n hx hb dX1_takeSizes_3 rfl (lv_at hl 1 rfl) ?_
      refine sgR G X 38 0 rfl rfl fl_X1_9 dX1_takeSizes_4 ?_
      refine sgR G X 2 1 rfl rfl fl_X1_37 dX1_takeSizes_7 ?_
      refine sgI G X 3 7 rfl rfl fl_X1_43 dX1_takeSizes_10 ?_
      refine sIge (tgt := 57) hx hb (rfl : Int32.toInt i = _) (rfl : Int32.toInt (Y 3 7) = _) dX1_takeSizes_13 (by decide) (fun c13 => ?_) (fun c13 => ?_)
      · skip
        rw [hA 3 (by decide)] at c13
        exact srV G X dX1_takeSizes_57 (by exact hA)
      · skip
        rw [hA 3 (by decide)] at c13
        refine lv_aload_n hx hb dX1_takeSizes_16 rfl (lv_at hl 1 rfl) ?_
        refine sgR G X 38 1 rfl rfl fl_X1_15 dX1_takeSizes_17 ?_
        refine lv_iload_n hx hb dX1_takeSizes_20 rfl (lv_at hl 0 rfl) ?_
        refine lv_iload_n hx hb dX1_takeSizes_21 rfl (lv_at hl 2 rfl) ?_
        refine lv_iload_n hx hb dX1_takeSizes_22 rfl (lv_at hl 0 rfl) ?_
        refine lv_ishr hx hb dX1_takeSizes_23 ?_
        refine lv_topi (fun x23 e23 => ?_)
        refine lv_iconst (v := 1) hx hb dX1_takeSizes_24 (by decide) ?_
        refine lv_iand hx hb dX1_takeSizes_25 ?_
        refine lv_topi (fun x25 e25 => ?_)
        refine lv_iconst (v := 1) hx hb dX1_takeSizes_26 (by decide) ?_
        refine sIne (tgt := 34) hx hb (rfl : Int32.toInt x25 = _) (by decide : (1 : Int32).toInt = 1) dX1_takeSizes_27 (by decide) (fun c27 => ?_) (fun c27 => ?_)
        · skip
          refine lv_aload_n hx hb dX1_takeSizes_34 rfl (lv_at hl 1 rfl) ?_
          refine sgR G X 38 0 rfl rfl fl_X1_9 dX1_takeSizes_35 ?_
          refine sgR G X 2 1 rfl rfl fl_X1_37 dX1_takeSizes_38 ?_
          refine sgR G X 3 3 rfl rfl fl_X1_49 dX1_takeSizes_41 ?_
          refine lv_iload_n hx hb dX1_takeSizes_44 rfl (lv_at hl 0 rfl) ?_
          refine scSI (As := [.ref (a 7), .int i]) (rest := [.int i, .ref (a 39)]) G X (k_at ha Y 7 10 rfl (by first | decide | assumption) i) iy_X5_at ml_X1_52 rfl rfl hl.1 (by decide) (by decide) (Nat.le_of_ble_eq_true rfl) dX1_takeSizes_45 (fun y45 V45 H locs p45 X => ?_)
          obtain ⟨p45, z45⟩ := p45
          subst V45
          refine scSV (As := [.ref (a 39), .int i, .int y45]) (rest := []) G X (k_put ha Y 39 10 rfl (by first | decide | assumption) i y45) iy_X5_put ml_X1_58 rfl rfl hl.1 (by decide) (by decide) (Nat.le_of_ble_eq_true rfl) dX1_takeSizes_48 (fun V48 H locs p48 X => ?_)
          obtain ⟨x51, e51⟩ : ∃ y : Int32, y = i + (1) := ⟨_, rfl⟩
          refine lv_iinc (v := x51) (lv' := [(2, .int x51), (0, .ref (a 38)), (1, .int q)]) hx hb dX1_takeSizes_51 hl (k := 0) rfl (by rw [e51]; rfl) (by decide) rfl (fun ls hl => ?_)
          refine lv_goto (tgt := 2) hx hb dX1_takeSizes_54 (by decide) ?_
          exact ih2 x51 V48 _ _ _ (by rw [i32_i e51 (by have := i32_hi (V 3 7); omega)]; omega) (by rw [show V48 = _ from p48]; exact hA.up (by simp)) (by rw [i32_i e51 (by have := i32_hi (V 3 7); omega)]; omega) X (lv_sub hl [0, 1, 2] rfl)
        · skip
          refine lv_iconst (v := 0) hx hb dX1_takeSizes_30 (by decide) ?_
          refine lv_goto (tgt := 48) hx hb dX1_takeSizes_31 (by decide) ?_
          refine scSV (As := [.ref (a 39), .int i, .int 0]) (rest := []) G X (k_put ha Y 39 10 rfl (by first | decide | assumption) i 0) iy_X5_put ml_X1_58 rfl rfl hl.1 (by decide) (by decide) (Nat.le_of_ble_eq_true rfl) dX1_takeSizes_48 (fun V48 H locs p48 X => ?_)
          obtain ⟨x51, e51⟩ : ∃ y : Int32, y = i + (1) := ⟨_, rfl⟩
          refine lv_iinc (v := x51) (lv' := [(2, .int x51), (0, .ref (a 38)), (1, .int q)]) hx hb dX1_takeSizes_51 hl (k := 0) rfl (by rw [e51]; rfl) (by decide) rfl (fun ls hl => ?_)
          refine lv_goto (tgt := 2) hx hb dX1_takeSizes_54 (by decide) ?_
          exact ih2 x51 V48 _ _ _ (by rw [i32_i e51 (by have := i32_hi (V 3 7); omega)]; omega) (by rw [show V48 = _ from p48]; exact hA.up (by simp)) (by rw [i32_i e51 (by have := i32_hi (V 3 7); omega)]; omega) X (lv_sub hl [0, 1, 2] rfl)
  exact L2 _ 0 V _ _ _ (by decide) (sAg.rf) (Nat.lt_succ_self _) X (lv_sub hl [0, 1, 2] rfl)
def q_changeSize (V : sV) : sV → Prop := fun V1 => sAg [39] V V1
set_option maxRecDepth 100000 in
set_option maxHeartbeats 4000000 in
theorem k_changeSize {l : Launch} {D : va_G} {cI : ClassId} {a : Nat → Nat} (ha : sInj SX a) (V : sV) (i v : Int32) : sMV l D cI SX a V yX1_changeSize cX1_changeSize 3 1 [.ref (a 38), .int i, .int v] (q_changeSize V) := by
  refine sMVof ha (by decide +kernel) (Nat.le_of_ble_eq_true rfl) ?_
  intro p e s m below meth c ls G X hl
  obtain ⟨hx, hb, hml, hown, hts, hlocks, hr, hK⟩ := id G
  have hl : lv_has ls 3 [(0, .ref (a 38)), (1, .int i), (2, .int v)] := hl
  refine lv_aload_n hx hb dX1_changeSize_0 rfl (lv_at hl 0 rfl) ?_
  refine sgR G X 38 1 rfl rfl fl_X1_15 dX1_changeSize_1 ?_
  refine lv_iload_n hx hb dX1_changeSize_4 rfl (lv_at hl 1 rfl) ?_
  refine lv_iload_n hx hb dX1_changeSize_5 rfl (lv_at hl 2 rfl) ?_
  refine scSV (As := [.ref (a 39), .int i, .int v]) (rest := []) G X (k_put ha V 39 10 rfl (by first | decide | assumption) i v) iy_X5_put ml_X1_58 rfl rfl hl.1 (by decide) (by decide) (Nat.le_of_ble_eq_true rfl) dX1_changeSize_6 (fun V6 H locs p6 X => ?_)
  exact srV G X dX1_changeSize_9 (by rw [show V6 = _ from p6]; exact sAg.rf.up (by simp))
def q_begin (V : sV) (r : Nat) : sV → Prop := fun V1 => sAg [40, 41, 42, 43] V V1 ∧ (sQuiet V r → V 45 0 = 0 → sCalm V1)
set_option maxRecDepth 100000 in
set_option maxHeartbeats 4000000 in
theorem k_begin {l : Launch} {D : va_G} {cI : ClassId} {a : Nat → Nat} (ha : sInj SX a) (V : sV) (r : Nat) (hr0 : SX[r]? = some (.inr (0, [none, none, none, none]))) (hrn : r ∉ [40, 41, 42, 43, 44]) : sMV l D cI SX a V yX1_begin cX1_begin 5 2 [.ref (a 38), .ref (a r)] (q_begin V r) := by
  refine sMVof ha (by decide +kernel) (Nat.le_of_ble_eq_true rfl) ?_
  intro p e s m below meth c ls G X hl
  obtain ⟨hx, hb, hml, hown, hts, hlocks, hr, hK⟩ := id G
  have hl : lv_has ls 5 [(0, .ref (a 38)), (1, .ref (a r))] := hl
  refine lv_iconst (v := 0) hx hb dX1_begin_0 (by decide) ?_
  refine lv_istore_n (lv' := [(2, .int 0), (0, .ref (a 38)), (1, .ref (a r))]) hx hb dX1_begin_1 rfl hl (by decide) rfl (fun ls hl => ?_)
  have L2 : ∀ (fu2 : Nat) (i : Int32) (Y : sV) (H : Heap) (locs : List Loc) (ls : Array Slot), (0 ≤ i.toInt) → (sAg [40, 41, 42] V Y) → (sQuiet V r → ∀ j : Int32, 0 ≤ j.toInt → j.toInt < i.toInt → rAt 10 (Y 42) j = 0 ∧ rAt 10 (Y 40) j = -1) → (((V 3 7).toInt - i.toInt).toNat) < fu2 → sWS D cI SX a Y s.heap H locs → lv_has ls 5 [(2, .int i), (0, .ref (a 38)), (1, .ref (a r))] → W p l e (rmD 2) s m ([.ref (a 38), .ref (a r)] : List Value).toArray below meth c H locs 0 0 (MQ below (va_Qv (q_begin V r) (fun V1 t => va_P D vwCl (sWd cI SX a V1) t.heap) (sA SX a s.heap.size)) ([.ref (a 38), .ref (a r)] : List Value).toArray s 0 0 (sA SX a s.heap.size)) (F0 m 2 ls []) := by
    intro fu2
    induction fu2 with
    | zero => intro i Y H locs ls hi hA hq hm2; exact absurd hm2 (Nat.not_lt_zero _)
    | succ fu2 ih2 =>
      intro i Y H locs ls hi hA hq hm2 X hl
      refine lv_iload_n hx hb dX1_begin_2 rfl (lv_at hl 0 rfl) ?_
      refine lv_aload_n hx hb dX1_begin_3 rfl (lv_at hl 1 rfl) ?_
      refine sgR G X 38 0 rfl rfl fl_X1_9 dX1_begin_4 ?_
      refine sgR G X 2 1 rfl rfl fl_X1_37 dX1_begin_7 ?_
      refine sgI G X 3 7 rfl rfl fl_X1_43 dX1_begin_10 ?_
      refine sIge (tgt := 119) hx hb (rfl : Int32.toInt i = _) (rfl : Int32.toInt (Y 3 7) = _) dX1_begin_13 (by decide) (fun c13 => ?_) (fun c13 => ?_)
      · skip
        rw [hA 3 (by decide)] at c13
        refine lv_iconst (v := 0) hx hb dX1_begin_119 (by decide) ?_
        refine lv_istore_n (lv' := [(2, .int 0), (0, .ref (a 38)), (1, .ref (a r))]) hx hb dX1_begin_120 rfl hl (by decide) rfl (fun ls hl => ?_)
        have L121 : ∀ (fu121 : Nat) (b : Int32) (Z : sV) (H : Heap) (locs : List Loc) (ls : Array Slot), (0 ≤ b.toInt) → (sAg [40, 41, 42, 43] V Z) → (sQuiet V r → V 45 0 = 0 → ∀ j : Int32, 0 ≤ j.toInt → j.toInt < (V 3 7).toInt → rAt 10 (Z 42) j = 0 ∧ rAt 10 (Z 40) j = -1) → (∀ j : Nat, (j : Int) < b.toInt → Z 43 j = 0) → ((6 - b.toInt).toNat) < fu121 → sWS D cI SX a Z s.heap H locs → lv_has ls 5 [(2, .int b), (0, .ref (a 38)), (1, .ref (a r))] → W p l e (rmD 2) s m ([.ref (a 38), .ref (a r)] : List Value).toArray below meth c H locs 0 0 (MQ below (va_Qv (q_begin V r) (fun V1 t => va_P D vwCl (sWd cI SX a V1) t.heap) (sA SX a s.heap.size)) ([.ref (a 38), .ref (a r)] : List Value).toArray s 0 0 (sA SX a s.heap.size)) (F0 m 121 ls []) := by
          intro fu121
          induction fu121 with
          | zero => intro b Z H locs ls hb1 hA2 hq2 hz hm121; exact absurd hm121 (Nat.not_lt_zero _)
          | succ fu121 ih121 =>
            intro b Z H locs ls hb1 hA2 hq2 hz hm121 X hl
            refine lv_iload_n hx hb dX1_begin_121 rfl (lv_at hl 0 rfl) ?_
            refine lv_aload_n hx hb dX1_begin_122 rfl (lv_at hl 1 rfl) ?_
            refine sgR G X 38 5 rfl rfl fl_X1_28 dX1_begin_123 ?_
            refine sln G X 43 rfl dX1_begin_126 ?_
            refine sIge (tgt := 143) hx hb (rfl : Int32.toInt b = _) (rfl : Int32.toInt (nI 6) = _) dX1_begin_127 (by decide) (fun c127 => ?_) (fun c127 => ?_)
            · skip
              rw [nI_toInt (by decide)] at c127
              exact srV G X dX1_begin_143 (by exact ⟨hA2, fun hQ h0 => ⟨rAt_zero (fun j hj => hz j (by have : (6 : Int) ≤ b.toInt := c127; omega)), by rw [hA2 45 (by decide)]; exact h0, fun i h1 h2 => hq2 hQ h0 i h1 (by rw [hA2 3 (by decide)] at h2; exact h2)⟩⟩)
            · skip
              rw [nI_toInt (by decide)] at c127
              refine lv_aload_n hx hb dX1_begin_130 rfl (lv_at hl 1 rfl) ?_
              refine sgR G X 38 5 rfl rfl fl_X1_28 dX1_begin_131 ?_
              refine lv_iload_n hx hb dX1_begin_134 rfl (lv_at hl 0 rfl) ?_
              refine lv_iconst (v := 0) hx hb dX1_begin_135 (by decide) ?_
              refine sst G X 43 rfl (i32_in hb1 c127) dX1_begin_136 (fun H locs X => ?_)
              obtain ⟨x137, e137⟩ : ∃ y : Int32, y = b + (1) := ⟨_, rfl⟩
              refine lv_iinc (v := x137) (lv' := [(2, .int x137), (0, .ref (a 38)), (1, .ref (a r))]) hx hb dX1_begin_137 hl (k := 0) rfl (by rw [e137]; rfl) (by decide) rfl (fun ls hl => ?_)
              refine lv_goto (tgt := 121) hx hb dX1_begin_140 (by decide) ?_
              exact ih121 x137 (sUp Z 43 (upd (Z 43) b.toNatClampNeg 0)) _ _ _ (by rw [i32_i e137 (by omega)]; omega) (hA2.up (by simp)) (fun hQ h0 j h1 h2 => by rw [sUp_n _ _ (by decide), sUp_n _ _ (by decide)]; exact hq2 hQ h0 j h1 h2) (fun j hj => by
            rw [i32_i e137 (by omega)] at hj
            have h8 := i32_cl hb1
            rw [sUp_s]
            show (if j = b.toNatClampNeg then (0 : Int32) else Z 43 j) = 0
            by_cases h9 : j = b.toNatClampNeg
            · rw [if_pos h9]
            · rw [if_neg h9]; exact hz j (by omega)) (by rw [i32_i e137 (by omega)]; omega) X (lv_sub hl [0, 1, 2] rfl)
        exact L121 _ 0 Y _ _ _ (by decide) (hA.mono (by decide)) (fun hQ _ j h1 h2 => hq hQ j h1 (by omega)) (fun j hj => absurd hj (by show ¬ (j : Int) < 0; omega)) (Nat.lt_succ_self _) X (lv_sub hl [0, 1, 2] rfl)
      · skip
        rw [hA 3 (by decide)] at c13
        refine lv_aload_n hx hb dX1_begin_16 rfl (lv_at hl 1 rfl) ?_
        refine sgR G X 38 0 rfl rfl fl_X1_9 dX1_begin_17 ?_
        refine sgR G X 2 1 rfl rfl fl_X1_37 dX1_begin_20 ?_
        refine lv_iload_n hx hb dX1_begin_23 rfl (lv_at hl 0 rfl) ?_
        refine scI (ci := 2) (As := [.int i]) (rest := []) G X (k_isDoor ha Y i) iy_X2_isDoor ml_X1_77 rfl rfl rfl rfl hl.1 (by decide) (by decide) (Nat.le_of_ble_eq_true rfl) dX1_begin_24 (fun y24 V24 H locs p24 X => ?_)
        obtain ⟨p24, z24⟩ := p24
        subst V24
        refine lv_istore_n (lv' := [(3, .int y24), (2, .int i), (0, .ref (a 38)), (1, .ref (a r))]) hx hb dX1_begin_27 rfl hl (by decide) rfl (fun ls hl => ?_)
        refine lv_aload_n hx hb dX1_begin_28 rfl (lv_at hl 2 rfl) ?_
        refine sgR G X 38 0 rfl rfl fl_X1_9 dX1_begin_29 ?_
        refine sgR G X 2 1 rfl rfl fl_X1_37 dX1_begin_32 ?_
        refine sgR G X 3 0 rfl rfl fl_X1_81 dX1_begin_35 ?_
        refine lv_iload_n hx hb dX1_begin_38 rfl (lv_at hl 1 rfl) ?_
        refine scSI (As := [.ref (a 4), .int i]) (rest := []) G X (k_at ha Y 4 10 rfl (by first | decide | assumption) i) iy_X5_at ml_X1_52 rfl rfl hl.1 (by decide) (by decide) (Nat.le_of_ble_eq_true rfl) dX1_begin_39 (fun y39 V39 H locs p39 X => ?_)
        obtain ⟨p39, z39⟩ := p39
        subst V39
        refine lv_istore (lv' := [(4, .int y39), (3, .int y24), (2, .int i), (0, .ref (a 38)), (1, .ref (a r))]) hx hb dX1_begin_42 hl (by decide) rfl (fun ls hl => ?_)
        refine lv_aload_n hx hb dX1_begin_44 rfl (lv_at hl 3 rfl) ?_
        refine sgR G X 38 2 rfl rfl fl_X1_19 dX1_begin_45 ?_
        refine lv_iload_n hx hb dX1_begin_48 rfl (lv_at hl 2 rfl) ?_
        refine lv_iload_n hx hb dX1_begin_49 rfl (lv_at hl 1 rfl) ?_
        refine sZeq (tgt := 58) hx hb (rfl : Int32.toInt y24 = _) dX1_begin_50 (by decide) (fun c50 => ?_) (fun c50 => ?_)
        · skip
          refine lv_iconst (v := (-1)) hx hb dX1_begin_58 (by decide) ?_
          refine scSV (As := [.ref (a 40), .int i, .int (-1)]) (rest := []) G X (k_put ha Y 40 10 rfl (by first | decide | assumption) i (-1)) iy_X5_put ml_X1_58 rfl rfl hl.1 (by decide) (by decide) (Nat.le_of_ble_eq_true rfl) dX1_begin_59 (fun V59 H locs p59 X => ?_)
          refine lv_aload_n hx hb dX1_begin_62 rfl (lv_at hl 3 rfl) ?_
          refine sgR G X 38 3 rfl rfl fl_X1_22 dX1_begin_63 ?_
          refine lv_iload_n hx hb dX1_begin_66 rfl (lv_at hl 2 rfl) ?_
          refine lv_iload_n hx hb dX1_begin_67 rfl (lv_at hl 1 rfl) ?_
          refine sZeq (tgt := 88) hx hb (rfl : Int32.toInt y24 = _) dX1_begin_68 (by decide) (fun c68 => ?_) (fun c68 => ?_)
          · skip
            refine lv_iload hx hb dX1_begin_88 (lv_at hl 0 rfl) ?_
            refine scSV (As := [.ref (a 41), .int i, .int y39]) (rest := []) G X (k_put ha V59 41 10 rfl (by first | decide | assumption) i y39) iy_X5_put ml_X1_58 rfl rfl hl.1 (by decide) (by decide) (Nat.le_of_ble_eq_true rfl) dX1_begin_90 (fun V90 H locs p90 X => ?_)
            refine lv_aload_n hx hb dX1_begin_93 rfl (lv_at hl 3 rfl) ?_
            refine sgR G X 38 4 rfl rfl fl_X1_25 dX1_begin_94 ?_
            refine lv_iload_n hx hb dX1_begin_97 rfl (lv_at hl 2 rfl) ?_
            refine lv_aload_n hx hb dX1_begin_98 rfl (lv_at hl 3 rfl) ?_
            refine sgR G X 38 0 rfl rfl fl_X1_9 dX1_begin_99 ?_
            refine sgR G X 2 1 rfl rfl fl_X1_37 dX1_begin_102 ?_
            refine lv_iload_n hx hb dX1_begin_105 rfl (lv_at hl 2 rfl) ?_
            refine lv_aload_n hx hb dX1_begin_106 rfl (lv_at hl 4 rfl) ?_
            refine scI (ci := 2) (As := [.int i, .ref (a r)]) (rest := [.int i, .ref (a 42)]) G X (k_outsidePush ha V90 i r hr0) iy_X2_outsidePush ml_X1_87 rfl rfl rfl rfl hl.1 (by decide) (by decide) (Nat.le_of_ble_eq_true rfl) dX1_begin_107 (fun y107 V107 H locs p107 X => ?_)
            obtain ⟨p107, z107⟩ := p107
            subst V107
            refine scSV (As := [.ref (a 42), .int i, .int y107]) (rest := []) G X (k_put ha V90 42 10 rfl (by first | decide | assumption) i y107) iy_X5_put ml_X1_58 rfl rfl hl.1 (by decide) (by decide) (Nat.le_of_ble_eq_true rfl) dX1_begin_110 (fun V110 H locs p110 X => ?_)
            obtain ⟨x113, e113⟩ : ∃ y : Int32, y = i + (1) := ⟨_, rfl⟩
            refine lv_iinc (v := x113) (lv' := [(2, .int x113), (4, .int y39), (3, .int y24), (0, .ref (a 38)), (1, .ref (a r))]) hx hb dX1_begin_113 hl (k := 2) rfl (by rw [e113]; rfl) (by decide) rfl (fun ls hl => ?_)
            refine lv_goto (tgt := 2) hx hb dX1_begin_116 (by decide) ?_
            exact ih2 x113 V110 _ _ _ (by rw [i32_i e113 (by have := i32_hi (V 3 7); omega)]; omega) (by rw [show V110 = _ from p110, show V90 = _ from p90, show V59 = _ from p59]; exact ((hA.up (by simp)).up (by simp)).up (by simp)) (fun hQ j h1 h2 => by
            have h9 : x113.toInt = i.toInt + 1 := i32_i e113 (by have := i32_hi (V 3 7); omega)
            obtain ⟨hk, hh⟩ := hQ.2.2 i hi c13
            have h10 := hQ.2.1
            have q59 : V59 = _ := p59
            have q90 : V90 = _ := p90
            have q110 : V110 = _ := p110
            subst q59 q90 q110
            rcases p24 with ⟨h3, h4⟩ | ⟨h3, h4⟩
            · rw [hA 6 (by decide), hk] at h4; exact absurd h4 (by decide)
            first | (exfalso; omega) | skip
            all_goals (
              have hy : y107 = 0 := p107 (by rw [sUp_n _ _ (fun z => hrn (by rw [z]; simp)), sUp_n _ _ (fun z => hrn (by rw [z]; simp)), hA r (fun z => hrn ((by decide : ∀ k ∈ [40, 41, 42], k ∈ [40, 41, 42, 43, 44]) r z))]; exact hQ.1) (by rw [sUp_n _ _ (by decide), sUp_n _ _ (by decide), hA 6 (by decide)]; exact hk) (by rw [sUp_n _ _ (by decide), sUp_n _ _ (by decide), hA 8 (by decide)]; exact hh)
              subst hy
              by_cases hji : j.toInt = i.toInt
              · have hji2 : j = i := Int32.toInt_inj.mp hji
                subst hji2
                exact ⟨by rw [sUp_s, rAt_put_s h1 (by show _ < (10 : Int); omega)], by rw [sUp_n _ _ (by decide), sUp_n _ _ (by decide), sUp_s, rAt_put_s h1 (by show _ < (10 : Int); omega)]⟩
              · obtain ⟨h11, h12⟩ := hq hQ j h1 (by omega)
                exact ⟨by rw [sUp_s, rAt_put_n hji, sUp_n _ _ (by decide), sUp_n _ _ (by decide)]; exact h11, by rw [sUp_n _ _ (by decide), sUp_n _ _ (by decide), sUp_s, rAt_put_n hji]; exact h12⟩)) (by rw [i32_i e113 (by have := i32_hi (V 3 7); omega)]; omega) X (lv_sub hl [0, 3, 4] rfl)
          · skip
            refine lv_aload_n hx hb dX1_begin_71 rfl (lv_at hl 3 rfl) ?_
            refine sgR G X 38 0 rfl rfl fl_X1_9 dX1_begin_72 ?_
            refine sgR G X 2 1 rfl rfl fl_X1_37 dX1_begin_75 ?_
            refine sgR G X 3 1 rfl rfl fl_X1_84 dX1_begin_78 ?_
            refine lv_iload_n hx hb dX1_begin_81 rfl (lv_at hl 2 rfl) ?_
            refine scSI (As := [.ref (a 5), .int i]) (rest := [.int i, .ref (a 41)]) G X (k_at ha V59 5 10 rfl (by first | decide | assumption) i) iy_X5_at ml_X1_52 rfl rfl hl.1 (by decide) (by decide) (Nat.le_of_ble_eq_true rfl) dX1_begin_82 (fun y82 V82 H locs p82 X => ?_)
            obtain ⟨p82, z82⟩ := p82
            subst V82
            refine lv_goto (tgt := 90) hx hb dX1_begin_85 (by decide) ?_
            refine scSV (As := [.ref (a 41), .int i, .int y82]) (rest := []) G X (k_put ha V59 41 10 rfl (by first | decide | assumption) i y82) iy_X5_put ml_X1_58 rfl rfl hl.1 (by decide) (by decide) (Nat.le_of_ble_eq_true rfl) dX1_begin_90 (fun V90 H locs p90 X => ?_)
            refine lv_aload_n hx hb dX1_begin_93 rfl (lv_at hl 3 rfl) ?_
            refine sgR G X 38 4 rfl rfl fl_X1_25 dX1_begin_94 ?_
            refine lv_iload_n hx hb dX1_begin_97 rfl (lv_at hl 2 rfl) ?_
            refine lv_aload_n hx hb dX1_begin_98 rfl (lv_at hl 3 rfl) ?_
            refine sgR G X 38 0 rfl rfl fl_X1_9 dX1_begin_99 ?_
            refine sgR G X 2 1 rfl rfl fl_X1_37 dX1_begin_102 ?_
            refine lv_iload_n hx hb dX1_begin_105 rfl (lv_at hl 2 rfl) ?_
            refine lv_aload_n hx hb dX1_begin_106 rfl (lv_at hl 4 rfl) ?_
            refine scI (ci := 2) (As := [.int i, .ref (a r)]) (rest := [.int i, .ref (a 42)]) G X (k_outsidePush ha V90 i r hr0) iy_X2_outsidePush ml_X1_87 rfl rfl rfl rfl hl.1 (by decide) (by decide) (Nat.le_of_ble_eq_true rfl) dX1_begin_107 (fun y107 V107 H locs p107 X => ?_)
            obtain ⟨p107, z107⟩ := p107
            subst V107
            refine scSV (As := [.ref (a 42), .int i, .int y107]) (rest := []) G X (k_put ha V90 42 10 rfl (by first | decide | assumption) i y107) iy_X5_put ml_X1_58 rfl rfl hl.1 (by decide) (by decide) (Nat.le_of_ble_eq_true rfl) dX1_begin_110 (fun V110 H locs p110 X => ?_)
            obtain ⟨x113, e113⟩ : ∃ y : Int32, y = i + (1) := ⟨_, rfl⟩
            refine lv_iinc (v := x113) (lv' := [(2, .int x113), (4, .int y39), (3, .int y24), (0, .ref (a 38)), (1, .ref (a r))]) hx hb dX1_begin_113 hl (k := 2) rfl (by rw [e113]; rfl) (by decide) rfl (fun ls hl => ?_)
            refine lv_goto (tgt := 2) hx hb dX1_begin_116 (by decide) ?_
            exact ih2 x113 V110 _ _ _ (by rw [i32_i e113 (by have := i32_hi (V 3 7); omega)]; omega) (by rw [show V110 = _ from p110, show V90 = _ from p90, show V59 = _ from p59]; exact ((hA.up (by simp)).up (by simp)).up (by simp)) (fun hQ j h1 h2 => by
            have h9 : x113.toInt = i.toInt + 1 := i32_i e113 (by have := i32_hi (V 3 7); omega)
            obtain ⟨hk, hh⟩ := hQ.2.2 i hi c13
            have h10 := hQ.2.1
            have q59 : V59 = _ := p59
            have q90 : V90 = _ := p90
            have q110 : V110 = _ := p110
            subst q59 q90 q110
            rcases p24 with ⟨h3, h4⟩ | ⟨h3, h4⟩
            · rw [hA 6 (by decide), hk] at h4; exact absurd h4 (by decide)
            first | (exfalso; omega) | skip
            all_goals (
              have hy : y107 = 0 := p107 (by rw [sUp_n _ _ (fun z => hrn (by rw [z]; simp)), sUp_n _ _ (fun z => hrn (by rw [z]; simp)), hA r (fun z => hrn ((by decide : ∀ k ∈ [40, 41, 42], k ∈ [40, 41, 42, 43, 44]) r z))]; exact hQ.1) (by rw [sUp_n _ _ (by decide), sUp_n _ _ (by decide), hA 6 (by decide)]; exact hk) (by rw [sUp_n _ _ (by decide), sUp_n _ _ (by decide), hA 8 (by decide)]; exact hh)
              subst hy
              by_cases hji : j.toInt = i.toInt
              · have hji2 : j = i := Int32.toInt_inj.mp hji
                subst hji2
                exact ⟨by rw [sUp_s, rAt_put_s h1 (by show _ < (10 : Int); omega)], by rw [sUp_n _ _ (by decide), sUp_n _ _ (by decide), sUp_s, rAt_put_s h1 (by show _ < (10 : Int); omega)]⟩
              · obtain ⟨h11, h12⟩ := hq hQ j h1 (by omega)
                exact ⟨by rw [sUp_s, rAt_put_n hji, sUp_n _ _ (by decide), sUp_n _ _ (by decide)]; exact h11, by rw [sUp_n _ _ (by decide), sUp_n _ _ (by decide), sUp_s, rAt_put_n hji]; exact h12⟩)) (by rw [i32_i e113 (by have := i32_hi (V 3 7); omega)]; omega) X (lv_sub hl [0, 3, 4] rfl)
        · skip
          refine lv_iload hx hb dX1_begin_53 (lv_at hl 0 rfl) ?_
          refine lv_goto (tgt := 59) hx hb dX1_begin_55 (by decide) ?_
          refine scSV (As := [.ref (a 40), .int i, .int y39]) (rest := []) G X (k_put ha Y 40 10 rfl (by first | decide | assumption) i y39) iy_X5_put ml_X1_58 rfl rfl hl.1 (by decide) (by decide) (Nat.le_of_ble_eq_true rfl) dX1_begin_59 (fun V59 H locs p59 X => ?_)
          refine lv_aload_n hx hb dX1_begin_62 rfl (lv_at hl 3 rfl) ?_
          refine sgR G X 38 3 rfl rfl fl_X1_22 dX1_begin_63 ?_
          refine lv_iload_n hx hb dX1_begin_66 rfl (lv_at hl 2 rfl) ?_
          refine lv_iload_n hx hb dX1_begin_67 rfl (lv_at hl 1 rfl) ?_
          refine sZeq (tgt := 88) hx hb (rfl : Int32.toInt y24 = _) dX1_begin_68 (by decide) (fun c68 => ?_) (fun c68 => ?_)
          · skip
            refine lv_iload hx hb dX1_begin_88 (lv_at hl 0 rfl) ?_
            refine scSV (As := [.ref (a 41), .int i, .int y39]) (rest := []) G X (k_put ha V59 41 10 rfl (by first | decide | assumption) i y39) iy_X5_put ml_X1_58 rfl rfl hl.1 (by decide) (by decide) (Nat.le_of_ble_eq_true rfl) dX1_begin_90 (fun V90 H locs p90 X => ?_)
            refine lv_aload_n hx hb dX1_begin_93 rfl (lv_at hl 3 rfl) ?_
            refine sgR G X 38 4 rfl rfl fl_X1_25 dX1_begin_94 ?_
            refine lv_iload_n hx hb dX1_begin_97 rfl (lv_at hl 2 rfl) ?_
            refine lv_aload_n hx hb dX1_begin_98 rfl (lv_at hl 3 rfl) ?_
            refine sgR G X 38 0 rfl rfl fl_X1_9 dX1_begin_99 ?_
            refine sgR G X 2 1 rfl rfl fl_X1_37 dX1_begin_102 ?_
            refine lv_iload_n hx hb dX1_begin_105 rfl (lv_at hl 2 rfl) ?_
            refine lv_aload_n hx hb dX1_begin_106 rfl (lv_at hl 4 rfl) ?_
            refine scI (ci := 2) (As := [.int i, .ref (a r)]) (rest := [.int i, .ref (a 42)]) G X (k_outsidePush ha V90 i r hr0) iy_X2_outsidePush ml_X1_87 rfl rfl rfl rfl hl.1 (by decide) (by decide) (Nat.le_of_ble_eq_true rfl) dX1_begin_107 (fun y107 V107 H locs p107 X => ?_)
            obtain ⟨p107, z107⟩ := p107
            subst V107
            refine scSV (As := [.ref (a 42), .int i, .int y107]) (rest := []) G X (k_put ha V90 42 10 rfl (by first | decide | assumption) i y107) iy_X5_put ml_X1_58 rfl rfl hl.1 (by decide) (by decide) (Nat.le_of_ble_eq_true rfl) dX1_begin_110 (fun V110 H locs p110 X => ?_)
            obtain ⟨x113, e113⟩ : ∃ y : Int32, y = i + (1) := ⟨_, rfl⟩
            refine lv_iinc (v := x113) (lv' := [(2, .int x113), (4, .int y39), (3, .int y24), (0, .ref (a 38)), (1, .ref (a r))]) hx hb dX1_begin_113 hl (k := 2) rfl (by rw [e113]; rfl) (by decide) rfl (fun ls hl => ?_)
            refine lv_goto (tgt := 2) hx hb dX1_begin_116 (by decide) ?_
            exact ih2 x113 V110 _ _ _ (by rw [i32_i e113 (by have := i32_hi (V 3 7); omega)]; omega) (by rw [show V110 = _ from p110, show V90 = _ from p90, show V59 = _ from p59]; exact ((hA.up (by simp)).up (by simp)).up (by simp)) (fun hQ j h1 h2 => by
            have h9 : x113.toInt = i.toInt + 1 := i32_i e113 (by have := i32_hi (V 3 7); omega)
            obtain ⟨hk, hh⟩ := hQ.2.2 i hi c13
            have h10 := hQ.2.1
            have q59 : V59 = _ := p59
            have q90 : V90 = _ := p90
            have q110 : V110 = _ := p110
            subst q59 q90 q110
            rcases p24 with ⟨h3, h4⟩ | ⟨h3, h4⟩
            · rw [hA 6 (by decide), hk] at h4; exact absurd h4 (by decide)
            first | (exfalso; omega) | skip
            all_goals (
              have hy : y107 = 0 := p107 (by rw [sUp_n _ _ (fun z => hrn (by rw [z]; simp)), sUp_n _ _ (fun z => hrn (by rw [z]; simp)), hA r (fun z => hrn ((by decide : ∀ k ∈ [40, 41, 42], k ∈ [40, 41, 42, 43, 44]) r z))]; exact hQ.1) (by rw [sUp_n _ _ (by decide), sUp_n _ _ (by decide), hA 6 (by decide)]; exact hk) (by rw [sUp_n _ _ (by decide), sUp_n _ _ (by decide), hA 8 (by decide)]; exact hh)
              subst hy
              by_cases hji : j.toInt = i.toInt
              · have hji2 : j = i := Int32.toInt_inj.mp hji
                subst hji2
                exact ⟨by rw [sUp_s, rAt_put_s h1 (by show _ < (10 : Int); omega)], by rw [sUp_n _ _ (by decide), sUp_n _ _ (by decide), sUp_s, rAt_put_s h1 (by show _ < (10 : Int); omega)]⟩
              · obtain ⟨h11, h12⟩ := hq hQ j h1 (by omega)
                exact ⟨by rw [sUp_s, rAt_put_n hji, sUp_n _ _ (by decide), sUp_n _ _ (by decide)]; exact h11, by rw [sUp_n _ _ (by decide), sUp_n _ _ (by decide), sUp_s, rAt_put_n hji]; exact h12⟩)) (by rw [i32_i e113 (by have := i32_hi (V 3 7); omega)]; omega) X (lv_sub hl [0, 3, 4] rfl)
          · skip
            refine lv_aload_n hx hb dX1_begin_71 rfl (lv_at hl 3 rfl) ?_
            refine sgR G X 38 0 rfl rfl fl_X1_9 dX1_begin_72 ?_
            refine sgR G X 2 1 rfl rfl fl_X1_37 dX1_begin_75 ?_
            refine sgR G X 3 1 rfl rfl fl_X1_84 dX1_begin_78 ?_
            refine lv_iload_n hx hb dX1_begin_81 rfl (lv_at hl 2 rfl) ?_
            refine scSI (As := [.ref (a 5), .int i]) (rest := [.int i, .ref (a 41)]) G X (k_at ha V59 5 10 rfl (by first | decide | assumption) i) iy_X5_at ml_X1_52 rfl rfl hl.1 (by decide) (by decide) (Nat.le_of_ble_eq_true rfl) dX1_begin_82 (fun y82 V82 H locs p82 X => ?_)
            obtain ⟨p82, z82⟩ := p82
            subst V82
            refine lv_goto (tgt := 90) hx hb dX1_begin_85 (by decide) ?_
            refine scSV (As := [.ref (a 41), .int i, .int y82]) (rest := []) G X (k_put ha V59 41 10 rfl (by first | decide | assumption) i y82) iy_X5_put ml_X1_58 rfl rfl hl.1 (by decide) (by decide) (Nat.le_of_ble_eq_true rfl) dX1_begin_90 (fun V90 H locs p90 X => ?_)
            refine lv_aload_n hx hb dX1_begin_93 rfl (lv_at hl 3 rfl) ?_
            refine sgR G X 38 4 rfl rfl fl_X1_25 dX1_begin_94 ?_
            refine lv_iload_n hx hb dX1_begin_97 rfl (lv_at hl 2 rfl) ?_
            refine lv_aload_n hx hb dX1_begin_98 rfl (lv_at hl 3 rfl) ?_
            refine sgR G X 38 0 rfl rfl fl_X1_9 dX1_begin_99 ?_
            refine sgR G X 2 1 rfl rfl fl_X1_37 dX1_begin_102 ?_
            refine lv_iload_n hx hb dX1_begin_105 rfl (lv_at hl 2 rfl) ?_
            refine lv_aload_n hx hb dX1_begin_106 rfl (lv_at hl 4 rfl) ?_
            refine scI (ci := 2) (As := [.int i, .ref (a r)]) (rest := [.int i, .ref (a 42)]) G X (k_outsidePush ha V90 i r hr0) iy_X2_outsidePush ml_X1_87 rfl rfl rfl rfl hl.1 (by decide) (by decide) (Nat.le_of_ble_eq_true rfl) dX1_begin_107 (fun y107 V107 H locs p107 X => ?_)
            obtain ⟨p107, z107⟩ := p107
            subst V107
            refine scSV (As := [.ref (a 42), .int i, .int y107]) (rest := []) G X (k_put ha V90 42 10 rfl (by first | decide | assumption) i y107) iy_X5_put ml_X1_58 rfl rfl hl.1 (by decide) (by decide) (Nat.le_of_ble_eq_true rfl) dX1_begin_110 (fun V110 H locs p110 X => ?_)
            obtain ⟨x113, e113⟩ : ∃ y : Int32, y = i + (1) := ⟨_, rfl⟩
            refine lv_iinc (v := x113) (lv' := [(2, .int x113), (4, .int y39), (3, .int y24), (0, .ref (a 38)), (1, .ref (a r))]) hx hb dX1_begin_113 hl (k := 2) rfl (by rw [e113]; rfl) (by decide) rfl (fun ls hl => ?_)
            refine lv_goto (tgt := 2) hx hb dX1_begin_116 (by decide) ?_
            exact ih2 x113 V110 _ _ _ (by rw [i32_i e113 (by have := i32_hi (V 3 7); omega)]; omega) (by rw [show V110 = _ from p110, show V90 = _ from p90, show V59 = _ from p59]; exact ((hA.up (by simp)).up (by simp)).up (by simp)) (fun hQ j h1 h2 => by
            have h9 : x113.toInt = i.toInt + 1 := i32_i e113 (by have := i32_hi (V 3 7); omega)
            obtain ⟨hk, hh⟩ := hQ.2.2 i hi c13
            have h10 := hQ.2.1
            have q59 : V59 = _ := p59
            have q90 : V90 = _ := p90
            have q110 : V110 = _ := p110
            subst q59 q90 q110
            rcases p24 with ⟨h3, h4⟩ | ⟨h3, h4⟩
            · rw [hA 6 (by decide), hk] at h4; exact absurd h4 (by decide)
            first | (exfalso; omega) | skip
            all_goals (
              have hy : y107 = 0 := p107 (by rw [sUp_n _ _ (fun z => hrn (by rw [z]; simp)), sUp_n _ _ (fun z => hrn (by rw [z]; simp)), hA r (fun z => hrn ((by decide : ∀ k ∈ [40, 41, 42], k ∈ [40, 41, 42, 43, 44]) r z))]; exact hQ.1) (by rw [sUp_n _ _ (by decide), sUp_n _ _ (by decide), hA 6 (by decide)]; exact hk) (by rw [sUp_n _ _ (by decide), sUp_n _ _ (by decide), hA 8 (by decide)]; exact hh)
              subst hy
              by_cases hji : j.toInt = i.toInt
              · have hji2 : j = i := Int32.toInt_inj.mp hji
                subst hji2
                exact ⟨by rw [sUp_s, rAt_put_s h1 (by show _ < (10 : Int); omega)], by rw [sUp_n _ _ (by decide), sUp_n _ _ (by decide), sUp_s, rAt_put_s h1 (by show _ < (10 : Int); omega)]⟩
              · obtain ⟨h11, h12⟩ := hq hQ j h1 (by omega)
                exact ⟨by rw [sUp_s, rAt_put_n hji, sUp_n _ _ (by decide), sUp_n _ _ (by decide)]; exact h11, by rw [sUp_n _ _ (by decide), sUp_n _ _ (by decide), sUp_s, rAt_put_n hji]; exact h12⟩)) (by rw [i32_i e113 (by have := i32_hi (V 3 7); omega)]; omega) X (lv_sub hl [0, 3, 4] rfl)
  exact L2 _ 0 V _ _ _ (by decide) (sAg.rf) (fun _ j h1 h2 => absurd h2 (by show ¬ j.toInt < 0; omega)) (Nat.lt_succ_self _) X (lv_sub hl [0, 1, 2] rfl)
def q_doRound (V : sV) : sV → Prop := fun V1 => sAg [43] V V1 ∧ (sCalm V → sCalm V1)
set_option maxRecDepth 100000 in
set_option maxHeartbeats 4000000 in
theorem k_doRound {l : Launch} {D : va_G} {cI : ClassId} {a : Nat → Nat} (ha : sInj SX a) (V : sV)  : sMV l D cI SX a V yX1_doRound cX1_doRound 4 2 [.ref (a 38)] (q_doRound V) := by
  refine sMVof ha (by decide +kernel) (Nat.le_of_ble_eq_true rfl) ?_
  intro p e s m below meth c ls G X hl
  obtain ⟨hx, hb, hml, hown, hts, hlocks, hr, hK⟩ := id G
  have hl : lv_has ls 4 [(0, .ref (a 38))] := hl
  refine lv_iconst (v := 0) hx hb dX1_doRound_0 (by decide) ?_
  refine lv_istore_n (lv' := [(1, .int 0), (0, .ref (a 38))]) hx hb dX1_doRound_1 rfl hl (by decide) rfl (fun ls hl => ?_)
  have L2 : ∀ (fu2 : Nat) (i : Int32) (Y : sV) (H : Heap) (locs : List Loc) (ls : Array Slot), (0 ≤ i.toInt) → (sAg [43] V Y) → (sCalm V → sCalm Y) → (((V 2 0).toInt - i.toInt).toNat) < fu2 → sWS D cI SX a Y s.heap H locs → lv_has ls 4 [(1, .int i), (0, .ref (a 38))] → W p l e (rmD 2) s m ([.ref (a 38)] : List Value).toArray below meth c H locs 0 0 (MQ below (va_Qv (q_doRound V) (fun V1 t => va_P D vwCl (sWd cI SX a V1) t.heap) (sA SX a s.heap.size)) ([.ref (a 38)] : List Value).toArray s 0 0 (sA SX a s.heap.size)) (F0 m 2 ls []) := by
    intro fu2
    induction fu2 with
    | zero => intro i Y H locs ls hi hA hc hm2; exact absurd hm2 (Nat.not_lt_zero _)
    | succ fu2 ih2 =>
      intro i Y H locs ls hi hA hc hm2 X hl
      refine lv_iload_n hx hb dX1_doRound_2 rfl (lv_at hl 0 rfl) ?_
      refine lv_aload_n hx hb dX1_doRound_3 rfl (lv_at hl 1 rfl) ?_
      refine sgR G X 38 0 rfl rfl fl_X1_9 dX1_doRound_4 ?_
      refine sgI G X 2 0 rfl rfl fl_X1_91 dX1_doRound_7 ?_
      refine sIge (tgt := 108) hx hb (rfl : Int32.toInt i = _) (rfl : Int32.toInt (Y 2 0) = _) dX1_doRound_10 (by decide) (fun c10 => ?_) (fun c10 => ?_)
      · skip
        rw [hA 2 (by decide)] at c10
        exact srV G X dX1_doRound_108 (by exact ⟨hA, hc⟩)
      · skip
        rw [hA 2 (by decide)] at c10
        refine lv_iconst (v := 0) hx hb dX1_doRound_13 (by decide) ?_
        refine lv_istore_n (lv' := [(2, .int 0), (1, .int i), (0, .ref (a 38))]) hx hb dX1_doRound_14 rfl hl (by decide) rfl (fun ls hl => ?_)
        refine lv_iconst (v := 0) hx hb dX1_doRound_15 (by decide) ?_
        refine lv_istore_n (lv' := [(3, .int 0), (2, .int 0), (1, .int i), (0, .ref (a 38))]) hx hb dX1_doRound_16 rfl hl (by decide) rfl (fun ls hl => ?_)
        have L17 : ∀ (fu17 : Nat) (j : Int32) (z : Int32) (H : Heap) (locs : List Loc) (ls : Array Slot), (0 ≤ j.toInt) → (sCalm V → z = 0) → (((V 3 7).toInt - j.toInt).toNat) < fu17 → sWS D cI SX a Y s.heap H locs → lv_has ls 4 [(3, .int j), (2, .int z), (1, .int i), (0, .ref (a 38))] → W p l e (rmD 2) s m ([.ref (a 38)] : List Value).toArray below meth c H locs 0 0 (MQ below (va_Qv (q_doRound V) (fun V1 t => va_P D vwCl (sWd cI SX a V1) t.heap) (sA SX a s.heap.size)) ([.ref (a 38)] : List Value).toArray s 0 0 (sA SX a s.heap.size)) (F0 m 17 ls []) := by
          intro fu17
          induction fu17 with
          | zero => intro j z H locs ls hj hz hm17; exact absurd hm17 (Nat.not_lt_zero _)
          | succ fu17 ih17 =>
            intro j z H locs ls hj hz hm17 X hl
            refine lv_iload_n hx hb dX1_doRound_17 rfl (lv_at hl 0 rfl) ?_
            refine lv_aload_n hx hb dX1_doRound_18 rfl (lv_at hl 3 rfl) ?_
            refine sgR G X 38 0 rfl rfl fl_X1_9 dX1_doRound_19 ?_
            refine sgR G X 2 1 rfl rfl fl_X1_37 dX1_doRound_22 ?_
            refine sgI G X 3 7 rfl rfl fl_X1_43 dX1_doRound_25 ?_
            refine sIge (tgt := 80) hx hb (rfl : Int32.toInt j = _) (rfl : Int32.toInt (Y 3 7) = _) dX1_doRound_28 (by decide) (fun c28 => ?_) (fun c28 => ?_)
            · skip
              rw [hA 3 (by decide)] at c28
              refine lv_aload_n hx hb dX1_doRound_80 rfl (lv_at hl 3 rfl) ?_
              refine sgR G X 38 5 rfl rfl fl_X1_28 dX1_doRound_81 ?_
              refine lv_iload_n hx hb dX1_doRound_84 rfl (lv_at hl 2 rfl) ?_
              refine lv_aload_n hx hb dX1_doRound_85 rfl (lv_at hl 3 rfl) ?_
              refine sgR G X 38 5 rfl rfl fl_X1_28 dX1_doRound_86 ?_
              refine lv_iload_n hx hb dX1_doRound_89 rfl (lv_at hl 2 rfl) ?_
              refine scSI (As := [.ref (a 43), .int i]) (rest := [.int i, .ref (a 43)]) G X (k_at ha Y 43 6 rfl (by first | decide | assumption) i) iy_X5_at ml_X1_52 rfl rfl hl.1 (by decide) (by decide) (Nat.le_of_ble_eq_true rfl) dX1_doRound_90 (fun y90 V90 H locs p90 X => ?_)
              obtain ⟨p90, z90⟩ := p90
              subst V90
              refine lv_iload_n hx hb dX1_doRound_93 rfl (lv_at hl 1 rfl) ?_
              refine lv_iconst (v := 0) hx hb dX1_doRound_94 (by decide) ?_
              refine scSI (As := [.int z, .int 0]) (rest := [.int y90, .int i, .ref (a 43)]) G X (k_compare ha Y z 0) iy_J6_compare_7cf53 ml_X1_98 rfl rfl hl.1 (by decide) (by decide) (Nat.le_of_ble_eq_true rfl) dX1_doRound_95 (fun y95 V95 H locs p95 X => ?_)
              obtain ⟨p95, z95⟩ := p95
              subst V95
              refine lv_iadd hx hb dX1_doRound_98 ?_
              refine lv_topi (fun x98 e98 => ?_)
              refine scSV (As := [.ref (a 43), .int i, .int x98]) (rest := []) G X (k_put ha Y 43 6 rfl (by first | decide | assumption) i x98) iy_X5_put ml_X1_58 rfl rfl hl.1 (by decide) (by decide) (Nat.le_of_ble_eq_true rfl) dX1_doRound_99 (fun V99 H locs p99 X => ?_)
              obtain ⟨x102, e102⟩ : ∃ y : Int32, y = i + (1) := ⟨_, rfl⟩
              refine lv_iinc (v := x102) (lv' := [(1, .int x102), (3, .int j), (2, .int z), (0, .ref (a 38))]) hx hb dX1_doRound_102 hl (k := 2) rfl (by rw [e102]; rfl) (by decide) rfl (fun ls hl => ?_)
              refine lv_goto (tgt := 2) hx hb dX1_doRound_105 (by decide) ?_
              exact ih2 x102 V99 _ _ _ (by rw [i32_i e102 (by have := i32_hi (V 2 0); omega)]; omega) (by rw [show V99 = _ from p99]; exact hA.up (by simp)) (fun h => by
            have h1 := hc h
            have q99 : V99 = _ := p99
            subst q99
            have h2 : x98 = 0 := by rw [e98, p90, h1.1 i, p95 (by rw [hz h])]; rfl
            refine ⟨fun j => ?_, by rw [sUp_n _ _ (by decide)]; exact h1.2.1, fun k h3 h4 => by rw [sUp_n _ _ (by decide)] at h4; rw [sUp_n _ _ (by decide), sUp_n _ _ (by decide)]; exact h1.2.2 k h3 h4⟩
            rw [sUp_s, h2]
            by_cases hji : j.toInt = i.toInt
            · have hji2 : j = i := Int32.toInt_inj.mp hji
              subst hji2
              by_cases hj6 : j.toInt < (6 : Nat)
              · exact rAt_put_s hi hj6
              · exact rAt_out (by omega)
            · rw [rAt_put_n hji]; exact h1.1 j) (by rw [i32_i e102 (by have := i32_hi (V 2 0); omega)]; omega) X (lv_sub hl [0, 3] rfl)
            · skip
              rw [hA 3 (by decide)] at c28
              refine lv_aload_n hx hb dX1_doRound_31 rfl (lv_at hl 3 rfl) ?_
              refine sgR G X 38 3 rfl rfl fl_X1_22 dX1_doRound_32 ?_
              refine lv_iload_n hx hb dX1_doRound_35 rfl (lv_at hl 0 rfl) ?_
              refine scSI (As := [.ref (a 41), .int j]) (rest := []) G X (k_at ha Y 41 10 rfl (by first | decide | assumption) j) iy_X5_at ml_X1_52 rfl rfl hl.1 (by decide) (by decide) (Nat.le_of_ble_eq_true rfl) dX1_doRound_36 (fun y36 V36 H locs p36 X => ?_)
              obtain ⟨p36, z36⟩ := p36
              subst V36
              refine lv_iload_n hx hb dX1_doRound_39 rfl (lv_at hl 2 rfl) ?_
              refine sIne (tgt := 54) hx hb (rfl : Int32.toInt y36 = _) (rfl : Int32.toInt i = _) dX1_doRound_40 (by decide) (fun c40 => ?_) (fun c40 => ?_)
              · skip
                refine lv_aload_n hx hb dX1_doRound_54 rfl (lv_at hl 3 rfl) ?_
                refine sgR G X 38 2 rfl rfl fl_X1_19 dX1_doRound_55 ?_
                refine lv_iload_n hx hb dX1_doRound_58 rfl (lv_at hl 0 rfl) ?_
                refine scSI (As := [.ref (a 40), .int j]) (rest := []) G X (k_at ha Y 40 10 rfl (by first | decide | assumption) j) iy_X5_at ml_X1_52 rfl rfl hl.1 (by decide) (by decide) (Nat.le_of_ble_eq_true rfl) dX1_doRound_59 (fun y59 V59 H locs p59 X => ?_)
                obtain ⟨p59, z59⟩ := p59
                subst V59
                refine lv_iload_n hx hb dX1_doRound_62 rfl (lv_at hl 2 rfl) ?_
                refine sIne (tgt := 74) hx hb (rfl : Int32.toInt y59 = _) (rfl : Int32.toInt i = _) dX1_doRound_63 (by decide) (fun c63 => ?_) (fun c63 => ?_)
                · skip
                  obtain ⟨x74, e74⟩ : ∃ y : Int32, y = j + (1) := ⟨_, rfl⟩
                  refine lv_iinc (v := x74) (lv' := [(3, .int x74), (2, .int z), (1, .int i), (0, .ref (a 38))]) hx hb dX1_doRound_74 hl (k := 0) rfl (by rw [e74]; rfl) (by decide) rfl (fun ls hl => ?_)
                  refine lv_goto (tgt := 17) hx hb dX1_doRound_77 (by decide) ?_
                  exact ih17 x74 z _ _ _ (by rw [i32_i e74 (by have := i32_hi (V 3 7); omega)]; omega) (fun h => by first | exact hz h | (rw [e49, hz h, p46 (hc h) hj (by rw [hA 3 (by decide)]; exact c28)]; rfl) | (rw [e72, hz h, p69 (hc h) hj (by rw [hA 3 (by decide)]; exact c28)]; rfl)) (by rw [i32_i e74 (by have := i32_hi (V 3 7); omega)]; omega) X (lv_sub hl [0, 1, 2, 3] rfl)
                · skip
                  refine lv_iload_n hx hb dX1_doRound_66 rfl (lv_at hl 1 rfl) ?_
                  refine lv_aload_n hx hb dX1_doRound_67 rfl (lv_at hl 3 rfl) ?_
                  refine lv_iload_n hx hb dX1_doRound_68 rfl (lv_at hl 0 rfl) ?_
                  refine scI (ci := 1) (As := [.int j]) (rest := [.int z]) G X (k_flow ha Y j) iy_X1_flowThrough ml_X1_94 rfl rfl rfl rfl hl.1 (by decide) (by decide) (Nat.le_of_ble_eq_true rfl) dX1_doRound_69 (fun y69 V69 H locs p69 X => ?_)
                  obtain ⟨p69, z69⟩ := p69
                  subst V69
                  refine lv_isub hx hb dX1_doRound_72 ?_
                  refine lv_topi (fun x72 e72 => ?_)
                  refine lv_istore_n (lv' := [(2, .int x72), (3, .int j), (1, .int i), (0, .ref (a 38))]) hx hb dX1_doRound_73 rfl hl (by decide) rfl (fun ls hl => ?_)
                  obtain ⟨x74, e74⟩ : ∃ y : Int32, y = j + (1) := ⟨_, rfl⟩
                  refine lv_iinc (v := x74) (lv' := [(3, .int x74), (2, .int x72), (1, .int i), (0, .ref (a 38))]) hx hb dX1_doRound_74 hl (k := 1) rfl (by rw [e74]; rfl) (by decide) rfl (fun ls hl => ?_)
                  refine lv_goto (tgt := 17) hx hb dX1_doRound_77 (by decide) ?_
                  exact ih17 x74 x72 _ _ _ (by rw [i32_i e74 (by have := i32_hi (V 3 7); omega)]; omega) (fun h => by first | exact hz h | (rw [e49, hz h, p46 (hc h) hj (by rw [hA 3 (by decide)]; exact c28)]; rfl) | (rw [e72, hz h, p69 (hc h) hj (by rw [hA 3 (by decide)]; exact c28)]; rfl)) (by rw [i32_i e74 (by have := i32_hi (V 3 7); omega)]; omega) X (lv_sub hl [0, 1, 2, 3] rfl)
              · skip
                refine lv_iload_n hx hb dX1_doRound_43 rfl (lv_at hl 1 rfl) ?_
                refine lv_aload_n hx hb dX1_doRound_44 rfl (lv_at hl 3 rfl) ?_
                refine lv_iload_n hx hb dX1_doRound_45 rfl (lv_at hl 0 rfl) ?_
                refine scI (ci := 1) (As := [.int j]) (rest := [.int z]) G X (k_flow ha Y j) iy_X1_flowThrough ml_X1_94 rfl rfl rfl rfl hl.1 (by decide) (by decide) (Nat.le_of_ble_eq_true rfl) dX1_doRound_46 (fun y46 V46 H locs p46 X => ?_)
                obtain ⟨p46, z46⟩ := p46
                subst V46
                refine lv_iadd hx hb dX1_doRound_49 ?_
                refine lv_topi (fun x49 e49 => ?_)
                refine lv_istore_n (lv' := [(2, .int x49), (3, .int j), (1, .int i), (0, .ref (a 38))]) hx hb dX1_doRound_50 rfl hl (by decide) rfl (fun ls hl => ?_)
                refine lv_goto (tgt := 74) hx hb dX1_doRound_51 (by decide) ?_
                obtain ⟨x74, e74⟩ : ∃ y : Int32, y = j + (1) := ⟨_, rfl⟩
                refine lv_iinc (v := x74) (lv' := [(3, .int x74), (2, .int x49), (1, .int i), (0, .ref (a 38))]) hx hb dX1_doRound_74 hl (k := 1) rfl (by rw [e74]; rfl) (by decide) rfl (fun ls hl => ?_)
                refine lv_goto (tgt := 17) hx hb dX1_doRound_77 (by decide) ?_
                exact ih17 x74 x49 _ _ _ (by rw [i32_i e74 (by have := i32_hi (V 3 7); omega)]; omega) (fun h => by first | exact hz h | (rw [e49, hz h, p46 (hc h) hj (by rw [hA 3 (by decide)]; exact c28)]; rfl) | (rw [e72, hz h, p69 (hc h) hj (by rw [hA 3 (by decide)]; exact c28)]; rfl)) (by rw [i32_i e74 (by have := i32_hi (V 3 7); omega)]; omega) X (lv_sub hl [0, 1, 2, 3] rfl)
        exact L17 _ 0 0 _ _ _ (by decide) (fun _ => rfl) (Nat.lt_succ_self _) X (lv_sub hl [0, 1, 2, 3] rfl)
  exact L2 _ 0 V _ _ _ (by decide) (sAg.rf) (fun h => h) (Nat.lt_succ_self _) X (lv_sub hl [0, 1] rfl)
def q_isAsEarlier (V : sV) : Int32 → sV → Prop := fun x V1 => (x.toInt = 0 ∨ x.toInt = 1) ∧ V1 = V
set_option maxRecDepth 100000 in
set_option maxHeartbeats 4000000 in
theorem k_isAsEarlier {l : Launch} {D : va_G} {cI : ClassId} {a : Nat → Nat} (ha : sInj SX a) (V : sV)  : sMI l D cI SX a V yX1_isAsEarlier cX1_isAsEarlier 2 .boolean 1 [.ref (a 38)] (q_isAsEarlier V) := by
  refine sMIof ha (by decide +kernel) (Nat.le_of_ble_eq_true rfl) ?_
  intro p e s m below meth c ls G X hl
  obtain ⟨hx, hb, hml, hown, hts, hlocks, hr, hK⟩ := id G
  have hl : lv_has ls 2 [(0, .ref (a 38))] := hl
  refine lv_iconst (v := 0) hx hb dX1_isAsEarlier_0 (by decide) ?_
  refine lv_istore_n (lv' := [(1, .int 0), (0, .ref (a 38))]) hx hb dX1_isAsEarlier_1 rfl hl (by decide) rfl (fun ls hl => ?_)
  have L2 : ∀ (fu2 : Nat) (i : Int32) (H : Heap) (locs : List Loc) (ls : Array Slot), (0 ≤ i.toInt) → (((V 2 0).toInt - i.toInt).toNat) < fu2 → sWS D cI SX a V s.heap H locs → lv_has ls 2 [(1, .int i), (0, .ref (a 38))] → W p l e (rmD 1) s m ([.ref (a 38)] : List Value).toArray below meth c H locs 0 0 (MQ below (va_Qi (q_isAsEarlier V) (fun V1 t => va_P D vwCl (sWd cI SX a V1) t.heap) (sA SX a s.heap.size)) ([.ref (a 38)] : List Value).toArray s 0 0 (sA SX a s.heap.size)) (F0 m 2 ls []) := by
    intro fu2
    induction fu2 with
    | zero => intro i H locs ls hi hm2; exact absurd hm2 (Nat.not_lt_zero _)
    | succ fu2 ih2 =>
      intro i H locs ls hi hm2 X hl
      refine lv_iload_n hx hb dX1_isAsEarlier_2 rfl (lv_at hl 0 rfl) ?_
      refine lv_aload_n hx hb dX1_isAsEarlier_3 rfl (lv_at hl 1 rfl) ?_
      refine sgR G X 38 0 rfl rfl fl_X1_9 dX1_isAsEarlier_4 ?_
      refine sgI G X 2 0 rfl rfl fl_X1_91 dX1_isAsEarlier_7 ?_
      refine sIge (tgt := 40) hx hb (rfl : Int32.toInt i = _) (rfl : Int32.toInt (V 2 0) = _) dX1_isAsEarlier_10 (by decide) (fun c10 => ?_) (fun c10 => ?_)
      · skip
        refine lv_iconst (v := 1) hx hb dX1_isAsEarlier_40 (by decide) ?_
        exact srI G X (rfl) dX1_isAsEarlier_41 (by exact ⟨Or.inr rfl, rfl⟩)
      · skip
        refine lv_aload_n hx hb dX1_isAsEarlier_13 rfl (lv_at hl 1 rfl) ?_
        refine sgR G X 38 5 rfl rfl fl_X1_28 dX1_isAsEarlier_14 ?_
        refine lv_iload_n hx hb dX1_isAsEarlier_17 rfl (lv_at hl 0 rfl) ?_
        refine scSI (As := [.ref (a 43), .int i]) (rest := []) G X (k_at ha V 43 6 rfl (by first | decide | assumption) i) iy_X5_at ml_X1_52 rfl rfl hl.1 (by decide) (by decide) (Nat.le_of_ble_eq_true rfl) dX1_isAsEarlier_18 (fun y18 V18 H locs p18 X => ?_)
        obtain ⟨p18, z18⟩ := p18
        subst V18
        refine lv_aload_n hx hb dX1_isAsEarlier_21 rfl (lv_at hl 1 rfl) ?_
        refine sgR G X 38 6 rfl rfl fl_X1_31 dX1_isAsEarlier_22 ?_
        refine lv_iload_n hx hb dX1_isAsEarlier_25 rfl (lv_at hl 0 rfl) ?_
        refine scSI (As := [.ref (a 44), .int i]) (rest := [.int y18]) G X (k_at ha V 44 6 rfl (by first | decide | assumption) i) iy_X5_at ml_X1_52 rfl rfl hl.1 (by decide) (by decide) (Nat.le_of_ble_eq_true rfl) dX1_isAsEarlier_26 (fun y26 V26 H locs p26 X => ?_)
        obtain ⟨p26, z26⟩ := p26
        subst V26
        refine sIeq (tgt := 34) hx hb (rfl : Int32.toInt y18 = _) (rfl : Int32.toInt y26 = _) dX1_isAsEarlier_29 (by decide) (fun c29 => ?_) (fun c29 => ?_)
        · skip
          obtain ⟨x34, e34⟩ : ∃ y : Int32, y = i + (1) := ⟨_, rfl⟩
          refine lv_iinc (v := x34) (lv' := [(1, .int x34), (0, .ref (a 38))]) hx hb dX1_isAsEarlier_34 hl (k := 0) rfl (by rw [e34]; rfl) (by decide) rfl (fun ls hl => ?_)
          refine lv_goto (tgt := 2) hx hb dX1_isAsEarlier_37 (by decide) ?_
          exact ih2 x34 _ _ _ (by rw [i32_i e34 (by have := i32_hi (V 2 0); omega)]; omega) (by rw [i32_i e34 (by have := i32_hi (V 2 0); omega)]; omega) X (lv_sub hl [0, 1] rfl)
        · skip
          refine lv_iconst (v := 0) hx hb dX1_isAsEarlier_32 (by decide) ?_
          exact srI G X (rfl) dX1_isAsEarlier_33 (by exact ⟨Or.inl rfl, rfl⟩)
  exact L2 _ 0 _ _ _ (by decide) (Nat.lt_succ_self _) X (lv_sub hl [0, 1] rfl)
def q_settle (V : sV) (r : Nat) : sV → Prop := fun V1 => sAg [40, 41, 42, 43, 44] V V1 ∧ (sQuiet V r → V 45 0 = 0 → sCalm V1)
set_option maxRecDepth 100000 in
set_option maxHeartbeats 4000000 in
theorem k_settle {l : Launch} {D : va_G} {cI : ClassId} {a : Nat → Nat} (ha : sInj SX a) (V : sV) (r : Nat) (hr0 : SX[r]? = some (.inr (0, [none, none, none, none]))) (hrn : r ∉ [40, 41, 42, 43, 44]) : sMV l D cI SX a V yX1_settle cX1_settle 3 3 [.ref (a 38), .ref (a r)] (q_settle V r) := by
  refine sMVof ha (by decide +kernel) (Nat.le_of_ble_eq_true rfl) ?_
  intro p e s m below meth c ls G X hl
  obtain ⟨hx, hb, hml, hown, hts, hlocks, hr, hK⟩ := id G
  have hl : lv_has ls 3 [(0, .ref (a 38)), (1, .ref (a r))] := hl
  refine lv_aload_n hx hb dX1_settle_0 rfl (lv_at hl 0 rfl) ?_
  refine lv_aload_n hx hb dX1_settle_1 rfl (lv_at hl 1 rfl) ?_
  refine scV (ci := 1) (As := [.ref (a r)]) (rest := []) G X (k_begin ha V r hr0 (by first | decide | assumption)) iy_X1_begin ml_X1_62 rfl rfl rfl rfl hl.1 (by decide) (by decide) (Nat.le_of_ble_eq_true rfl) dX1_settle_2 (fun V2 H locs p2 X => ?_)
  refine lv_iconst (v := 0) hx hb dX1_settle_5 (by decide) ?_
  refine lv_istore_n (lv' := [(2, .int 0), (0, .ref (a 38)), (1, .ref (a r))]) hx hb dX1_settle_6 rfl hl (by decide) rfl (fun ls hl => ?_)
  have L7 : ∀ (fu7 : Nat) (i : Int32) (Y : sV) (H : Heap) (locs : List Loc) (ls : Array Slot), (0 ≤ i.toInt) → (sAg [40, 41, 42, 43, 44] V Y) → (sQuiet V r → V 45 0 = 0 → sCalm Y) → ((100 - i.toInt).toNat) < fu7 → sWS D cI SX a Y s.heap H locs → lv_has ls 3 [(2, .int i), (0, .ref (a 38)), (1, .ref (a r))] → W p l e (rmD 3) s m ([.ref (a 38), .ref (a r)] : List Value).toArray below meth c H locs 0 0 (MQ below (va_Qv (q_settle V r) (fun V1 t => va_P D vwCl (sWd cI SX a V1) t.heap) (sA SX a s.heap.size)) ([.ref (a 38), .ref (a r)] : List Value).toArray s 0 0 (sA SX a s.heap.size)) (F0 m 7 ls []) := by
    intro fu7
    induction fu7 with
    | zero => intro i Y H locs ls hi hA hc hm7; exact absurd hm7 (Nat.not_lt_zero _)
    | succ fu7 ih7 =>
      intro i Y H locs ls hi hA hc hm7 X hl
      refine lv_iload_n hx hb dX1_settle_7 rfl (lv_at hl 0 rfl) ?_
      refine lv_bipush (v := 100) hx hb dX1_settle_8 (by decide) ?_
      refine sIge (tgt := 48) hx hb (rfl : Int32.toInt i = _) (by decide : (100 : Int32).toInt = 100) dX1_settle_10 (by decide) (fun c10 => ?_) (fun c10 => ?_)
      · skip
        exact srV G X dX1_settle_48 (by first | exact ⟨((hA.tr (by obtain ⟨f, e21, -⟩ := p21; rw [e21]; exact sAg.rf.up (by simp))).tr (p25.1.mono (by decide))).tr (p29.1.mono (by decide)), fun hQ h0 => p29.2 (p25.2 (by obtain ⟨f, e21, -⟩ := p21; rw [e21]; obtain ⟨a1, a2, a3⟩ := hc hQ h0; exact ⟨fun j => by rw [sUp_n _ _ (by decide)]; exact a1 j, by rw [sUp_n _ _ (by decide)]; exact a2, fun k h3 h4 => by rw [sUp_n _ _ (by decide)] at h4; rw [sUp_n _ _ (by decide), sUp_n _ _ (by decide)]; exact a3 k h3 h4⟩))⟩ | exact ⟨hA, hc⟩)
      · skip
        refine lv_aload_n hx hb dX1_settle_13 rfl (lv_at hl 1 rfl) ?_
        refine sgR G X 38 5 rfl rfl fl_X1_28 dX1_settle_14 ?_
        refine lv_aload_n hx hb dX1_settle_17 rfl (lv_at hl 1 rfl) ?_
        refine sgR G X 38 6 rfl rfl fl_X1_31 dX1_settle_18 ?_
        refine scSV (As := [.ref (a 43), .ref (a 44)]) (rest := []) G X (k_copy ha Y 43 44 6 rfl rfl (by first | decide | assumption) (by first | decide | assumption)) iy_X5_copy ml_X1_66 rfl rfl hl.1 (by decide) (by decide) (Nat.le_of_ble_eq_true rfl) dX1_settle_21 (fun V21 H locs p21 X => ?_)
        refine lv_aload_n hx hb dX1_settle_24 rfl (lv_at hl 1 rfl) ?_
        refine scV (ci := 1) (As := []) (rest := []) G X (k_doRound ha V21 ) iy_X1_doRound ml_X1_70 rfl rfl rfl rfl hl.1 (by decide) (by decide) (Nat.le_of_ble_eq_true rfl) dX1_settle_25 (fun V25 H locs p25 X => ?_)
        refine lv_aload_n hx hb dX1_settle_28 rfl (lv_at hl 1 rfl) ?_
        refine scV (ci := 1) (As := []) (rest := []) G X (k_doRound ha V25 ) iy_X1_doRound ml_X1_70 rfl rfl rfl rfl hl.1 (by decide) (by decide) (Nat.le_of_ble_eq_true rfl) dX1_settle_29 (fun V29 H locs p29 X => ?_)
        refine lv_aload_n hx hb dX1_settle_32 rfl (lv_at hl 1 rfl) ?_
        refine scI (ci := 1) (As := []) (rest := []) G X (k_isAsEarlier ha V29 ) iy_X1_isAsEarlier ml_X1_73 rfl rfl rfl rfl hl.1 (by decide) (by decide) (Nat.le_of_ble_eq_true rfl) dX1_settle_33 (fun y33 V33 H locs p33 X => ?_)
        obtain ⟨p33, z33⟩ := p33
        subst V33
        refine sZeq (tgt := 42) hx hb (rfl : Int32.toInt y33 = _) dX1_settle_36 (by decide) (fun c36 => ?_) (fun c36 => ?_)
        · skip
          obtain ⟨x42, e42⟩ : ∃ y : Int32, y = i + (1) := ⟨_, rfl⟩
          refine lv_iinc (v := x42) (lv' := [(2, .int x42), (0, .ref (a 38)), (1, .ref (a r))]) hx hb dX1_settle_42 hl (k := 0) rfl (by rw [e42]; rfl) (by decide) rfl (fun ls hl => ?_)
          refine lv_goto (tgt := 7) hx hb dX1_settle_45 (by decide) ?_
          exact ih7 x42 V29 _ _ _ (by rw [i32_i e42 (by omega)]; omega) (((hA.tr (by obtain ⟨f, e21, -⟩ := p21; rw [e21]; exact sAg.rf.up (by simp))).tr (p25.1.mono (by decide))).tr (p29.1.mono (by decide))) (fun hQ h0 => p29.2 (p25.2 (by obtain ⟨f, e21, -⟩ := p21; rw [e21]; obtain ⟨a1, a2, a3⟩ := hc hQ h0; exact ⟨fun j => by rw [sUp_n _ _ (by decide)]; exact a1 j, by rw [sUp_n _ _ (by decide)]; exact a2, fun k h3 h4 => by rw [sUp_n _ _ (by decide)] at h4; rw [sUp_n _ _ (by decide), sUp_n _ _ (by decide)]; exact a3 k h3 h4⟩))) (by rw [i32_i e42 (by omega)]; omega) X (lv_sub hl [0, 1, 2] rfl)
        · skip
          refine lv_goto (tgt := 48) hx hb dX1_settle_39 (by decide) ?_
          exact srV G X dX1_settle_48 (by first | exact ⟨((hA.tr (by obtain ⟨f, e21, -⟩ := p21; rw [e21]; exact sAg.rf.up (by simp))).tr (p25.1.mono (by decide))).tr (p29.1.mono (by decide)), fun hQ h0 => p29.2 (p25.2 (by obtain ⟨f, e21, -⟩ := p21; rw [e21]; obtain ⟨a1, a2, a3⟩ := hc hQ h0; exact ⟨fun j => by rw [sUp_n _ _ (by decide)]; exact a1 j, by rw [sUp_n _ _ (by decide)]; exact a2, fun k h3 h4 => by rw [sUp_n _ _ (by decide)] at h4; rw [sUp_n _ _ (by decide), sUp_n _ _ (by decide)]; exact a3 k h3 h4⟩))⟩ | exact ⟨hA, hc⟩)
  exact L7 _ 0 V2 _ _ _ (by decide) (p2.1.mono (by decide)) (p2.2) (Nat.lt_succ_self _) X (lv_sub hl [0, 1, 2] rfl)
def q_inflow (V : sV) : Int32 → sV → Prop := fun x V1 => (sCalm V → x = 0) ∧ V1 = V
set_option maxRecDepth 100000 in
set_option maxHeartbeats 4000000 in
theorem k_inflow {l : Launch} {D : va_G} {cI : ClassId} {a : Nat → Nat} (ha : sInj SX a) (V : sV)  : sMI l D cI SX a V yX1_inflow cX1_inflow 3 .int 2 [.ref (a 38)] (q_inflow V) := by
  refine sMIof ha (by decide +kernel) (Nat.le_of_ble_eq_true rfl) ?_
  intro p e s m below meth c ls G X hl
  obtain ⟨hx, hb, hml, hown, hts, hlocks, hr, hK⟩ := id G
  have hl : lv_has ls 3 [(0, .ref (a 38))] := hl
  refine lv_iconst (v := 0) hx hb dX1_inflow_0 (by decide) ?_
  refine lv_istore_n (lv' := [(1, .int 0), (0, .ref (a 38))]) hx hb dX1_inflow_1 rfl hl (by decide) rfl (fun ls hl => ?_)
  refine lv_iconst (v := 0) hx hb dX1_inflow_2 (by decide) ?_
  refine lv_istore_n (lv' := [(2, .int 0), (1, .int 0), (0, .ref (a 38))]) hx hb dX1_inflow_3 rfl hl (by decide) rfl (fun ls hl => ?_)
  have L4 : ∀ (fu4 : Nat) (i : Int32) (z : Int32) (H : Heap) (locs : List Loc) (ls : Array Slot), (0 ≤ i.toInt) → (sCalm V → z = 0) → (((V 3 7).toInt - i.toInt).toNat) < fu4 → sWS D cI SX a V s.heap H locs → lv_has ls 3 [(2, .int i), (1, .int z), (0, .ref (a 38))] → W p l e (rmD 2) s m ([.ref (a 38)] : List Value).toArray below meth c H locs 0 0 (MQ below (va_Qi (q_inflow V) (fun V1 t => va_P D vwCl (sWd cI SX a V1) t.heap) (sA SX a s.heap.size)) ([.ref (a 38)] : List Value).toArray s 0 0 (sA SX a s.heap.size)) (F0 m 4 ls []) := by
    intro fu4
    induction fu4 with
    | zero => intro i z H locs ls hi hz hm4; exact absurd hm4 (Nat.not_lt_zero _)
    | succ fu4 ih4 =>
      intro i z H locs ls hi hz hm4 X hl
      refine lv_iload_n hx hb dX1_inflow_4 rfl (lv_at hl 0 rfl) ?_
      refine lv_aload_n hx hb dX1_inflow_5 rfl (lv_at hl 2 rfl) ?_
      refine sgR G X 38 0 rfl rfl fl_X1_9 dX1_inflow_6 ?_
      refine sgR G X 2 1 rfl rfl fl_X1_37 dX1_inflow_9 ?_
      refine sgI G X 3 7 rfl rfl fl_X1_43 dX1_inflow_12 ?_
      refine sIge (tgt := 50) hx hb (rfl : Int32.toInt i = _) (rfl : Int32.toInt (V 3 7) = _) dX1_inflow_15 (by decide) (fun c15 => ?_) (fun c15 => ?_)
      · skip
        refine lv_iload_n hx hb dX1_inflow_50 rfl (lv_at hl 1 rfl) ?_
        exact srI G X (rfl) dX1_inflow_51 (by exact ⟨hz, rfl⟩)
      · skip
        refine lv_aload_n hx hb dX1_inflow_18 rfl (lv_at hl 2 rfl) ?_
        refine sgR G X 38 0 rfl rfl fl_X1_9 dX1_inflow_19 ?_
        refine sgR G X 2 1 rfl rfl fl_X1_37 dX1_inflow_22 ?_
        refine lv_iload_n hx hb dX1_inflow_25 rfl (lv_at hl 0 rfl) ?_
        refine scI (ci := 2) (As := [.int i]) (rest := []) G X (k_isDoor ha V i) iy_X2_isDoor ml_X1_77 rfl rfl rfl rfl hl.1 (by decide) (by decide) (Nat.le_of_ble_eq_true rfl) dX1_inflow_26 (fun y26 V26 H locs p26 X => ?_)
        obtain ⟨p26, z26⟩ := p26
        subst V26
        refine sZne (tgt := 44) hx hb (rfl : Int32.toInt y26 = _) dX1_inflow_29 (by decide) (fun c29 => ?_) (fun c29 => ?_)
        · skip
          obtain ⟨x44, e44⟩ : ∃ y : Int32, y = i + (1) := ⟨_, rfl⟩
          refine lv_iinc (v := x44) (lv' := [(2, .int x44), (1, .int z), (0, .ref (a 38))]) hx hb dX1_inflow_44 hl (k := 0) rfl (by rw [e44]; rfl) (by decide) rfl (fun ls hl => ?_)
          refine lv_goto (tgt := 4) hx hb dX1_inflow_47 (by decide) ?_
          exact ih4 x44 z _ _ _ (by rw [i32_i e44 (by have := i32_hi (V 3 7); omega)]; omega) (fun h => by first | exact hz h | (rw [e42, hz h, sMax0 (p35 h hi c15) e39]; rfl)) (by rw [i32_i e44 (by have := i32_hi (V 3 7); omega)]; omega) X (lv_sub hl [0, 1, 2] rfl)
        · skip
          refine lv_iload_n hx hb dX1_inflow_32 rfl (lv_at hl 1 rfl) ?_
          refine lv_aload_n hx hb dX1_inflow_33 rfl (lv_at hl 2 rfl) ?_
          refine lv_iload_n hx hb dX1_inflow_34 rfl (lv_at hl 0 rfl) ?_
          refine scI (ci := 1) (As := [.int i]) (rest := [.int z]) G X (k_flow ha V i) iy_X1_flowThrough ml_X1_94 rfl rfl rfl rfl hl.1 (by decide) (by decide) (Nat.le_of_ble_eq_true rfl) dX1_inflow_35 (fun y35 V35 H locs p35 X => ?_)
          obtain ⟨p35, z35⟩ := p35
          subst V35
          refine lv_iconst (v := 0) hx hb dX1_inflow_38 (by decide) ?_
          refine sMax hx hb hml hl.1 hown hts mm_X1_112 (by decide) (Nat.le_of_ble_eq_true rfl) dX1_inflow_39 (fun x39 e39 => ?_)
          refine lv_iadd hx hb dX1_inflow_42 ?_
          refine lv_topi (fun x42 e42 => ?_)
          refine lv_istore_n (lv' := [(1, .int x42), (2, .int i), (0, .ref (a 38))]) hx hb dX1_inflow_43 rfl hl (by decide) rfl (fun ls hl => ?_)
          obtain ⟨x44, e44⟩ : ∃ y : Int32, y = i + (1) := ⟨_, rfl⟩
          refine lv_iinc (v := x44) (lv' := [(2, .int x44), (1, .int x42), (0, .ref (a 38))]) hx hb dX1_inflow_44 hl (k := 1) rfl (by rw [e44]; rfl) (by decide) rfl (fun ls hl => ?_)
          refine lv_goto (tgt := 4) hx hb dX1_inflow_47 (by decide) ?_
          exact ih4 x44 x42 _ _ _ (by rw [i32_i e44 (by have := i32_hi (V 3 7); omega)]; omega) (fun h => by first | exact hz h | (rw [e42, hz h, sMax0 (p35 h hi c15) e39]; rfl)) (by rw [i32_i e44 (by have := i32_hi (V 3 7); omega)]; omega) X (lv_sub hl [0, 1, 2] rfl)
  exact L4 _ 0 0 _ _ _ (by decide) (fun _ => rfl) (Nat.lt_succ_self _) X (lv_sub hl [0, 1, 2] rfl)
def q_smoking (V : sV) : Int32 → sV → Prop := fun x V1 => ((x.toInt = 0 ∨ x.toInt = 1) ∧ ((V 3 7).toInt ≤ 0 → x = 0)) ∧ V1 = V
set_option maxRecDepth 100000 in
set_option maxHeartbeats 4000000 in
theorem k_smoking {l : Launch} {D : va_G} {cI : ClassId} {a : Nat → Nat} (ha : sInj SX a) (V : sV)  : sMI l D cI SX a V yX1_smoking cX1_smoking 3 .boolean 2 [.ref (a 38)] (q_smoking V) := by
  refine sMIof ha (by decide +kernel) (Nat.le_of_ble_eq_true rfl) ?_
  intro p e s m below meth c ls G X hl
  obtain ⟨hx, hb, hml, hown, hts, hlocks, hr, hK⟩ := id G
  have hl : lv_has ls 3 [(0, .ref (a 38))] := hl
  refine lv_iconst (v := 0) hx hb dX1_smoking_0 (by decide) ?_
  refine lv_istore_n (lv' := [(1, .int 0), (0, .ref (a 38))]) hx hb dX1_smoking_1 rfl hl (by decide) rfl (fun ls hl => ?_)
  have L2 : ∀ (fu2 : Nat) (i : Int32) (H : Heap) (locs : List Loc) (ls : Array Slot), (0 ≤ i.toInt) → (((V 3 7).toInt - i.toInt).toNat) < fu2 → sWS D cI SX a V s.heap H locs → lv_has ls 3 [(1, .int i), (0, .ref (a 38))] → W p l e (rmD 2) s m ([.ref (a 38)] : List Value).toArray below meth c H locs 0 0 (MQ below (va_Qi (q_smoking V) (fun V1 t => va_P D vwCl (sWd cI SX a V1) t.heap) (sA SX a s.heap.size)) ([.ref (a 38)] : List Value).toArray s 0 0 (sA SX a s.heap.size)) (F0 m 2 ls []) := by
    intro fu2
    induction fu2 with
    | zero => intro i H locs ls hi hm2; exact absurd hm2 (Nat.not_lt_zero _)
    | succ fu2 ih2 =>
      intro i H locs ls hi hm2 X hl
      refine lv_iload_n hx hb dX1_smoking_2 rfl (lv_at hl 0 rfl) ?_
      refine lv_aload_n hx hb dX1_smoking_3 rfl (lv_at hl 1 rfl) ?_
      refine sgR G X 38 0 rfl rfl fl_X1_9 dX1_smoking_4 ?_
      refine sgR G X 2 1 rfl rfl fl_X1_37 dX1_smoking_7 ?_
      refine sgI G X 3 7 rfl rfl fl_X1_43 dX1_smoking_10 ?_
      refine sIge (tgt := 72) hx hb (rfl : Int32.toInt i = _) (rfl : Int32.toInt (V 3 7) = _) dX1_smoking_13 (by decide) (fun c13 => ?_) (fun c13 => ?_)
      · skip
        refine lv_iconst (v := 0) hx hb dX1_smoking_72 (by decide) ?_
        exact srI G X (rfl) dX1_smoking_73 (by exact ⟨⟨Or.inl rfl, fun _ => rfl⟩, rfl⟩)
      · skip
        refine lv_aload_n hx hb dX1_smoking_16 rfl (lv_at hl 1 rfl) ?_
        refine sgR G X 38 0 rfl rfl fl_X1_9 dX1_smoking_17 ?_
        refine sgR G X 2 1 rfl rfl fl_X1_37 dX1_smoking_20 ?_
        refine sgR G X 3 2 rfl rfl fl_X1_115 dX1_smoking_23 ?_
        refine lv_iload_n hx hb dX1_smoking_26 rfl (lv_at hl 0 rfl) ?_
        refine scSI (As := [.ref (a 6), .int i]) (rest := []) G X (k_at ha V 6 10 rfl (by first | decide | assumption) i) iy_X5_at ml_X1_52 rfl rfl hl.1 (by decide) (by decide) (Nat.le_of_ble_eq_true rfl) dX1_smoking_27 (fun y27 V27 H locs p27 X => ?_)
        obtain ⟨p27, z27⟩ := p27
        subst V27
        refine lv_bipush (v := 6) hx hb dX1_smoking_30 (by decide) ?_
        refine sIne (tgt := 39) hx hb (rfl : Int32.toInt y27 = _) (by decide : (6 : Int32).toInt = 6) dX1_smoking_32 (by decide) (fun c32 => ?_) (fun c32 => ?_)
        · skip
          refine lv_iconst (v := 0) hx hb dX1_smoking_39 (by decide) ?_
          refine lv_istore_n (lv' := [(2, .int 0), (1, .int i), (0, .ref (a 38))]) hx hb dX1_smoking_40 rfl hl (by decide) rfl (fun ls hl => ?_)
          refine lv_iload_n hx hb dX1_smoking_41 rfl (lv_at hl 0 rfl) ?_
          refine sZeq (tgt := 66) hx hb (by decide : (0 : Int32).toInt = 0) dX1_smoking_42 (by decide) (fun c42 => ?_) (fun c42 => ?_)
          · skip
            obtain ⟨x66, e66⟩ : ∃ y : Int32, y = i + (1) := ⟨_, rfl⟩
            refine lv_iinc (v := x66) (lv' := [(1, .int x66), (2, .int 0), (0, .ref (a 38))]) hx hb dX1_smoking_66 hl (k := 1) rfl (by rw [e66]; rfl) (by decide) rfl (fun ls hl => ?_)
            refine lv_goto (tgt := 2) hx hb dX1_smoking_69 (by decide) ?_
            exact ih2 x66 _ _ _ (by rw [i32_i e66 (by have := i32_hi (V 3 7); omega)]; omega) (by rw [i32_i e66 (by have := i32_hi (V 3 7); omega)]; omega) X (lv_sub hl [0, 2] rfl)
          · skip
            refine lv_aload_n hx hb dX1_smoking_45 rfl (lv_at hl 2 rfl) ?_
            refine sgR G X 38 1 rfl rfl fl_X1_15 dX1_smoking_46 ?_
            refine lv_iload_n hx hb dX1_smoking_49 rfl (lv_at hl 1 rfl) ?_
            refine scSI (As := [.ref (a 39), .int i]) (rest := []) G X (k_at ha V 39 10 rfl (by first | decide | assumption) i) iy_X5_at ml_X1_52 rfl rfl hl.1 (by decide) (by decide) (Nat.le_of_ble_eq_true rfl) dX1_smoking_50 (fun y50 V50 H locs p50 X => ?_)
            obtain ⟨p50, z50⟩ := p50
            subst V50
            refine sZle (tgt := 66) hx hb (rfl : Int32.toInt y50 = _) dX1_smoking_53 (by decide) (fun c53 => ?_) (fun c53 => ?_)
            · skip
              obtain ⟨x66, e66⟩ : ∃ y : Int32, y = i + (1) := ⟨_, rfl⟩
              refine lv_iinc (v := x66) (lv' := [(1, .int x66), (2, .int 0), (0, .ref (a 38))]) hx hb dX1_smoking_66 hl (k := 1) rfl (by rw [e66]; rfl) (by decide) rfl (fun ls hl => ?_)
              refine lv_goto (tgt := 2) hx hb dX1_smoking_69 (by decide) ?_
              exact ih2 x66 _ _ _ (by rw [i32_i e66 (by have := i32_hi (V 3 7); omega)]; omega) (by rw [i32_i e66 (by have := i32_hi (V 3 7); omega)]; omega) X (lv_sub hl [0, 2] rfl)
            · skip
              refine lv_aload_n hx hb dX1_smoking_56 rfl (lv_at hl 2 rfl) ?_
              refine lv_iload_n hx hb dX1_smoking_57 rfl (lv_at hl 1 rfl) ?_
              refine scI (ci := 1) (As := [.int i]) (rest := []) G X (k_flow ha V i) iy_X1_flowThrough ml_X1_94 rfl rfl rfl rfl hl.1 (by decide) (by decide) (Nat.le_of_ble_eq_true rfl) dX1_smoking_58 (fun y58 V58 H locs p58 X => ?_)
              obtain ⟨p58, z58⟩ := p58
              subst V58
              refine sZlt (tgt := 66) hx hb (rfl : Int32.toInt y58 = _) dX1_smoking_61 (by decide) (fun c61 => ?_) (fun c61 => ?_)
              · skip
                obtain ⟨x66, e66⟩ : ∃ y : Int32, y = i + (1) := ⟨_, rfl⟩
                refine lv_iinc (v := x66) (lv' := [(1, .int x66), (2, .int 0), (0, .ref (a 38))]) hx hb dX1_smoking_66 hl (k := 1) rfl (by rw [e66]; rfl) (by decide) rfl (fun ls hl => ?_)
                refine lv_goto (tgt := 2) hx hb dX1_smoking_69 (by decide) ?_
                exact ih2 x66 _ _ _ (by rw [i32_i e66 (by have := i32_hi (V 3 7); omega)]; omega) (by rw [i32_i e66 (by have := i32_hi (V 3 7); omega)]; omega) X (lv_sub hl [0, 2] rfl)
              · skip
                refine lv_iconst (v := 1) hx hb dX1_smoking_64 (by decide) ?_
                exact srI G X (rfl) dX1_smoking_65 (by exact ⟨⟨Or.inr rfl, fun h => by omega⟩, rfl⟩)
        · skip
          refine lv_iconst (v := 1) hx hb dX1_smoking_35 (by decide) ?_
          refine lv_goto (tgt := 40) hx hb dX1_smoking_36 (by decide) ?_
          refine lv_istore_n (lv' := [(2, .int 1), (1, .int i), (0, .ref (a 38))]) hx hb dX1_smoking_40 rfl hl (by decide) rfl (fun ls hl => ?_)
          refine lv_iload_n hx hb dX1_smoking_41 rfl (lv_at hl 0 rfl) ?_
          refine sZeq (tgt := 66) hx hb (by decide : (1 : Int32).toInt = 1) dX1_smoking_42 (by decide) (fun c42 => ?_) (fun c42 => ?_)
          · skip
            obtain ⟨x66, e66⟩ : ∃ y : Int32, y = i + (1) := ⟨_, rfl⟩
            refine lv_iinc (v := x66) (lv' := [(1, .int x66), (2, .int 1), (0, .ref (a 38))]) hx hb dX1_smoking_66 hl (k := 1) rfl (by rw [e66]; rfl) (by decide) rfl (fun ls hl => ?_)
            refine lv_goto (tgt := 2) hx hb dX1_smoking_69 (by decide) ?_
            exact ih2 x66 _ _ _ (by rw [i32_i e66 (by have := i32_hi (V 3 7); omega)]; omega) (by rw [i32_i e66 (by have := i32_hi (V 3 7); omega)]; omega) X (lv_sub hl [0, 2] rfl)
          · skip
            refine lv_aload_n hx hb dX1_smoking_45 rfl (lv_at hl 2 rfl) ?_
            refine sgR G X 38 1 rfl rfl fl_X1_15 dX1_smoking_46 ?_
            refine lv_iload_n hx hb dX1_smoking_49 rfl (lv_at hl 1 rfl) ?_
            refine scSI (As := [.ref (a 39), .int i]) (rest := []) G X (k_at ha V 39 10 rfl (by first | decide | assumption) i) iy_X5_at ml_X1_52 rfl rfl hl.1 (by decide) (by decide) (Nat.le_of_ble_eq_true rfl) dX1_smoking_50 (fun y50 V50 H locs p50 X => ?_)
            obtain ⟨p50, z50⟩ := p50
            subst V50
            refine sZle (tgt := 66) hx hb (rfl : Int32.toInt y50 = _) dX1_smoking_53 (by decide) (fun c53 => ?_) (fun c53 => ?_)
            · skip
              obtain ⟨x66, e66⟩ : ∃ y : Int32, y = i + (1) := ⟨_, rfl⟩
              refine lv_iinc (v := x66) (lv' := [(1, .int x66), (2, .int 1), (0, .ref (a 38))]) hx hb dX1_smoking_66 hl (k := 1) rfl (by rw [e66]; rfl) (by decide) rfl (fun ls hl => ?_)
              refine lv_goto (tgt := 2) hx hb dX1_smoking_69 (by decide) ?_
              exact ih2 x66 _ _ _ (by rw [i32_i e66 (by have := i32_hi (V 3 7); omega)]; omega) (by rw [i32_i e66 (by have := i32_hi (V 3 7); omega)]; omega) X (lv_sub hl [0, 2] rfl)
            · skip
              refine lv_aload_n hx hb dX1_smoking_56 rfl (lv_at hl 2 rfl) ?_
              refine lv_iload_n hx hb dX1_smoking_57 rfl (lv_at hl 1 rfl) ?_
              refine scI (ci := 1) (As := [.int i]) (rest := []) G X (k_flow ha V i) iy_X1_flowThrough ml_X1_94 rfl rfl rfl rfl hl.1 (by decide) (by decide) (Nat.le_of_ble_eq_true rfl) dX1_smoking_58 (fun y58 V58 H locs p58 X => ?_)
              obtain ⟨p58, z58⟩ := p58
              subst V58
              refine sZlt (tgt := 66) hx hb (rfl : Int32.toInt y58 = _) dX1_smoking_61 (by decide) (fun c61 => ?_) (fun c61 => ?_)
              · skip
                obtain ⟨x66, e66⟩ : ∃ y : Int32, y = i + (1) := ⟨_, rfl⟩
                refine lv_iinc (v := x66) (lv' := [(1, .int x66), (2, .int 1), (0, .ref (a 38))]) hx hb dX1_smoking_66 hl (k := 1) rfl (by rw [e66]; rfl) (by decide) rfl (fun ls hl => ?_)
                refine lv_goto (tgt := 2) hx hb dX1_smoking_69 (by decide) ?_
                exact ih2 x66 _ _ _ (by rw [i32_i e66 (by have := i32_hi (V 3 7); omega)]; omega) (by rw [i32_i e66 (by have := i32_hi (V 3 7); omega)]; omega) X (lv_sub hl [0, 2] rfl)
              · skip
                refine lv_iconst (v := 1) hx hb dX1_smoking_64 (by decide) ?_
                exact srI G X (rfl) dX1_smoking_65 (by exact ⟨⟨Or.inr rfl, fun h => by omega⟩, rfl⟩)
  exact L2 _ 0 _ _ _ (by decide) (Nat.lt_succ_self _) X (lv_sub hl [0, 1] rfl)
def q_throughRoom (V : sV) : Int32 → sV → Prop := fun x V1 => ((V 3 7).toInt ≤ 0 → x = 0) ∧ V1 = V
set_option maxRecDepth 100000 in
set_option maxHeartbeats 4000000 in
theorem k_throughRoom {l : Launch} {D : va_G} {cI : ClassId} {a : Nat → Nat} (ha : sInj SX a) (V : sV) (q : Int32) : sMI l D cI SX a V yX1_throughRoom cX1_throughRoom 4 .int 2 [.ref (a 38), .int q] (q_throughRoom V) := by
  refine sMIof ha (by decide +kernel) (Nat.le_of_ble_eq_true rfl) ?_
  intro p e s m below meth c ls G X hl
  obtain ⟨hx, hb, hml, hown, hts, hlocks, hr, hK⟩ := id G
  have hl : lv_has ls 4 [(0, .ref (a 38)), (1, .int q)] := hl
  refine lv_iconst (v := 0) hx hb dX1_throughRoom_0 (by decide) ?_
  refine lv_istore_n (lv' := [(2, .int 0), (0, .ref (a 38)), (1, .int q)]) hx hb dX1_throughRoom_1 rfl hl (by decide) rfl (fun ls hl => ?_)
  refine lv_iconst (v := 0) hx hb dX1_throughRoom_2 (by decide) ?_
  refine lv_istore_n (lv' := [(3, .int 0), (2, .int 0), (0, .ref (a 38)), (1, .int q)]) hx hb dX1_throughRoom_3 rfl hl (by decide) rfl (fun ls hl => ?_)
  have L4 : ∀ (fu4 : Nat) (i : Int32) (z : Int32) (H : Heap) (locs : List Loc) (ls : Array Slot), (0 ≤ i.toInt) → ((V 3 7).toInt ≤ 0 → z = 0) → (((V 3 7).toInt - i.toInt).toNat) < fu4 → sWS D cI SX a V s.heap H locs → lv_has ls 4 [(3, .int i), (2, .int z), (0, .ref (a 38)), (1, .int q)] → W p l e (rmD 2) s m ([.ref (a 38), .int q] : List Value).toArray below meth c H locs 0 0 (MQ below (va_Qi (q_throughRoom V) (fun V1 t => va_P D vwCl (sWd cI SX a V1) t.heap) (sA SX a s.heap.size)) ([.ref (a 38), .int q] : List Value).toArray s 0 0 (sA SX a s.heap.size)) (F0 m 4 ls []) := by
    intro fu4
    induction fu4 with
    | zero => intro i z H locs ls hi hz hm4; exact absurd hm4 (Nat.not_lt_zero _)
    | succ fu4 ih4 =>
      intro i z H locs ls hi hz hm4 X hl
      refine lv_iload_n hx hb dX1_throughRoom_4 rfl (lv_at hl 0 rfl) ?_
      refine lv_aload_n hx hb dX1_throughRoom_5 rfl (lv_at hl 2 rfl) ?_
      refine sgR G X 38 0 rfl rfl fl_X1_9 dX1_throughRoom_6 ?_
      refine sgR G X 2 1 rfl rfl fl_X1_37 dX1_throughRoom_9 ?_
      refine sgI G X 3 7 rfl rfl fl_X1_43 dX1_throughRoom_12 ?_
      refine sIge (tgt := 59) hx hb (rfl : Int32.toInt i = _) (rfl : Int32.toInt (V 3 7) = _) dX1_throughRoom_15 (by decide) (fun c15 => ?_) (fun c15 => ?_)
      · skip
        refine lv_iload_n hx hb dX1_throughRoom_59 rfl (lv_at hl 1 rfl) ?_
        exact srI G X (rfl) dX1_throughRoom_60 (by exact ⟨hz, rfl⟩)
      · skip
        refine lv_aload_n hx hb dX1_throughRoom_18 rfl (lv_at hl 2 rfl) ?_
        refine sgR G X 38 3 rfl rfl fl_X1_22 dX1_throughRoom_19 ?_
        refine lv_iload_n hx hb dX1_throughRoom_22 rfl (lv_at hl 0 rfl) ?_
        refine scSI (As := [.ref (a 41), .int i]) (rest := []) G X (k_at ha V 41 10 rfl (by first | decide | assumption) i) iy_X5_at ml_X1_52 rfl rfl hl.1 (by decide) (by decide) (Nat.le_of_ble_eq_true rfl) dX1_throughRoom_23 (fun y23 V23 H locs p23 X => ?_)
        obtain ⟨p23, z23⟩ := p23
        subst V23
        refine lv_iload_n hx hb dX1_throughRoom_26 rfl (lv_at hl 3 rfl) ?_
        refine sIeq (tgt := 42) hx hb (rfl : Int32.toInt y23 = _) (rfl : Int32.toInt q = _) dX1_throughRoom_27 (by decide) (fun c27 => ?_) (fun c27 => ?_)
        · skip
          refine lv_iload_n hx hb dX1_throughRoom_42 rfl (lv_at hl 1 rfl) ?_
          refine lv_aload_n hx hb dX1_throughRoom_43 rfl (lv_at hl 2 rfl) ?_
          refine lv_iload_n hx hb dX1_throughRoom_44 rfl (lv_at hl 0 rfl) ?_
          refine scI (ci := 1) (As := [.int i]) (rest := [.int z]) G X (k_flow ha V i) iy_X1_flowThrough ml_X1_94 rfl rfl rfl rfl hl.1 (by decide) (by decide) (Nat.le_of_ble_eq_true rfl) dX1_throughRoom_45 (fun y45 V45 H locs p45 X => ?_)
          obtain ⟨p45, z45⟩ := p45
          subst V45
          refine sAbs hx hb hml hl.1 hown hts mm_X1_104 (by decide) (Nat.le_of_ble_eq_true rfl) dX1_throughRoom_48 (fun x48 e48 => ?_)
          refine lv_iadd hx hb dX1_throughRoom_51 ?_
          refine lv_topi (fun x51 e51 => ?_)
          refine lv_istore_n (lv' := [(2, .int x51), (3, .int i), (0, .ref (a 38)), (1, .int q)]) hx hb dX1_throughRoom_52 rfl hl (by decide) rfl (fun ls hl => ?_)
          obtain ⟨x53, e53⟩ : ∃ y : Int32, y = i + (1) := ⟨_, rfl⟩
          refine lv_iinc (v := x53) (lv' := [(3, .int x53), (2, .int x51), (0, .ref (a 38)), (1, .int q)]) hx hb dX1_throughRoom_53 hl (k := 1) rfl (by rw [e53]; rfl) (by decide) rfl (fun ls hl => ?_)
          refine lv_goto (tgt := 4) hx hb dX1_throughRoom_56 (by decide) ?_
          exact ih4 x53 x51 _ _ _ (by rw [i32_i e53 (by have := i32_hi (V 3 7); omega)]; omega) (fun h => by omega) (by rw [i32_i e53 (by have := i32_hi (V 3 7); omega)]; omega) X (lv_sub hl [0, 1, 2, 3] rfl)
        · skip
          refine lv_aload_n hx hb dX1_throughRoom_30 rfl (lv_at hl 2 rfl) ?_
          refine sgR G X 38 2 rfl rfl fl_X1_19 dX1_throughRoom_31 ?_
          refine lv_iload_n hx hb dX1_throughRoom_34 rfl (lv_at hl 0 rfl) ?_
          refine scSI (As := [.ref (a 40), .int i]) (rest := []) G X (k_at ha V 40 10 rfl (by first | decide | assumption) i) iy_X5_at ml_X1_52 rfl rfl hl.1 (by decide) (by decide) (Nat.le_of_ble_eq_true rfl) dX1_throughRoom_35 (fun y35 V35 H locs p35 X => ?_)
          obtain ⟨p35, z35⟩ := p35
          subst V35
          refine lv_iload_n hx hb dX1_throughRoom_38 rfl (lv_at hl 3 rfl) ?_
          refine sIne (tgt := 53) hx hb (rfl : Int32.toInt y35 = _) (rfl : Int32.toInt q = _) dX1_throughRoom_39 (by decide) (fun c39 => ?_) (fun c39 => ?_)
          · skip
            obtain ⟨x53, e53⟩ : ∃ y : Int32, y = i + (1) := ⟨_, rfl⟩
            refine lv_iinc (v := x53) (lv' := [(3, .int x53), (2, .int z), (0, .ref (a 38)), (1, .int q)]) hx hb dX1_throughRoom_53 hl (k := 0) rfl (by rw [e53]; rfl) (by decide) rfl (fun ls hl => ?_)
            refine lv_goto (tgt := 4) hx hb dX1_throughRoom_56 (by decide) ?_
            exact ih4 x53 z _ _ _ (by rw [i32_i e53 (by have := i32_hi (V 3 7); omega)]; omega) (fun h => by omega) (by rw [i32_i e53 (by have := i32_hi (V 3 7); omega)]; omega) X (lv_sub hl [0, 1, 2, 3] rfl)
          · skip
            refine lv_iload_n hx hb dX1_throughRoom_42 rfl (lv_at hl 1 rfl) ?_
            refine lv_aload_n hx hb dX1_throughRoom_43 rfl (lv_at hl 2 rfl) ?_
            refine lv_iload_n hx hb dX1_throughRoom_44 rfl (lv_at hl 0 rfl) ?_
            refine scI (ci := 1) (As := [.int i]) (rest := [.int z]) G X (k_flow ha V i) iy_X1_flowThrough ml_X1_94 rfl rfl rfl rfl hl.1 (by decide) (by decide) (Nat.le_of_ble_eq_true rfl) dX1_throughRoom_45 (fun y45 V45 H locs p45 X => ?_)
            obtain ⟨p45, z45⟩ := p45
            subst V45
            refine sAbs hx hb hml hl.1 hown hts mm_X1_104 (by decide) (Nat.le_of_ble_eq_true rfl) dX1_throughRoom_48 (fun x48 e48 => ?_)
            refine lv_iadd hx hb dX1_throughRoom_51 ?_
            refine lv_topi (fun x51 e51 => ?_)
            refine lv_istore_n (lv' := [(2, .int x51), (3, .int i), (0, .ref (a 38)), (1, .int q)]) hx hb dX1_throughRoom_52 rfl hl (by decide) rfl (fun ls hl => ?_)
            obtain ⟨x53, e53⟩ : ∃ y : Int32, y = i + (1) := ⟨_, rfl⟩
            refine lv_iinc (v := x53) (lv' := [(3, .int x53), (2, .int x51), (0, .ref (a 38)), (1, .int q)]) hx hb dX1_throughRoom_53 hl (k := 1) rfl (by rw [e53]; rfl) (by decide) rfl (fun ls hl => ?_)
            refine lv_goto (tgt := 4) hx hb dX1_throughRoom_56 (by decide) ?_
            exact ih4 x53 x51 _ _ _ (by rw [i32_i e53 (by have := i32_hi (V 3 7); omega)]; omega) (fun h => by omega) (by rw [i32_i e53 (by have := i32_hi (V 3 7); omega)]; omega) X (lv_sub hl [0, 1, 2, 3] rfl)
  exact L4 _ 0 0 _ _ _ (by decide) (fun _ => rfl) (Nat.lt_succ_self _) X (lv_sub hl [0, 1, 2, 3] rfl)
