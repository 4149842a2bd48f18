def mA (V : sV) : Prop := 0 ≤ (V 0 22).toInt ∧ (V 0 22).toInt ≤ (V 0 1).toInt
/-- a step of reading: the place alone grows, the numbers alone change -/
def mS (V V1 : sV) : Prop := mI V1 ∧ sAg [0, 16] V V1 ∧ (∀ j, j ≠ 22 → V1 0 j = V 0 j) ∧ (V 0 22).toInt ≤ (V1 0 22).toInt ∧ (V1 0 22).toInt ≤ (V 0 1).toInt
theorem mS.rf {V : sV} (h : mI V) (hA : mA V) : mS V V := ⟨h, sAg.rf, fun _ _ => rfl, by omega, hA.2⟩
theorem mS.tr {V V1 V2 : sV} (h : mS V V1) (g : mS V1 V2) : mS V V2 := ⟨g.1, h.2.1.tr g.2.1, fun j hj => by rw [g.2.2.1 j hj, h.2.2.1 j hj], by have h1 := h.2.2.2.1; have h2 := g.2.2.2.1; omega, by have h1 := g.2.2.2.2; rw [h.2.2.1 1 (by decide)] at h1; exact h1⟩
theorem mS.a {V V1 : sV} (h : mS V V1) (hA : mA V) : mA V1 := ⟨by have h1 := h.2.2.2.1; have h2 := hA.1; omega, by rw [h.2.2.1 1 (by decide)]; exact h.2.2.2.2⟩
theorem mI.u {V V1 : sV} (h : mI V) (hA : sAg [16] V V1) (hU : mU (V1 16)) : mI V1 := by
  unfold mI
  rw [hA 0 (by decide), hA 2 (by decide), hA 3 (by decide), hA 4 (by decide), hA 6 (by decide), hA 9 (by decide), hA 10 (by decide), hA 17 (by decide)]
  exact ⟨h.1, h.2.1, h.2.2.1, h.2.2.2.1, hU, h.2.2.2.2.2⟩
theorem mI.t9 {V V1 : sV} (h : mI V) (hA : sAg [9] V V1) (hT : mT (V1 9)) : mI V1 := by
  unfold mI
  rw [hA 0 (by decide), hA 2 (by decide), hA 3 (by decide), hA 4 (by decide), hA 6 (by decide), hA 16 (by decide), hA 10 (by decide), hA 17 (by decide)]
  exact ⟨h.1, h.2.1, h.2.2.1, hT, h.2.2.2.2⟩
theorem mF_22 {f : Nat → Int32} {x : Int32} (h : mF f) : mF (upd f 22 x) := h
theorem mF_0 {f : Nat → Int32} {x : Int32} (h : mF f) (hx : 0 ≤ x.toInt ∧ x.toInt ≤ 6) : mF (upd f 0 x) := ⟨hx, h.2⟩
theorem mF_11 {f : Nat → Int32} {x : Int32} (h : mF f) (hx : 0 ≤ x.toInt ∧ x.toInt ≤ 4) : mF (upd f 11 x) := ⟨h.1, h.2.1, h.2.2.1, hx, h.2.2.2.2⟩
theorem mS.step {V Y : sV} {x : Int32} (h : mS V Y) (hlt : (Y 0 22).toInt < (Y 0 1).toInt) (ex : x = Y 0 22 + 1) : mS V (sUp Y 0 (upd (Y 0) 22 x)) := by
  have e : x.toInt = (Y 0 22).toInt + 1 := i32_i ex (by have := i32_hi (Y 0 1); omega)
  refine ⟨h.1.agF (sAg.rf.up (by decide) : sAg [0] Y _) (by decide) (mF_22 h.1.1), h.2.1.up (by decide), fun j hj => ?_, ?_, ?_⟩
  · rw [sUp_s, upd_n hj]; exact h.2.2.1 j hj
  · rw [sUp_s, upd_s, e]; have h1 := h.2.2.2.1; omega
  · rw [sUp_s, upd_s, e]; rw [h.2.2.1 1 (by decide)] at hlt; omega
theorem mS.num {V Y : sV} {k : Nat} {v : Int32} (h : mS V Y) (hv : 0 ≤ v.toInt ∧ v.toInt ≤ 99) : mS V (sUp Y 16 (upd (Y 16) k v)) :=
  ⟨h.1.u (sAg.rf.up (by decide)) (by rw [sUp_s]; exact upd_all (P := fun x => 0 ≤ x.toInt ∧ x.toInt ≤ 99) h.1.2.2.2.2.1 hv), h.2.1.up (by decide), h.2.2.1, h.2.2.2.1, h.2.2.2.2⟩
theorem m_ten {x y : Int32} (e : x = 10 * y) (h : 0 ≤ y.toInt ∧ y.toInt ≤ 99) : x.toInt = 10 * y.toInt := by
  have h1 : (10 : Int32).toInt = 10 := by decide
  rw [e, i32_mul (by rw [h1]; omega) (by rw [h1]; omega), h1]
def mW (V V1 : sV) : Prop := V1 10 = V 10 ∧ V1 17 = V 17 ∧ V1 0 14 = V 0 14 ∧ V1 0 24 = V 0 24
def q_m_sign (V : sV) : Int32 → sV → Prop := fun x V1 => (((V 0 22).toInt < (V 0 1).toInt ∧ x = V 1 (V 0 22).toNatClampNeg) ∨ ((V 0 1).toInt ≤ (V 0 22).toInt ∧ x = -1)) ∧ V1 = V
set_option maxRecDepth 100000 in
set_option maxHeartbeats 4000000 in
theorem k_m_sign {l : Launch} {D : va_G} {cI : ClassId} {a : Nat → Nat} (ha : sInj SM a) (V : sV) (hm : mI V) (hat : mA V) : sMI l D cI SM a V yX10_sign cX10_sign 1 .int 0 [.ref (a 0)] (q_m_sign V) := by
  refine sMIof ha (by decide +kernel) (Nat.le_of_ble_eq_true rfl) ?_
  intro p e s m below meth c ls G X hl
  obtain ⟨hx, hb, hml, hown, hts, hlocks, hr, hK⟩ := id G
  have hl : lv_has ls 1 [(0, .ref (a 0))] := hl
  obtain ⟨mf0, mf1, mf3, mf11, mf14, mf15⟩ := hm.1
  refine lv_aload_n hx hb dX10_sign_0 rfl (lv_at hl 0 rfl) ?_
  refine sgI G X 0 22 rfl rfl fl_X10_75 dX10_sign_1 ?_
  refine lv_aload_n hx hb dX10_sign_4 rfl (lv_at hl 0 rfl) ?_
  refine sgI G X 0 1 rfl rfl fl_X10_72 dX10_sign_5 ?_
  refine sIge (tgt := 23) hx hb (rfl : Int32.toInt (V 0 22) = _) (rfl : Int32.toInt (V 0 1) = _) dX10_sign_8 (by decide) (fun c8 => ?_) (fun c8 => ?_)
  · skip
    refine lv_iconst (v := (-1)) hx hb dX10_sign_23 (by decide) ?_
    exact srI G X (rfl) dX10_sign_24 (by first | exact ⟨Or.inl ⟨c8, e19⟩, rfl⟩ | exact ⟨Or.inr ⟨c8, rfl⟩, rfl⟩)
  · skip
    refine lv_aload_n hx hb dX10_sign_11 rfl (lv_at hl 0 rfl) ?_
    refine sgR G X 0 2 rfl rfl fl_X10_7 dX10_sign_12 ?_
    refine lv_aload_n hx hb dX10_sign_15 rfl (lv_at hl 0 rfl) ?_
    refine sgI G X 0 22 rfl rfl fl_X10_75 dX10_sign_16 ?_
    refine sld G X 1 rfl (i32_in hat.1 (by omega)) dX10_sign_19 ?_
    refine lv_topi (fun x19 e19 => ?_)
    refine lv_goto (tgt := 24) hx hb dX10_sign_20 (by decide) ?_
    exact srI G X (rfl) dX10_sign_24 (by first | exact ⟨Or.inl ⟨c8, e19⟩, rfl⟩ | exact ⟨Or.inr ⟨c8, rfl⟩, rfl⟩)
def q_isDigit (V : sV) (i : Int32) : Int32 → sV → Prop := fun x V1 => ((x.toInt = 1 ∧ 48 ≤ i.toInt ∧ i.toInt ≤ 57) ∨ x.toInt = 0) ∧ V1 = V
set_option maxRecDepth 100000 in
set_option maxHeartbeats 4000000 in
theorem k_isDigit {l : Launch} {D : va_G} {cI : ClassId} {S : List sSh} {a : Nat → Nat} (ha : sInj S a) (V : sV) (i : Int32) : sMI l D cI S a V yX10_isDigit cX10_isDigit 1 .boolean 0 [.int i] (q_isDigit V i) := by
  refine sMIof ha (by decide +kernel) (Nat.le_of_ble_eq_true rfl) ?_
  intro p e s m below meth c ls G X hl
  obtain ⟨hx, hb, hml, hown, hts, hlocks, hr, hK⟩ := id G
  have hl : lv_has ls 1 [(0, .int i)] := hl
  refine lv_iload_n hx hb dX10_isDigit_0 rfl (lv_at hl 0 rfl) ?_
  refine lv_bipush (v := 48) hx hb dX10_isDigit_1 (by decide) ?_
  refine sIlt (tgt := 16) hx hb (rfl : Int32.toInt i = _) (by decide : (48 : Int32).toInt = 48) dX10_isDigit_3 (by decide) (fun c3 => ?_) (fun c3 => ?_)
  · skip
    refine lv_iconst (v := 0) hx hb dX10_isDigit_16 (by decide) ?_
    exact srI G X (rfl) dX10_isDigit_17 (by first | exact ⟨Or.inl ⟨rfl, c3, c9⟩, rfl⟩ | exact ⟨Or.inr rfl, rfl⟩)
  · skip
    refine lv_iload_n hx hb dX10_isDigit_6 rfl (lv_at hl 0 rfl) ?_
    refine lv_bipush (v := 57) hx hb dX10_isDigit_7 (by decide) ?_
    refine sIgt (tgt := 16) hx hb (rfl : Int32.toInt i = _) (by decide : (57 : Int32).toInt = 57) dX10_isDigit_9 (by decide) (fun c9 => ?_) (fun c9 => ?_)
    · skip
      refine lv_iconst (v := 0) hx hb dX10_isDigit_16 (by decide) ?_
      exact srI G X (rfl) dX10_isDigit_17 (by first | exact ⟨Or.inl ⟨rfl, c3, c9⟩, rfl⟩ | exact ⟨Or.inr rfl, rfl⟩)
    · skip
      refine lv_iconst (v := 1) hx hb dX10_isDigit_12 (by decide) ?_
      refine lv_goto (tgt := 17) hx hb dX10_isDigit_13 (by decide) ?_
      exact srI G X (rfl) dX10_isDigit_17 (by first | exact ⟨Or.inl ⟨rfl, c3, c9⟩, rfl⟩ | exact ⟨Or.inr rfl, rfl⟩)
def q_m_is (V : sV) : Int32 → sV → Prop := fun x V1 => mS V V1 ∧ V1 16 = V 16 ∧ ((x.toInt = 1 ∧ (V 0 22).toInt < (V1 0 22).toInt) ∨ x.toInt = 0)
set_option maxRecDepth 100000 in
set_option maxHeartbeats 4000000 in
theorem k_m_is {l : Launch} {D : va_G} {cI : ClassId} {a : Nat → Nat} (ha : sInj SM a) (V : sV) (q : Int32) (hm : mI V) (hat : mA V) (h0 : 0 ≤ q.toInt) : sMI l D cI SM a V yX10_is cX10_is 2 .boolean 1 [.ref (a 0), .int q] (q_m_is V) := by
  refine sMIof ha (by decide +kernel) (Nat.le_of_ble_eq_true rfl) ?_
  intro p e s m below meth c ls G X hl
  obtain ⟨hx, hb, hml, hown, hts, hlocks, hr, hK⟩ := id G
  have hl : lv_has ls 2 [(0, .ref (a 0)), (1, .int q)] := hl
  obtain ⟨mf0, mf1, mf3, mf11, mf14, mf15⟩ := hm.1
  refine lv_aload_n hx hb dX10_is_0 rfl (lv_at hl 0 rfl) ?_
  refine scI (ci := 9) (As := []) (rest := []) G X (k_m_sign ha V (by assumption) (by assumption)) iy_X10_sign ml_X10_78 rfl rfl rfl rfl hl.1 (by decide) (by decide) (Nat.le_of_ble_eq_true rfl) dX10_is_1 (fun y1 V1 H locs p1 X => ?_)
  obtain ⟨p1, z1⟩ := p1
  subst V1
  refine lv_iload_n hx hb dX10_is_4 rfl (lv_at hl 1 rfl) ?_
  refine sIeq (tgt := 10) hx hb (rfl : Int32.toInt y1 = _) (rfl : Int32.toInt q = _) dX10_is_5 (by decide) (fun c5 => ?_) (fun c5 => ?_)
  · skip
    have h3 : (-1 : Int32).toInt = -1 := by decide
    have hlt : (V 0 22).toInt < (V 0 1).toInt := by
        rcases p1 with h | h
        · exact h.1
        · exfalso; rw [h.2] at c5; omega
    refine lv_aload_n hx hb dX10_is_10 rfl (lv_at hl 0 rfl) ?_
    refine lv_dup hx hb dX10_is_11 rfl ?_
    refine sgI G X 0 22 rfl rfl fl_X10_75 dX10_is_12 ?_
    refine lv_iconst (v := 1) hx hb dX10_is_15 (by decide) ?_
    refine lv_iadd hx hb dX10_is_16 ?_
    refine lv_topi (fun x16 e16 => ?_)
    refine spI G X 0 22 rfl rfl fp_X10_75 dX10_is_17 (fun H locs X => ?_)
    refine lv_iconst (v := 1) hx hb dX10_is_20 (by decide) ?_
    exact srI G X (rfl) dX10_is_21 (by exact ⟨(mS.rf hm hat).step hlt e16, rfl, Or.inl ⟨rfl, by rw [sUp_s]; show (V 0 22).toInt < x16.toInt; rw [i32_i e16 (by have := i32_hi (V 0 1); omega)]; omega⟩⟩)
  · skip
    refine lv_iconst (v := 0) hx hb dX10_is_8 (by decide) ?_
    exact srI G X (rfl) dX10_is_9 (by exact ⟨mS.rf hm hat, rfl, Or.inr rfl⟩)
def q_m_number2 (V : sV) (i n : Int32) : Int32 → sV → Prop := fun x V1 => mS V V1 ∧ (∀ j, j ≠ i.toNatClampNeg → V1 16 j = V 16 j) ∧ (x.toInt = 1 → n.toInt = 1 → (V1 16 i.toNatClampNeg).toInt ≤ 9) ∧ (x.toInt = 0 ∨ x.toInt = 1)
set_option maxRecDepth 100000 in
set_option maxHeartbeats 4000000 in
theorem k_m_number2 {l : Launch} {D : va_G} {cI : ClassId} {a : Nat → Nat} (ha : sInj SM a) (V : sV) (i n : Int32) (hm : mI V) (hat : mA V) (h1 : 0 ≤ i.toInt) (h2 : i.toInt < 6) (hn : n.toInt = 1 ∨ n.toInt = 2) : sMI l D cI SM a V yX10_number cX10_number 4 .boolean 1 [.ref (a 0), .int i, .int n] (q_m_number2 V i n) := by
  refine sMIof ha (by decide +kernel) (Nat.le_of_ble_eq_true rfl) ?_
  intro p e s m below meth c ls G X hl
  obtain ⟨hx, hb, hml, hown, hts, hlocks, hr, hK⟩ := id G
  have hl : lv_has ls 4 [(0, .ref (a 0)), (1, .int i), (2, .int n)] := hl
  obtain ⟨mf0, mf1, mf3, mf11, mf14, mf15⟩ := hm.1
  refine lv_aload_n hx hb dX10_number_0 rfl (lv_at hl 0 rfl) ?_
  refine scI (ci := 9) (As := []) (rest := []) G X (k_m_sign ha V (by assumption) (by assumption)) iy_X10_sign ml_X10_78 rfl rfl rfl rfl hl.1 (by decide) (by decide) (Nat.le_of_ble_eq_true rfl) dX10_number_1 (fun y1 V1 H locs p1 X => ?_)
  obtain ⟨p1, z1⟩ := p1
  subst V1
  refine scSI (As := [.int y1]) (rest := []) G X (k_isDigit ha V y1) iy_X10_isDigit ml_X10_82 rfl rfl hl.1 (by decide) (by decide) (Nat.le_of_ble_eq_true rfl) dX10_number_4 (fun y4 V4 H locs p4 X => ?_)
  obtain ⟨p4, z4⟩ := p4
  subst V4
  refine sZne (tgt := 12) hx hb (rfl : Int32.toInt y4 = _) dX10_number_7 (by decide) (fun c7 => ?_) (fun c7 => ?_)
  · skip
    refine lv_aload_n hx hb dX10_number_12 rfl (lv_at hl 0 rfl) ?_
    refine sgR G X 0 23 rfl rfl fl_X10_55 dX10_number_13 ?_
    refine lv_iload_n hx hb dX10_number_16 rfl (lv_at hl 1 rfl) ?_
    refine lv_iconst (v := 0) hx hb dX10_number_17 (by decide) ?_
    refine sst G X 16 rfl (i32_in (by omega) (by omega)) dX10_number_18 (fun H locs X => ?_)
    refine lv_iconst (v := 0) hx hb dX10_number_19 (by decide) ?_
    refine lv_istore_n (lv' := [(3, .int 0), (0, .ref (a 0)), (1, .int i), (2, .int n)]) hx hb dX10_number_20 rfl hl (by decide) rfl (fun ls hl => ?_)
    have L21 : ∀ (fu21 : Nat) (j : Int32) (Y : sV) (H : Heap) (locs : List Loc) (ls : Array Slot), (j.toInt ≤ n.toInt) → (mS V Y) → (∀ j, j ≠ i.toNatClampNeg → Y 16 j = V 16 j) → ((j.toInt = 0 ∧ (Y 16 i.toNatClampNeg).toInt = 0) ∨ (j.toInt = 1 ∧ 0 ≤ (Y 16 i.toNatClampNeg).toInt ∧ (Y 16 i.toNatClampNeg).toInt ≤ 9) ∨ (j.toInt = 2 ∧ 0 ≤ (Y 16 i.toNatClampNeg).toInt ∧ (Y 16 i.toNatClampNeg).toInt ≤ 99)) → ((2 - j.toInt).toNat) < fu21 → sWS D cI SM a Y s.heap H locs → lv_has ls 4 [(3, .int j), (0, .ref (a 0)), (1, .int i), (2, .int n)] → W p l e (rmD 1) s m ([.ref (a 0), .int i, .int n] : List Value).toArray below meth c H locs 0 0 (MQ below (va_Qi (q_m_number2 V i n) (fun V1 t => va_P D vwCl (sWd cI SM a V1) t.heap) (sA SM a s.heap.size)) ([.ref (a 0), .int i, .int n] : List Value).toArray s 0 0 (sA SM a s.heap.size)) (F0 m 21 ls []) := by
      intro fu21
      induction fu21 with
      | zero => intro j Y H locs ls hjn hS hk hv hm21; exact absurd hm21 (Nat.not_lt_zero _)
      | succ fu21 ih21 =>
        intro j Y H locs ls hjn hS hk hv hm21 X hl
        have hmY := hS.1
        have haY : mA Y := hS.a hat
        have mY1 : 0 ≤ (Y 0 1).toInt ∧ (Y 0 1).toInt ≤ 80 := hS.1.1.2.1
        refine lv_iload_n hx hb dX10_number_21 rfl (lv_at hl 0 rfl) ?_
        refine lv_iload_n hx hb dX10_number_22 rfl (lv_at hl 3 rfl) ?_
        refine sIge (tgt := 77) hx hb (rfl : Int32.toInt j = _) (rfl : Int32.toInt n = _) dX10_number_23 (by decide) (fun c23 => ?_) (fun c23 => ?_)
        · skip
          refine lv_iconst (v := 1) hx hb dX10_number_77 (by decide) ?_
          exact srI G X (rfl) dX10_number_78 (by exact ⟨hS, hk, fun _ h => by omega, Or.inr rfl⟩)
        · skip
          refine lv_aload_n hx hb dX10_number_26 rfl (lv_at hl 1 rfl) ?_
          refine scI (ci := 9) (As := []) (rest := []) G X (k_m_sign ha Y (by assumption) (by assumption)) iy_X10_sign ml_X10_78 rfl rfl rfl rfl hl.1 (by decide) (by decide) (Nat.le_of_ble_eq_true rfl) dX10_number_27 (fun y27 V27 H locs p27 X => ?_)
          obtain ⟨p27, z27⟩ := p27
          subst V27
          refine scSI (As := [.int y27]) (rest := []) G X (k_isDigit ha Y y27) iy_X10_isDigit ml_X10_82 rfl rfl hl.1 (by decide) (by decide) (Nat.le_of_ble_eq_true rfl) dX10_number_30 (fun y30 V30 H locs p30 X => ?_)
          obtain ⟨p30, z30⟩ := p30
          subst V30
          refine sZeq (tgt := 77) hx hb (rfl : Int32.toInt y30 = _) dX10_number_33 (by decide) (fun c33 => ?_) (fun c33 => ?_)
          · skip
            refine lv_iconst (v := 1) hx hb dX10_number_77 (by decide) ?_
            exact srI G X (rfl) dX10_number_78 (by exact ⟨hS, hk, fun _ h => by omega, Or.inr rfl⟩)
          · skip
            refine lv_aload_n hx hb dX10_number_36 rfl (lv_at hl 1 rfl) ?_
            refine sgR G X 0 23 rfl rfl fl_X10_55 dX10_number_37 ?_
            refine lv_iload_n hx hb dX10_number_40 rfl (lv_at hl 2 rfl) ?_
            refine lv_bipush (v := 10) hx hb dX10_number_41 (by decide) ?_
            refine lv_aload_n hx hb dX10_number_43 rfl (lv_at hl 1 rfl) ?_
            refine sgR G X 0 23 rfl rfl fl_X10_55 dX10_number_44 ?_
            refine lv_iload_n hx hb dX10_number_47 rfl (lv_at hl 2 rfl) ?_
            refine sld G X 16 rfl (i32_in (by omega) (by omega)) dX10_number_48 ?_
            refine lv_topi (fun x48 e48 => ?_)
            refine lv_imul hx hb dX10_number_49 ?_
            refine lv_topi (fun x49 e49 => ?_)
            refine lv_aload_n hx hb dX10_number_50 rfl (lv_at hl 1 rfl) ?_
            refine sgR G X 0 2 rfl rfl fl_X10_7 dX10_number_51 ?_
            refine lv_aload_n hx hb dX10_number_54 rfl (lv_at hl 1 rfl) ?_
            refine lv_dup hx hb dX10_number_55 rfl ?_
            refine sgI G X 0 22 rfl rfl fl_X10_75 dX10_number_56 ?_
            refine lv_dup_x1 hx hb dX10_number_59 rfl rfl ?_
            refine lv_iconst (v := 1) hx hb dX10_number_60 (by decide) ?_
            refine lv_iadd hx hb dX10_number_61 ?_
            refine lv_topi (fun x61 e61 => ?_)
            refine spI G X 0 22 rfl rfl fp_X10_75 dX10_number_62 (fun H locs X => ?_)
            have hd : 48 ≤ y27.toInt ∧ y27.toInt ≤ 57 := by omega
            have hz : (-1 : Int32).toInt = -1 := by decide
            have hlt2 : (Y 0 22).toInt < (Y 0 1).toInt ∧ y27 = Y 1 (Y 0 22).toNatClampNeg := by
                rcases p27 with h | h
                · exact h
                · exfalso; rw [h.2, hz] at hd; omega
            have hlt := hlt2.1
            refine sld G X 1 rfl (i32_in haY.1 (by omega)) dX10_number_65 ?_
            refine lv_topi (fun x65 e65 => ?_)
            refine lv_iadd hx hb dX10_number_66 ?_
            refine lv_topi (fun x66 e66 => ?_)
            refine lv_bipush (v := 48) hx hb dX10_number_67 (by decide) ?_
            refine lv_isub hx hb dX10_number_69 ?_
            refine lv_topi (fun x69 e69 => ?_)
            refine sst G X 16 rfl (i32_in (by omega) (by omega)) dX10_number_70 (fun H locs X => ?_)
            have t65 : x65.toInt = y27.toInt := by rw [hlt2.2, e65]; rfl
            have t48 : x48.toInt = (Y 16 i.toNatClampNeg).toInt := by rw [e48]
            have t49 := m_ten e49 (by omega)
            have t66 := i32_adde e66 (by omega) (by omega)
            have z48 : (48 : Int32).toInt = 48 := by decide
            have t69 := i32_sube e69 (by omega) (by omega)
            obtain ⟨x71, e71⟩ : ∃ y : Int32, y = j + (1) := ⟨_, rfl⟩
            refine lv_iinc (v := x71) (lv' := [(3, .int x71), (0, .ref (a 0)), (1, .int i), (2, .int n)]) hx hb dX10_number_71 hl (k := 0) rfl (by rw [e71]; rfl) (by decide) rfl (fun ls hl => ?_)
            refine lv_goto (tgt := 21) hx hb dX10_number_74 (by decide) ?_
            exact ih21 x71 (sUp (sUp Y 0 (upd (Y 0) 22 x61)) 16 (upd ((sUp Y 0 (upd (Y 0) 22 x61)) 16) i.toNatClampNeg x69)) _ _ _ (by have t71 := i32_i e71 (by omega); omega) ((hS.step hlt e61).num (by omega)) (fun j hj => by rw [sUp_s, upd_n hj]; exact hk j hj) (by rw [sUp_s, upd_s]; have t71 := i32_i e71 (by omega); omega) (by have t71 := i32_i e71 (by omega); omega) X (lv_sub hl [0, 1, 2, 3] rfl)
    exact L21 _ 0 (sUp V 16 (upd (V 16) i.toNatClampNeg 0)) _ _ _ (by show (0 : Int) ≤ _; omega) ((mS.rf hm hat).num (by decide)) (fun j hj => by rw [sUp_s]; exact upd_n hj) (Or.inl ⟨rfl, by rw [sUp_s, upd_s]; rfl⟩) (Nat.lt_succ_self _) X (lv_sub hl [0, 1, 2, 3] rfl)
  · skip
    refine lv_iconst (v := 0) hx hb dX10_number_10 (by decide) ?_
    exact srI G X (rfl) dX10_number_11 (by exact ⟨mS.rf hm hat, fun _ _ => rfl, fun h => absurd h (by decide), Or.inl rfl⟩)
def q_m_toldOf (V : sV) : Int32 → sV → Prop := fun x V1 => True ∧ V1 = V
set_option maxRecDepth 100000 in
set_option maxHeartbeats 4000000 in
theorem k_m_toldOf {l : Launch} {D : va_G} {cI : ClassId} {a : Nat → Nat} (ha : sInj SM a) (V : sV) (hm : mI V) : sMI l D cI SM a V yX10_toldOf cX10_toldOf 3 .int 1 [.ref (a 0)] (q_m_toldOf V) := by
  refine sMIof ha (by decide +kernel) (Nat.le_of_ble_eq_true rfl) ?_
  intro p e s m below meth c ls G X hl
  obtain ⟨hx, hb, hml, hown, hts, hlocks, hr, hK⟩ := id G
  have hl : lv_has ls 3 [(0, .ref (a 0))] := hl
  obtain ⟨mf0, mf1, mf3, mf11, mf14, mf15⟩ := hm.1
  refine lv_iconst (v := 1) hx hb dX10_toldOf_0 (by decide) ?_
  refine lv_istore_n (lv' := [(1, .int 1), (0, .ref (a 0))]) hx hb dX10_toldOf_1 rfl hl (by decide) rfl (fun ls hl => ?_)
  refine lv_iconst (v := 0) hx hb dX10_toldOf_2 (by decide) ?_
  refine lv_istore_n (lv' := [(2, .int 0), (1, .int 1), (0, .ref (a 0))]) hx hb dX10_toldOf_3 rfl hl (by decide) rfl (fun ls hl => ?_)
  have L4 : ∀ (fu4 : Nat) (i : Int32) (z : Int32) (H : Heap) (locs : List Loc) (ls : Array Slot), (0 ≤ i.toInt) → (((V 0 3).toInt - i.toInt).toNat) < fu4 → sWS D cI SM a V s.heap H locs → lv_has ls 3 [(2, .int i), (1, .int z), (0, .ref (a 0))] → W p l e (rmD 1) s m ([.ref (a 0)] : List Value).toArray below meth c H locs 0 0 (MQ below (va_Qi (q_m_toldOf V) (fun V1 t => va_P D vwCl (sWd cI SM a V1) t.heap) (sA SM a s.heap.size)) ([.ref (a 0)] : List Value).toArray s 0 0 (sA SM a s.heap.size)) (F0 m 4 ls []) := by
    intro fu4
    induction fu4 with
    | zero => intro i z H locs ls hi hm4; exact absurd hm4 (Nat.not_lt_zero _)
    | succ fu4 ih4 =>
      intro i z H locs ls hi hm4 X hl
      refine lv_iload_n hx hb dX10_toldOf_4 rfl (lv_at hl 0 rfl) ?_
      refine lv_aload_n hx hb dX10_toldOf_5 rfl (lv_at hl 2 rfl) ?_
      refine sgI G X 0 3 rfl rfl fl_X10_65 dX10_toldOf_6 ?_
      refine sIge (tgt := 40) hx hb (rfl : Int32.toInt i = _) (rfl : Int32.toInt (V 0 3) = _) dX10_toldOf_9 (by decide) (fun c9 => ?_) (fun c9 => ?_)
      · skip
        refine lv_iload_n hx hb dX10_toldOf_40 rfl (lv_at hl 1 rfl) ?_
        exact srI G X (rfl) dX10_toldOf_41 (by exact ⟨trivial, rfl⟩)
      · skip
        refine lv_iload_n hx hb dX10_toldOf_12 rfl (lv_at hl 1 rfl) ?_
        refine lv_aload_n hx hb dX10_toldOf_13 rfl (lv_at hl 2 rfl) ?_
        refine sgR G X 0 4 rfl rfl fl_X10_13 dX10_toldOf_14 ?_
        refine lv_iload_n hx hb dX10_toldOf_17 rfl (lv_at hl 0 rfl) ?_
        refine sld G X 2 rfl (i32_in (by omega) (by omega)) dX10_toldOf_18 ?_
        refine lv_topi (fun x18 e18 => ?_)
        refine lv_aload_n hx hb dX10_toldOf_19 rfl (lv_at hl 2 rfl) ?_
        refine sgR G X 0 5 rfl rfl fl_X10_16 dX10_toldOf_20 ?_
        refine lv_iload_n hx hb dX10_toldOf_23 rfl (lv_at hl 0 rfl) ?_
        refine sld G X 3 rfl (i32_in (by omega) (by omega)) dX10_toldOf_24 ?_
        refine lv_topi (fun x24 e24 => ?_)
        refine sMax hx hb hml hl.1 hown hts mm_X10_100 (by decide) (Nat.le_of_ble_eq_true rfl) dX10_toldOf_25 (fun x25 e25 => ?_)
        refine lv_iconst (v := 1) hx hb dX10_toldOf_28 (by decide) ?_
        refine lv_iadd hx hb dX10_toldOf_29 ?_
        refine lv_topi (fun x29 e29 => ?_)
        refine sMax hx hb hml hl.1 hown hts mm_X10_100 (by decide) (Nat.le_of_ble_eq_true rfl) dX10_toldOf_30 (fun x30 e30 => ?_)
        refine lv_istore_n (lv' := [(1, .int x30), (2, .int i), (0, .ref (a 0))]) hx hb dX10_toldOf_33 rfl hl (by decide) rfl (fun ls hl => ?_)
        obtain ⟨x34, e34⟩ : ∃ y : Int32, y = i + (1) := ⟨_, rfl⟩
        refine lv_iinc (v := x34) (lv' := [(2, .int x34), (1, .int x30), (0, .ref (a 0))]) hx hb dX10_toldOf_34 hl (k := 1) rfl (by rw [e34]; rfl) (by decide) rfl (fun ls hl => ?_)
        refine lv_goto (tgt := 4) hx hb dX10_toldOf_37 (by decide) ?_
        exact ih4 x34 x30 _ _ _ (by rw [i32_i e34 (by have := i32_hi (V 0 3); omega)]; omega) (by rw [i32_i e34 (by have := i32_hi (V 0 3); omega)]; omega) X (lv_sub hl [0, 1, 2] rfl)
  exact L4 _ 0 1 _ _ _ (by decide) (Nat.lt_succ_self _) X (lv_sub hl [0, 1, 2] rfl)
def q_m_comes (V : sV) (k : Int32) : Int32 → sV → Prop := fun x V1 => mI V1 ∧ sAg [0, 2, 3, 4, 5, 6, 7, 8, 9] V V1 ∧ (∀ j, j ≠ 0 → j ≠ 3 → j ≠ 11 → V1 0 j = V 0 j) ∧ (V 0 11).toInt ≤ (V1 0 11).toInt ∧ (x.toInt = 0 ∨ x.toInt = 1) ∧ (x.toInt = 1 → k.toInt < 0 ∨ 2 < k.toInt → (V 0 11).toInt < (V1 0 11).toInt)
set_option maxRecDepth 100000 in
set_option maxHeartbeats 4000000 in
theorem k_m_comes {l : Launch} {D : va_G} {cI : ClassId} {a : Nat → Nat} (ha : sInj SM a) (V : sV) (k : Int32) (hm : mI V) (h2 : k.toInt = 2 → (V 16 1).toInt < 7 ∧ (V 16 3).toInt ≤ 9) : sMI l D cI SM a V yX10_comes cX10_comes 3 .boolean 2 [.ref (a 0), .int k] (q_m_comes V k) := by
  refine sMIof ha (by decide +kernel) (Nat.le_of_ble_eq_true rfl) ?_
  intro p e s m below meth c ls G X hl
  obtain ⟨hx, hb, hml, hown, hts, hlocks, hr, hK⟩ := id G
  have hl : lv_has ls 3 [(0, .ref (a 0)), (1, .int k)] := hl
  obtain ⟨mf0, mf1, mf3, mf11, mf14, mf15⟩ := hm.1
  have w0 := hm.2.2.2.2.1 0 (by decide)
  have w1 := hm.2.2.2.2.1 1 (by decide)
  have w2 := hm.2.2.2.2.1 2 (by decide)
  have w3 := hm.2.2.2.2.1 3 (by decide)
  refine lv_iload_n hx hb dX10_comes_0 rfl (lv_at hl 1 rfl) ?_
  by_cases hs1 : Int32.toInt k < 0 ∨ 2 < Int32.toInt k
  · refine lv_tableOut (tgt := 225) hx hb dX10_comes_1 hs1 (by decide) ?_
    refine lv_aload_n hx hb dX10_comes_225 rfl (lv_at hl 0 rfl) ?_
    refine sgR G X 0 23 rfl rfl fl_X10_55 dX10_comes_226 ?_
    refine lv_iconst (v := 0) hx hb dX10_comes_229 (by decide) ?_
    refine sld G X 16 rfl (i32_in (by decide) (by decide)) dX10_comes_230 ?_
    refine sTop (y := V 16 0) (by rw [show Int32.toNatClampNeg 0 = 0 from by decide]; try rfl) ?_
    refine lv_topi (fun x230 e230 => ?_)
    refine lv_bipush (v := 40) hx hb dX10_comes_231 (by decide) ?_
    refine sIgt (tgt := 265) hx hb (rfl : Int32.toInt x230 = _) (by decide : (40 : Int32).toInt = 40) dX10_comes_233 (by decide) (fun c233 => ?_) (fun c233 => ?_)
    · skip
      refine lv_iconst (v := 0) hx hb dX10_comes_265 (by decide) ?_
      exact srI G X (rfl) dX10_comes_266 (by exact ⟨hm, sAg.rf, fun _ _ _ _ => rfl, Int.le_refl _, Or.inl rfl, fun h => absurd h (by decide)⟩)
    · skip
      refine lv_aload_n hx hb dX10_comes_236 rfl (lv_at hl 0 rfl) ?_
      refine sgR G X 0 23 rfl rfl fl_X10_55 dX10_comes_237 ?_
      refine lv_iconst (v := 1) hx hb dX10_comes_240 (by decide) ?_
      refine sld G X 16 rfl (i32_in (by decide) (by decide)) dX10_comes_241 ?_
      refine sTop (y := V 16 1) (by rw [show Int32.toNatClampNeg 1 = 1 from by decide]; try rfl) ?_
      refine lv_topi (fun x241 e241 => ?_)
      refine lv_bipush (v := 20) hx hb dX10_comes_242 (by decide) ?_
      refine sIgt (tgt := 265) hx hb (rfl : Int32.toInt x241 = _) (by decide : (20 : Int32).toInt = 20) dX10_comes_244 (by decide) (fun c244 => ?_) (fun c244 => ?_)
      · skip
        refine lv_iconst (v := 0) hx hb dX10_comes_265 (by decide) ?_
        exact srI G X (rfl) dX10_comes_266 (by exact ⟨hm, sAg.rf, fun _ _ _ _ => rfl, Int.le_refl _, Or.inl rfl, fun h => absurd h (by decide)⟩)
      · skip
        refine lv_aload_n hx hb dX10_comes_247 rfl (lv_at hl 0 rfl) ?_
        refine sgR G X 0 23 rfl rfl fl_X10_55 dX10_comes_248 ?_
        refine lv_iconst (v := 2) hx hb dX10_comes_251 (by decide) ?_
        refine sld G X 16 rfl (i32_in (by decide) (by decide)) dX10_comes_252 ?_
        refine sTop (y := V 16 2) (by rw [show Int32.toNatClampNeg 2 = 2 from by decide]; try rfl) ?_
        refine lv_topi (fun x252 e252 => ?_)
        refine lv_iconst (v := 3) hx hb dX10_comes_253 (by decide) ?_
        refine sIgt (tgt := 265) hx hb (rfl : Int32.toInt x252 = _) (by decide : (3 : Int32).toInt = 3) dX10_comes_254 (by decide) (fun c254 => ?_) (fun c254 => ?_)
        · skip
          refine lv_iconst (v := 0) hx hb dX10_comes_265 (by decide) ?_
          exact srI G X (rfl) dX10_comes_266 (by exact ⟨hm, sAg.rf, fun _ _ _ _ => rfl, Int.le_refl _, Or.inl rfl, fun h => absurd h (by decide)⟩)
        · skip
          refine lv_aload_n hx hb dX10_comes_257 rfl (lv_at hl 0 rfl) ?_
          refine sgI G X 0 11 rfl rfl fl_X10_113 dX10_comes_258 ?_
          refine lv_iconst (v := 4) hx hb dX10_comes_261 (by decide) ?_
          refine sIne (tgt := 267) hx hb (rfl : Int32.toInt (V 0 11) = _) (by decide : (4 : Int32).toInt = 4) dX10_comes_262 (by decide) (fun c262 => ?_) (fun c262 => ?_)
          · skip
            refine lv_iconst (v := 0) hx hb dX10_comes_267 (by decide) ?_
            have u230 : x230.toInt = (V 16 0).toInt := by rw [e230]
            have u241 : x241.toInt = (V 16 1).toInt := by rw [e241]
            refine lv_istore_n (lv' := [(2, .int 0), (0, .ref (a 0)), (1, .int k)]) hx hb dX10_comes_268 rfl hl (by decide) rfl (fun ls hl => ?_)
            have L269 : ∀ (fu269 : Nat) (i : Int32) (Y : sV) (H : Heap) (locs : List Loc) (ls : Array Slot), (0 ≤ i.toInt) → (mI Y) → (sAg [9] V Y) → ((3 - i.toInt).toNat) < fu269 → sWS D cI SM a Y s.heap H locs → lv_has ls 3 [(2, .int i), (0, .ref (a 0)), (1, .int k)] → W p l e (rmD 2) s m ([.ref (a 0), .int k] : List Value).toArray below meth c H locs 0 0 (MQ below (va_Qi (q_m_comes V k) (fun V1 t => va_P D vwCl (sWd cI SM a V1) t.heap) (sA SM a s.heap.size)) ([.ref (a 0), .int k] : List Value).toArray s 0 0 (sA SM a s.heap.size)) (F0 m 269 ls []) := by
              intro fu269
              induction fu269 with
              | zero => intro i Y H locs ls hi hmY hA hm269; exact absurd hm269 (Nat.not_lt_zero _)
              | succ fu269 ih269 =>
                intro i Y H locs ls hi hmY hA hm269 X hl
                have hY0 : Y 0 = V 0 := hA 0 (by decide)
                have hY11 : (Y 0 11).toInt = (V 0 11).toInt := by rw [hY0]
                refine lv_iload_n hx hb dX10_comes_269 rfl (lv_at hl 0 rfl) ?_
                refine lv_iconst (v := 3) hx hb dX10_comes_270 (by decide) ?_
                refine sIge (tgt := 299) hx hb (rfl : Int32.toInt i = _) (by decide : (3 : Int32).toInt = 3) dX10_comes_271 (by decide) (fun c271 => ?_) (fun c271 => ?_)
                · skip
                  refine lv_aload_n hx hb dX10_comes_299 rfl (lv_at hl 1 rfl) ?_
                  refine lv_dup hx hb dX10_comes_300 rfl ?_
                  refine sgI G X 0 11 rfl rfl fl_X10_113 dX10_comes_301 ?_
                  refine lv_iconst (v := 1) hx hb dX10_comes_304 (by decide) ?_
                  refine lv_iadd hx hb dX10_comes_305 ?_
                  refine lv_topi (fun x305 e305 => ?_)
                  refine spI G X 0 11 rfl rfl fp_X10_113 dX10_comes_306 (fun H locs X => ?_)
                  refine lv_iconst (v := 1) hx hb dX10_comes_309 (by decide) ?_
                  exact srI G X (rfl) dX10_comes_310 (by (have t305 : x305.toInt = (V 0 11).toInt + 1 := (i32_i e305 (by omega)).trans (by rw [hY0]); exact ⟨hmY.agF (sAg.rf.up (by decide) : sAg [0] Y _) (by decide) (mF_11 hmY.1 (by omega)), (hA.mono (by decide)).up (by decide), fun j _ _ h11 => by rw [sUp_s, upd_n h11, hY0], by rw [sUp_s, upd_s]; omega, Or.inr rfl, fun _ _ => by rw [sUp_s, upd_s]; omega⟩))
                · skip
                  refine lv_aload_n hx hb dX10_comes_274 rfl (lv_at hl 1 rfl) ?_
                  refine sgR G X 0 12 rfl rfl fl_X10_34 dX10_comes_275 ?_
                  refine lv_iconst (v := 3) hx hb dX10_comes_278 (by decide) ?_
                  refine lv_aload_n hx hb dX10_comes_279 rfl (lv_at hl 1 rfl) ?_
                  refine sgI G X 0 11 rfl rfl fl_X10_113 dX10_comes_280 ?_
                  refine lv_imul hx hb dX10_comes_283 ?_
                  refine lv_topi (fun x283 e283 => ?_)
                  refine lv_iload_n hx hb dX10_comes_284 rfl (lv_at hl 0 rfl) ?_
                  refine lv_iadd hx hb dX10_comes_285 ?_
                  refine lv_topi (fun x285 e285 => ?_)
                  refine lv_aload_n hx hb dX10_comes_286 rfl (lv_at hl 1 rfl) ?_
                  refine sgR G X 0 23 rfl rfl fl_X10_55 dX10_comes_287 ?_
                  refine lv_iload_n hx hb dX10_comes_290 rfl (lv_at hl 0 rfl) ?_
                  refine sld G X 16 rfl (i32_in hi (by omega)) dX10_comes_291 ?_
                  refine lv_topi (fun x291 e291 => ?_)
                  have t280 : x283.toInt = 3 * (V 0 11).toInt := by rw [m_3i e283 (by omega), hY0]
                  have t285 := i32_adde e285 (by omega) (by omega)
                  have b285 := i32_cl (x := x285) (by omega)
                  have bi := i32_cl hi
                  have b11 : 0 ≤ (V 0 11).toInt := by omega
                  have q291 : x291 = V 16 i.toNatClampNeg := by rw [show x291 = Y 16 i.toNatClampNeg from e291, hA 16 (by decide)]
                  refine sst G X 9 rfl (i32_in (by omega) (by omega)) dX10_comes_292 (fun H locs X => ?_)
                  have hT : mT (upd (Y 9) x285.toNatClampNeg x291) := mT_upd hmY.2.2.2.1 (fun w hw e => by rw [q291, show i.toNatClampNeg = 0 from by omega]; omega) (fun w hw e => by rw [q291, show i.toNatClampNeg = 1 from by omega]; omega)
                  obtain ⟨x293, e293⟩ : ∃ y : Int32, y = i + (1) := ⟨_, rfl⟩
                  refine lv_iinc (v := x293) (lv' := [(2, .int x293), (0, .ref (a 0)), (1, .int k)]) hx hb dX10_comes_293 hl (k := 0) rfl (by rw [e293]; rfl) (by decide) rfl (fun ls hl => ?_)
                  refine lv_goto (tgt := 269) hx hb dX10_comes_296 (by decide) ?_
                  exact ih269 x293 (sUp Y 9 (upd (Y 9) x285.toNatClampNeg x291)) _ _ _ (by rw [i32_i e293 (by omega)]; omega) (hmY.t9 (sAg.rf.up (by decide)) (by rw [sUp_s]; exact hT)) (hA.up (by decide)) (by rw [i32_i e293 (by omega)]; omega) X (lv_sub hl [0, 1, 2] rfl)
            exact L269 _ 0 V _ _ _ (by decide) (hm) (sAg.rf) (Nat.lt_succ_self _) X (lv_sub hl [0, 1, 2] rfl)
          · skip
            refine lv_iconst (v := 0) hx hb dX10_comes_265 (by decide) ?_
            exact srI G X (rfl) dX10_comes_266 (by exact ⟨hm, sAg.rf, fun _ _ _ _ => rfl, Int.le_refl _, Or.inl rfl, fun h => absurd h (by decide)⟩)
  by_cases hs1_0 : Int32.toInt k = 0
  · refine lv_tableIn (tgt := 28) (off := 27) hx hb dX10_comes_1 (by rw [hs1_0]; decide) (by rw [hs1_0]; decide) (by rw [hs1_0]; rfl) (by decide) ?_
    refine lv_aload_n hx hb dX10_comes_28 rfl (lv_at hl 0 rfl) ?_
    refine sgR G X 0 23 rfl rfl fl_X10_55 dX10_comes_29 ?_
    refine lv_iconst (v := 0) hx hb dX10_comes_32 (by decide) ?_
    refine sld G X 16 rfl (i32_in (by decide) (by decide)) dX10_comes_33 ?_
    refine sTop (y := V 16 0) (by rw [show Int32.toNatClampNeg 0 = 0 from by decide]; try rfl) ?_
    refine lv_topi (fun x33 e33 => ?_)
    refine lv_bipush (v := 6) hx hb dX10_comes_34 (by decide) ?_
    refine sIgt (tgt := 52) hx hb (rfl : Int32.toInt x33 = _) (by decide : (6 : Int32).toInt = 6) dX10_comes_36 (by decide) (fun c36 => ?_) (fun c36 => ?_)
    · skip
      refine lv_iconst (v := 0) hx hb dX10_comes_52 (by decide) ?_
      exact srI G X (rfl) dX10_comes_53 (by exact ⟨hm, sAg.rf, fun _ _ _ _ => rfl, Int.le_refl _, Or.inl rfl, fun h => absurd h (by decide)⟩)
    · skip
      refine lv_aload_n hx hb dX10_comes_39 rfl (lv_at hl 0 rfl) ?_
      refine sgR G X 0 23 rfl rfl fl_X10_55 dX10_comes_40 ?_
      refine lv_iconst (v := 0) hx hb dX10_comes_43 (by decide) ?_
      refine sld G X 16 rfl (i32_in (by decide) (by decide)) dX10_comes_44 ?_
      refine sTop (y := V 16 0) (by rw [show Int32.toNatClampNeg 0 = 0 from by decide]; try rfl) ?_
      refine lv_topi (fun x44 e44 => ?_)
      refine lv_aload_n hx hb dX10_comes_45 rfl (lv_at hl 0 rfl) ?_
      refine scI (ci := 9) (As := []) (rest := [.int x44]) G X (k_m_toldOf ha V (by assumption)) iy_X10_toldOf ml_X10_106 rfl rfl rfl rfl hl.1 (by decide) (by decide) (Nat.le_of_ble_eq_true rfl) dX10_comes_46 (fun y46 V46 H locs p46 X => ?_)
      obtain ⟨p46, z46⟩ := p46
      subst V46
      refine sIge (tgt := 54) hx hb (rfl : Int32.toInt x44 = _) (rfl : Int32.toInt y46 = _) dX10_comes_49 (by decide) (fun c49 => ?_) (fun c49 => ?_)
      · skip
        refine lv_aload_n hx hb dX10_comes_54 rfl (lv_at hl 0 rfl) ?_
        refine lv_aload_n hx hb dX10_comes_55 rfl (lv_at hl 0 rfl) ?_
        refine sgR G X 0 23 rfl rfl fl_X10_55 dX10_comes_56 ?_
        refine lv_iconst (v := 0) hx hb dX10_comes_59 (by decide) ?_
        refine sld G X 16 rfl (i32_in (by decide) (by decide)) dX10_comes_60 ?_
        refine sTop (y := V 16 0) (by rw [show Int32.toNatClampNeg 0 = 0 from by decide]; try rfl) ?_
        refine lv_topi (fun x60 e60 => ?_)
        have u33 : x33.toInt = (V 16 0).toInt := by rw [e33]
        have u60 : x60.toInt = (V 16 0).toInt := by rw [e60]
        refine spI G X 0 0 rfl rfl fp_X10_61 dX10_comes_61 (fun H locs X => ?_)
        refine lv_iconst (v := 1) hx hb dX10_comes_64 (by decide) ?_
        exact srI G X (rfl) dX10_comes_65 (by exact ⟨hm.agF (sAg.rf.up (by decide) : sAg [0] V _) (by decide) (mF_0 hm.1 (by omega)), sAg.rf.up (by decide), fun j h0 _ _ => by rw [sUp_s]; exact upd_n h0, by rw [sUp_s]; exact Int.le_refl _, Or.inr rfl, fun _ h => by omega⟩)
      · skip
        refine lv_iconst (v := 0) hx hb dX10_comes_52 (by decide) ?_
        exact srI G X (rfl) dX10_comes_53 (by exact ⟨hm, sAg.rf, fun _ _ _ _ => rfl, Int.le_refl _, Or.inl rfl, fun h => absurd h (by decide)⟩)
  by_cases hs1_1 : Int32.toInt k = 1
  · refine lv_tableIn (tgt := 66) (off := 65) hx hb dX10_comes_1 (by rw [hs1_1]; decide) (by rw [hs1_1]; decide) (by rw [hs1_1]; rfl) (by decide) ?_
    refine lv_aload_n hx hb dX10_comes_66 rfl (lv_at hl 0 rfl) ?_
    refine sgR G X 0 23 rfl rfl fl_X10_55 dX10_comes_67 ?_
    refine lv_iconst (v := 0) hx hb dX10_comes_70 (by decide) ?_
    refine sld G X 16 rfl (i32_in (by decide) (by decide)) dX10_comes_71 ?_
    refine sTop (y := V 16 0) (by rw [show Int32.toNatClampNeg 0 = 0 from by decide]; try rfl) ?_
    refine lv_topi (fun x71 e71 => ?_)
    refine lv_aload_n hx hb dX10_comes_72 rfl (lv_at hl 0 rfl) ?_
    refine sgI G X 0 0 rfl rfl fl_X10_61 dX10_comes_73 ?_
    refine sIge (tgt := 116) hx hb (rfl : Int32.toInt x71 = _) (rfl : Int32.toInt (V 0 0) = _) dX10_comes_76 (by decide) (fun c76 => ?_) (fun c76 => ?_)
    · skip
      refine lv_iconst (v := 0) hx hb dX10_comes_116 (by decide) ?_
      exact srI G X (rfl) dX10_comes_117 (by exact ⟨hm, sAg.rf, fun _ _ _ _ => rfl, Int.le_refl _, Or.inl rfl, fun h => absurd h (by decide)⟩)
    · skip
      refine lv_aload_n hx hb dX10_comes_79 rfl (lv_at hl 0 rfl) ?_
      refine sgR G X 0 23 rfl rfl fl_X10_55 dX10_comes_80 ?_
      refine lv_iconst (v := 1) hx hb dX10_comes_83 (by decide) ?_
      refine sld G X 16 rfl (i32_in (by decide) (by decide)) dX10_comes_84 ?_
      refine sTop (y := V 16 1) (by rw [show Int32.toNatClampNeg 1 = 1 from by decide]; try rfl) ?_
      refine lv_topi (fun x84 e84 => ?_)
      refine lv_aload_n hx hb dX10_comes_85 rfl (lv_at hl 0 rfl) ?_
      refine sgI G X 0 0 rfl rfl fl_X10_61 dX10_comes_86 ?_
      refine sIge (tgt := 116) hx hb (rfl : Int32.toInt x84 = _) (rfl : Int32.toInt (V 0 0) = _) dX10_comes_89 (by decide) (fun c89 => ?_) (fun c89 => ?_)
      · skip
        refine lv_iconst (v := 0) hx hb dX10_comes_116 (by decide) ?_
        exact srI G X (rfl) dX10_comes_117 (by exact ⟨hm, sAg.rf, fun _ _ _ _ => rfl, Int.le_refl _, Or.inl rfl, fun h => absurd h (by decide)⟩)
      · skip
        refine lv_aload_n hx hb dX10_comes_92 rfl (lv_at hl 0 rfl) ?_
        refine sgR G X 0 23 rfl rfl fl_X10_55 dX10_comes_93 ?_
        refine lv_iconst (v := 0) hx hb dX10_comes_96 (by decide) ?_
        refine sld G X 16 rfl (i32_in (by decide) (by decide)) dX10_comes_97 ?_
        refine sTop (y := V 16 0) (by rw [show Int32.toNatClampNeg 0 = 0 from by decide]; try rfl) ?_
        refine lv_topi (fun x97 e97 => ?_)
        refine lv_aload_n hx hb dX10_comes_98 rfl (lv_at hl 0 rfl) ?_
        refine sgR G X 0 23 rfl rfl fl_X10_55 dX10_comes_99 ?_
        refine lv_iconst (v := 1) hx hb dX10_comes_102 (by decide) ?_
        refine sld G X 16 rfl (i32_in (by decide) (by decide)) dX10_comes_103 ?_
        refine sTop (y := V 16 1) (by rw [show Int32.toNatClampNeg 1 = 1 from by decide]; try rfl) ?_
        refine lv_topi (fun x103 e103 => ?_)
        refine sIeq (tgt := 116) hx hb (rfl : Int32.toInt x97 = _) (rfl : Int32.toInt x103 = _) dX10_comes_104 (by decide) (fun c104 => ?_) (fun c104 => ?_)
        · skip
          refine lv_iconst (v := 0) hx hb dX10_comes_116 (by decide) ?_
          exact srI G X (rfl) dX10_comes_117 (by exact ⟨hm, sAg.rf, fun _ _ _ _ => rfl, Int.le_refl _, Or.inl rfl, fun h => absurd h (by decide)⟩)
        · skip
          refine lv_aload_n hx hb dX10_comes_107 rfl (lv_at hl 0 rfl) ?_
          refine sgI G X 0 3 rfl rfl fl_X10_65 dX10_comes_108 ?_
          refine lv_bipush (v := 10) hx hb dX10_comes_111 (by decide) ?_
          refine sIne (tgt := 118) hx hb (rfl : Int32.toInt (V 0 3) = _) (by decide : (10 : Int32).toInt = 10) dX10_comes_113 (by decide) (fun c113 => ?_) (fun c113 => ?_)
          · skip
            refine lv_aload_n hx hb dX10_comes_118 rfl (lv_at hl 0 rfl) ?_
            refine lv_aload_n hx hb dX10_comes_119 rfl (lv_at hl 0 rfl) ?_
            refine sgR G X 0 23 rfl rfl fl_X10_55 dX10_comes_120 ?_
            refine lv_iconst (v := 0) hx hb dX10_comes_123 (by decide) ?_
            refine sld G X 16 rfl (i32_in (by decide) (by decide)) dX10_comes_124 ?_
            refine sTop (y := V 16 0) (by rw [show Int32.toNatClampNeg 0 = 0 from by decide]; try rfl) ?_
            refine lv_topi (fun x124 e124 => ?_)
            refine lv_aload_n hx hb dX10_comes_125 rfl (lv_at hl 0 rfl) ?_
            refine sgR G X 0 23 rfl rfl fl_X10_55 dX10_comes_126 ?_
            refine lv_iconst (v := 1) hx hb dX10_comes_129 (by decide) ?_
            refine sld G X 16 rfl (i32_in (by decide) (by decide)) dX10_comes_130 ?_
            refine sTop (y := V 16 1) (by rw [show Int32.toNatClampNeg 1 = 1 from by decide]; try rfl) ?_
            refine lv_topi (fun x130 e130 => ?_)
            refine lv_bipush (v := 7) hx hb dX10_comes_131 (by decide) ?_
            refine lv_aload_n hx hb dX10_comes_133 rfl (lv_at hl 0 rfl) ?_
            refine sgR G X 0 23 rfl rfl fl_X10_55 dX10_comes_134 ?_
            refine lv_iconst (v := 2) hx hb dX10_comes_137 (by decide) ?_
            refine sld G X 16 rfl (i32_in (by decide) (by decide)) dX10_comes_138 ?_
            refine sTop (y := V 16 2) (by rw [show Int32.toNatClampNeg 2 = 2 from by decide]; try rfl) ?_
            refine lv_topi (fun x138 e138 => ?_)
            refine lv_iconst (v := 0) hx hb dX10_comes_139 (by decide) ?_
            refine lv_iconst (v := 0) hx hb dX10_comes_140 (by decide) ?_
            refine lv_iconst (v := 0) hx hb dX10_comes_141 (by decide) ?_
            have u71 : x71.toInt = (V 16 0).toInt := by rw [e71]
            have u84 : x84.toInt = (V 16 1).toInt := by rw [e84]
            have u124 : x124.toInt = (V 16 0).toInt := by rw [e124]
            have u130 : x130.toInt = (V 16 1).toInt := by rw [e130]
            have g2 : (7 : Int32).toInt = 7 → 0 ≤ x130.toInt ∧ x130.toInt ≤ 5 := fun _ => by omega
            refine scV (ci := 9) (As := [.int x124, .int x130, .int 7, .int x138, .int 0, .int 0, .int 0]) (rest := []) G X (k_m_put ha V x124 x130 7 x138 0 0 0 (by assumption) (by omega) (by first | assumption | decide | omega) (by first | assumption | decide | omega) (by first | assumption | decide | omega)) iy_X10_put ml_X10_109 rfl rfl rfl rfl hl.1 (by decide) (by decide) (Nat.le_of_ble_eq_true rfl) dX10_comes_142 (fun V142 H locs p142 X => ?_)
            refine lv_iconst (v := 1) hx hb dX10_comes_145 (by decide) ?_
            exact srI G X (rfl) dX10_comes_146 (by exact ⟨p142.1, p142.2.1.mono (by decide), fun j _ h3 _ => by rw [p142.2.2.1]; exact upd_n h3, by rw [p142.2.2.1]; exact Int.le_refl _, Or.inr rfl, fun _ h => by omega⟩)
          · skip
            refine lv_iconst (v := 0) hx hb dX10_comes_116 (by decide) ?_
            exact srI G X (rfl) dX10_comes_117 (by exact ⟨hm, sAg.rf, fun _ _ _ _ => rfl, Int.le_refl _, Or.inl rfl, fun h => absurd h (by decide)⟩)
  by_cases hs1_2 : Int32.toInt k = 2
  · refine lv_tableIn (tgt := 147) (off := 146) hx hb dX10_comes_1 (by rw [hs1_2]; decide) (by rw [hs1_2]; decide) (by rw [hs1_2]; rfl) (by decide) ?_
    refine lv_aload_n hx hb dX10_comes_147 rfl (lv_at hl 0 rfl) ?_
    refine sgR G X 0 23 rfl rfl fl_X10_55 dX10_comes_148 ?_
    refine lv_iconst (v := 0) hx hb dX10_comes_151 (by decide) ?_
    refine sld G X 16 rfl (i32_in (by decide) (by decide)) dX10_comes_152 ?_
    refine sTop (y := V 16 0) (by rw [show Int32.toNatClampNeg 0 = 0 from by decide]; try rfl) ?_
    refine lv_topi (fun x152 e152 => ?_)
    refine lv_aload_n hx hb dX10_comes_153 rfl (lv_at hl 0 rfl) ?_
    refine sgI G X 0 0 rfl rfl fl_X10_61 dX10_comes_154 ?_
    refine sIge (tgt := 179) hx hb (rfl : Int32.toInt x152 = _) (rfl : Int32.toInt (V 0 0) = _) dX10_comes_157 (by decide) (fun c157 => ?_) (fun c157 => ?_)
    · skip
      refine lv_iconst (v := 0) hx hb dX10_comes_179 (by decide) ?_
      exact srI G X (rfl) dX10_comes_180 (by exact ⟨hm, sAg.rf, fun _ _ _ _ => rfl, Int.le_refl _, Or.inl rfl, fun h => absurd h (by decide)⟩)
    · skip
      refine lv_aload_n hx hb dX10_comes_160 rfl (lv_at hl 0 rfl) ?_
      refine sgR G X 0 23 rfl rfl fl_X10_55 dX10_comes_161 ?_
      refine lv_iconst (v := 4) hx hb dX10_comes_164 (by decide) ?_
      refine sld G X 16 rfl (i32_in (by decide) (by decide)) dX10_comes_165 ?_
      refine sTop (y := V 16 4) (by rw [show Int32.toNatClampNeg 4 = 4 from by decide]; try rfl) ?_
      refine lv_topi (fun x165 e165 => ?_)
      refine lv_iconst (v := 3) hx hb dX10_comes_166 (by decide) ?_
      refine sIgt (tgt := 179) hx hb (rfl : Int32.toInt x165 = _) (by decide : (3 : Int32).toInt = 3) dX10_comes_167 (by decide) (fun c167 => ?_) (fun c167 => ?_)
      · skip
        refine lv_iconst (v := 0) hx hb dX10_comes_179 (by decide) ?_
        exact srI G X (rfl) dX10_comes_180 (by exact ⟨hm, sAg.rf, fun _ _ _ _ => rfl, Int.le_refl _, Or.inl rfl, fun h => absurd h (by decide)⟩)
      · skip
        refine lv_aload_n hx hb dX10_comes_170 rfl (lv_at hl 0 rfl) ?_
        refine sgI G X 0 3 rfl rfl fl_X10_65 dX10_comes_171 ?_
        refine lv_bipush (v := 10) hx hb dX10_comes_174 (by decide) ?_
        refine sIne (tgt := 181) hx hb (rfl : Int32.toInt (V 0 3) = _) (by decide : (10 : Int32).toInt = 10) dX10_comes_176 (by decide) (fun c176 => ?_) (fun c176 => ?_)
        · skip
          refine lv_aload_n hx hb dX10_comes_181 rfl (lv_at hl 0 rfl) ?_
          refine lv_aload_n hx hb dX10_comes_182 rfl (lv_at hl 0 rfl) ?_
          refine sgR G X 0 23 rfl rfl fl_X10_55 dX10_comes_183 ?_
          refine lv_iconst (v := 0) hx hb dX10_comes_186 (by decide) ?_
          refine sld G X 16 rfl (i32_in (by decide) (by decide)) dX10_comes_187 ?_
          refine sTop (y := V 16 0) (by rw [show Int32.toNatClampNeg 0 = 0 from by decide]; try rfl) ?_
          refine lv_topi (fun x187 e187 => ?_)
          refine lv_bipush (v := (-9)) hx hb dX10_comes_188 (by decide) ?_
          refine lv_aload_n hx hb dX10_comes_190 rfl (lv_at hl 0 rfl) ?_
          refine sgR G X 0 23 rfl rfl fl_X10_55 dX10_comes_191 ?_
          refine lv_iconst (v := 1) hx hb dX10_comes_194 (by decide) ?_
          refine sld G X 16 rfl (i32_in (by decide) (by decide)) dX10_comes_195 ?_
          refine sTop (y := V 16 1) (by rw [show Int32.toNatClampNeg 1 = 1 from by decide]; try rfl) ?_
          refine lv_topi (fun x195 e195 => ?_)
          refine lv_aload_n hx hb dX10_comes_196 rfl (lv_at hl 0 rfl) ?_
          refine sgR G X 0 23 rfl rfl fl_X10_55 dX10_comes_197 ?_
          refine lv_iconst (v := 2) hx hb dX10_comes_200 (by decide) ?_
          refine sld G X 16 rfl (i32_in (by decide) (by decide)) dX10_comes_201 ?_
          refine sTop (y := V 16 2) (by rw [show Int32.toNatClampNeg 2 = 2 from by decide]; try rfl) ?_
          refine lv_topi (fun x201 e201 => ?_)
          refine lv_aload_n hx hb dX10_comes_202 rfl (lv_at hl 0 rfl) ?_
          refine sgR G X 0 23 rfl rfl fl_X10_55 dX10_comes_203 ?_
          refine lv_iconst (v := 3) hx hb dX10_comes_206 (by decide) ?_
          refine sld G X 16 rfl (i32_in (by decide) (by decide)) dX10_comes_207 ?_
          refine sTop (y := V 16 3) (by rw [show Int32.toNatClampNeg 3 = 3 from by decide]; try rfl) ?_
          refine lv_topi (fun x207 e207 => ?_)
          refine lv_aload_n hx hb dX10_comes_208 rfl (lv_at hl 0 rfl) ?_
          refine sgR G X 0 23 rfl rfl fl_X10_55 dX10_comes_209 ?_
          refine lv_iconst (v := 4) hx hb dX10_comes_212 (by decide) ?_
          refine sld G X 16 rfl (i32_in (by decide) (by decide)) dX10_comes_213 ?_
          refine sTop (y := V 16 4) (by rw [show Int32.toNatClampNeg 4 = 4 from by decide]; try rfl) ?_
          refine lv_topi (fun x213 e213 => ?_)
          refine lv_aload_n hx hb dX10_comes_214 rfl (lv_at hl 0 rfl) ?_
          refine sgR G X 0 23 rfl rfl fl_X10_55 dX10_comes_215 ?_
          refine lv_iconst (v := 5) hx hb dX10_comes_218 (by decide) ?_
          refine sld G X 16 rfl (i32_in (by decide) (by decide)) dX10_comes_219 ?_
          refine sTop (y := V 16 5) (by rw [show Int32.toNatClampNeg 5 = 5 from by decide]; try rfl) ?_
          refine lv_topi (fun x219 e219 => ?_)
          have u152 : x152.toInt = (V 16 0).toInt := by rw [e152]
          have u187 : x187.toInt = (V 16 0).toInt := by rw [e187]
          have u195 : x195.toInt = (V 16 1).toInt := by rw [e195]
          have u207 : x207.toInt = (V 16 3).toInt := by rw [e207]
          have hh2 := h2 (by omega)
          have g2 : x195.toInt = 7 → 0 ≤ (-9 : Int32).toInt ∧ (-9 : Int32).toInt ≤ 5 := fun _ => by omega
          refine scV (ci := 9) (As := [.int x187, .int (-9), .int x195, .int x201, .int x207, .int x213, .int x219]) (rest := []) G X (k_m_put ha V x187 (-9) x195 x201 x207 x213 x219 (by assumption) (by omega) (by first | assumption | decide | omega) (by first | assumption | decide | omega) (by first | assumption | decide | omega)) iy_X10_put ml_X10_109 rfl rfl rfl rfl hl.1 (by decide) (by decide) (Nat.le_of_ble_eq_true rfl) dX10_comes_220 (fun V220 H locs p220 X => ?_)
          refine lv_iconst (v := 1) hx hb dX10_comes_223 (by decide) ?_
          exact srI G X (rfl) dX10_comes_224 (by exact ⟨p220.1, p220.2.1.mono (by decide), fun j _ h3 _ => by rw [p220.2.2.1]; exact upd_n h3, by rw [p220.2.2.1]; exact Int.le_refl _, Or.inr rfl, fun _ h => by omega⟩)
        · skip
          refine lv_iconst (v := 0) hx hb dX10_comes_179 (by decide) ?_
          exact srI G X (rfl) dX10_comes_180 (by exact ⟨hm, sAg.rf, fun _ _ _ _ => rfl, Int.le_refl _, Or.inl rfl, fun h => absurd h (by decide)⟩)
  exact absurd hs1 (by omega)
