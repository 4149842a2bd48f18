def SM : List sSh := [.inr (9, [none, none, some 1, none, some 2, some 3, some 4, some 5, some 6, some 7, some 8, none, some 9, some 10, none, none, some 11, some 12, some 13, some 14, none, some 15, none, some 16, none, some 17]), .inl 80, .inl 10, .inl 10, .inl 10, .inl 10, .inl 10, .inl 10, .inl 10, .inl 12, .inl 3, .inl 10, .inl 7, .inl 6, .inl 10, .inl 4096, .inl 6, .inl 90]
def mF (f : Nat → Int32) : Prop := (0 ≤ (f 0).toInt ∧ (f 0).toInt ≤ 6) ∧ (0 ≤ (f 1).toInt ∧ (f 1).toInt ≤ 80) ∧ (0 ≤ (f 3).toInt ∧ (f 3).toInt ≤ 10) ∧ (0 ≤ (f 11).toInt ∧ (f 11).toInt ≤ 4) ∧ (-50 ≤ (f 14).toInt ∧ (f 14).toInt ≤ 50) ∧ (0 ≤ (f 15).toInt ∧ (f 15).toInt ≤ 10)
def mH (r o k g : Nat → Int32) : Prop := ∀ h, h < 10 → (0 ≤ (r h).toInt ∧ (r h).toInt ≤ 5) ∧ ((k h).toInt = 7 → 0 ≤ (o h).toInt ∧ (o h).toInt ≤ 5) ∧ (0 ≤ (g h).toInt ∧ (g h).toInt ≤ 9)
def mN (f : Nat → Int32) : Prop := (0 ≤ (f 0).toInt ∧ (f 0).toInt ≤ 40) ∧ (0 ≤ (f 1).toInt ∧ (f 1).toInt ≤ 20)
def mT (f : Nat → Int32) : Prop := ∀ w, w < 4 → (0 ≤ (f (3 * w)).toInt ∧ (f (3 * w)).toInt ≤ 40) ∧ (0 ≤ (f (3 * w + 1)).toInt ∧ (f (3 * w + 1)).toInt ≤ 20)
def mU (f : Nat → Int32) : Prop := ∀ i, i < 6 → 0 ≤ (f i).toInt ∧ (f i).toInt ≤ 99
def mG (f : Nat → Int32) : Prop := mH (fun h => f (7 * h)) (fun h => f (7 * h + 1)) (fun h => f (7 * h + 2)) (fun h => f (7 * h + 4)) ∧ mT (fun j => f (70 + j)) ∧ (0 ≤ (f 82).toInt ∧ (f 82).toInt ≤ 6) ∧ (0 ≤ (f 83).toInt ∧ (f 83).toInt ≤ 10) ∧ (0 ≤ (f 84).toInt ∧ (f 84).toInt ≤ 4) ∧ mN (fun j => f (85 + j)) ∧ (-50 ≤ (f 88).toInt ∧ (f 88).toInt ≤ 50)
/-- what always holds of the reference's cells -/
def mI (V : sV) : Prop := mF (V 0) ∧ mH (V 2) (V 3) (V 4) (V 6) ∧ mN (V 10) ∧ mT (V 9) ∧ mU (V 16) ∧ mG (V 17)
theorem mI.ag {V V1 : sV} {L : List Nat} (h : mI V) (hA : sAg L V V1) (hL : ∀ k ∈ [0, 2, 3, 4, 6, 9, 10, 16, 17], k ∉ L) : mI V1 := by
  unfold mI
  rw [hA 0 (hL 0 (by decide)), hA 2 (hL 2 (by decide)), hA 3 (hL 3 (by decide)), hA 4 (hL 4 (by decide)), hA 6 (hL 6 (by decide)), hA 9 (hL 9 (by decide)), hA 10 (hL 10 (by decide)), hA 16 (hL 16 (by decide)), hA 17 (hL 17 (by decide))]
  exact h
theorem mI.room {V : sV} (h : mI V) {i : Int32} (h1 : 0 ≤ i.toInt) (h2 : i.toInt < 10) : 0 ≤ (V 2 i.toNatClampNeg).toInt ∧ (V 2 i.toNatClampNeg).toInt ≤ 5 := (h.2.1 _ (by have := i32_cl h1; omega)).1
theorem mI.other {V : sV} (h : mI V) {i : Int32} (h1 : 0 ≤ i.toInt) (h2 : i.toInt < 10) (hk : (V 4 i.toNatClampNeg).toInt = 7) : 0 ≤ (V 3 i.toNatClampNeg).toInt ∧ (V 3 i.toNatClampNeg).toInt ≤ 5 := (h.2.1 _ (by have := i32_cl h1; omega)).2.1 hk
theorem mI.height {V : sV} (h : mI V) {i : Int32} (h1 : 0 ≤ i.toInt) (h2 : i.toInt < 10) : 0 ≤ (V 6 i.toNatClampNeg).toInt ∧ (V 6 i.toNatClampNeg).toInt ≤ 9 := (h.2.1 _ (by have := i32_cl h1; omega)).2.2
def mP (V : sV) : Prop := ∀ r : Nat, r < 6 → -200 ≤ (V 13 r).toInt ∧ (V 13 r).toInt ≤ 200
def mO (V : sV) : Prop := ∀ h : Nat, (h : Int) < (V 0 3).toInt → -1100 ≤ (V 14 h).toInt ∧ (V 14 h).toInt ≤ 1100
def mQuiet (V : sV) : Prop := V 10 1 = 0 ∧ ∀ h : Nat, (h : Int) < (V 0 3).toInt → V 4 h = 0 ∧ V 6 h = 5
def mCalm (V : sV) : Prop := (∀ r : Nat, r < 6 → V 13 r = 0) ∧ V 15 0 = 0 ∧ ∀ h : Nat, (h : Int) < (V 0 3).toInt → V 14 h = 0
theorem mQuiet.ag {V V1 : sV} {L : List Nat} (h : mQuiet V) (hA : sAg L V V1) (hL : ∀ k ∈ [0, 4, 6, 10], k ∉ L) : mQuiet V1 := by
  unfold mQuiet
  rw [hA 0 (hL 0 (by decide)), hA 4 (hL 4 (by decide)), hA 6 (hL 6 (by decide)), hA 10 (hL 10 (by decide))]
  exact h
theorem mCalm.ag {V V1 : sV} {L : List Nat} (h : mCalm V) (hA : sAg L V V1) (hL : ∀ k ∈ [0, 13, 14, 15], k ∉ L) : mCalm V1 := by
  unfold mCalm
  rw [hA 0 (hL 0 (by decide)), hA 13 (hL 13 (by decide)), hA 14 (hL 14 (by decide)), hA 15 (hL 15 (by decide))]
  exact h
theorem mP.ag {V V1 : sV} {L : List Nat} (h : mP V) (hA : sAg L V V1) (hL : 13 ∉ L) : mP V1 := by
  unfold mP
  rw [hA 13 hL]
  exact h
theorem mO.ag {V V1 : sV} {L : List Nat} (h : mO V) (hA : sAg L V V1) (hL : 14 ∉ L) (h0 : 0 ∉ L) : mO V1 := by
  unfold mO
  rw [hA 14 hL, hA 0 h0]
  exact h
theorem i32_adde {x y z : Int32} (e : x = y + z) (h1 : -2147483648 ≤ y.toInt + z.toInt) (h2 : y.toInt + z.toInt < 2147483648) : x.toInt = y.toInt + z.toInt := by rw [e]; exact i32_add h1 h2
theorem i32_sube {x y z : Int32} (e : x = y - z) (h1 : -2147483648 ≤ y.toInt - z.toInt) (h2 : y.toInt - z.toInt < 2147483648) : x.toInt = y.toInt - z.toInt := by rw [e]; exact i32_sub h1 h2
theorem i32_nege {x y : Int32} (e : x = -y) (h1 : -2147483648 < y.toInt) : x.toInt = -y.toInt := by rw [e]; exact i32_neg h1
theorem i32_abse {x z : Int32} (e : z = if 0 ≤ x then x else 0 - x) (h1 : -2147483648 < x.toInt) : (0 ≤ x.toInt → z.toInt = x.toInt) ∧ (x.toInt < 0 → z.toInt = -x.toInt) := by
  have h2 := i32_hi x
  refine ⟨fun h => ?_, fun h => ?_⟩
  · rw [e, if_pos (by rw [Int32.le_iff_toInt_le, Int32.toInt_zero]; exact h)]
  · rw [e, if_neg (by rw [Int32.le_iff_toInt_le, Int32.toInt_zero]; omega), i32_sub (by rw [Int32.toInt_zero]; omega) (by rw [Int32.toInt_zero]; omega), Int32.toInt_zero]; omega
theorem m_mul {a b l h m n : Int} (h1 : 0 ≤ a) (h2 : a ≤ m) (h3 : l ≤ b) (h4 : b ≤ h) (hl : l ≤ 0) (hh : 0 ≤ h) : m * l ≤ a * b ∧ a * b ≤ m * h := by
  have k1 : a * b ≤ a * h := Int.mul_le_mul_of_nonneg_left h4 h1
  have k2 : a * h ≤ m * h := Int.mul_le_mul_of_nonneg_right h2 hh
  have k3 : a * l ≤ a * b := Int.mul_le_mul_of_nonneg_left h3 h1
  have k4 : m * l ≤ a * l := Int.mul_le_mul_of_nonpos_right h2 hl
  omega
theorem m_sq {x y w : Int32} (e : x = y * w) (h1 : 0 ≤ y.toInt ∧ y.toInt ≤ 20) (h2 : 0 ≤ w.toInt ∧ w.toInt ≤ 20) : 0 ≤ x.toInt ∧ x.toInt ≤ 400 := by
  have h := m_mul (n := 0) h1.1 h1.2 h2.1 h2.2 (by decide) (by decide)
  rw [e, i32_mul (by omega) (by omega)]
  omega
theorem m_pr {x y w : Int32} (e : x = y * w) (h1 : 0 ≤ y.toInt ∧ y.toInt ≤ 40) (h2 : -4 ≤ w.toInt ∧ w.toInt ≤ 5) : -160 ≤ x.toInt ∧ x.toInt ≤ 200 := by
  have h := m_mul (n := 0) h1.1 h1.2 h2.1 h2.2 (by decide) (by decide)
  rw [e, i32_mul (by omega) (by omega)]
  omega
theorem m_k {x k w : Int32} {c : Int} (e : x = k * w) (hk : k.toInt = c) (hc : 0 ≤ c ∧ c ≤ 7) (h2 : 0 ≤ w.toInt ∧ w.toInt ≤ 40) : x.toInt = c * w.toInt := by
  have h := m_mul (n := 0) hc.1 hc.2 h2.1 h2.2 (by decide) (by decide)
  rw [← hk] at h
  rw [e, i32_mul (by omega) (by omega), hk]
theorem m_half {x y : Int32} (e : x = y / 2) (h : 0 ≤ y.toInt ∧ y.toInt ≤ 400) : 0 ≤ x.toInt ∧ x.toInt ≤ 200 := by
  have h2 : x.toInt = y.toInt.tdiv 2 := by
    rw [e, Int32.toInt_div]
    show (y.toInt.tdiv 2).bmod (2 ^ 32) = _
    rw [Int.tdiv_eq_ediv_of_nonneg h.1]
    exact Int.bmod_eq_of_le (by omega) (by omega)
  rw [h2, Int.tdiv_eq_ediv_of_nonneg h.1]
  omega
theorem i32_d {x i : Int32} (e : x = i + (-1)) (h : -2147483648 < i.toInt) : x.toInt = i.toInt - 1 := by
  have h3 := i32_hi i
  rw [e]
  have h4 : (-1 : Int32).toInt = -1 := by decide
  rw [i32_add (by rw [h4]; omega) (by rw [h4]; omega), h4]
  omega
theorem upd_lt {P : Int32 → Prop} {f : Nat → Int32} {i v : Int32} (h0 : 0 ≤ i.toInt) (h1 : ∀ h : Nat, (h : Int) < i.toInt → P (f h)) (hv : P v) : ∀ h : Nat, (h : Int) < i.toInt + 1 → P (upd f i.toNatClampNeg v h) := by
  intro h hh
  have h8 := i32_cl h0
  show P (if h = i.toNatClampNeg then v else f h)
  by_cases h9 : h = i.toNatClampNeg
  · rw [if_pos h9]; exact hv
  · rw [if_neg h9]; exact h1 h (by omega)
theorem upd_all {P : Int32 → Prop} {f : Nat → Int32} {k n : Nat} {v : Int32} (h1 : ∀ h, h < n → P (f h)) (hv : P v) : ∀ h, h < n → P (upd f k v h) := by
  intro h hh
  show P (if h = k then v else f h)
  by_cases h9 : h = k
  · rw [if_pos h9]; exact hv
  · rw [if_neg h9]; exact h1 h hh
theorem mFlow0 {f : Nat → Int32} {p q x z u t m : Int32} (hp : p = 0) (hq : q = 0) (e1 : x = p - q) (e2 : z = if 0 ≤ x then x else 0 - x) (hf : f 0 = 0) (e4 : u = f z.toNatClampNeg) (e5 : m = t * u) : m = 0 := by
  subst hp hq
  have h1 : x = 0 := by rw [e1]; rfl
  subst h1
  have h2 : z = 0 := by rw [e2]; rfl
  subst h2
  rw [show Int32.toNatClampNeg 0 = 0 from by decide, hf] at e4
  rw [e5, e4]
  simp
theorem mPush {V : sV} {x y : Int32} {k : Nat} {i : Int32} (e1 : x = V 13 y.toNatClampNeg) (e2 : y = V k i.toNatClampNeg) (hb : 0 ≤ (V k i.toNatClampNeg).toInt ∧ (V k i.toNatClampNeg).toInt ≤ 5) (hP : mP V) : (-200 ≤ x.toInt ∧ x.toInt ≤ 200) ∧ (mCalm V → x = 0) := by
  rw [← e2] at hb
  have h := i32_cl hb.1
  rw [e1]
  exact ⟨hP _ (by omega), fun hc => hc.1 _ (by omega)⟩
def q_m_no (V : sV) (q : Int32) : Int32 → sV → Prop := fun x V1 => sAg [12] V V1 ∧ x = q
set_option maxRecDepth 100000 in
set_option maxHeartbeats 4000000 in
theorem k_m_no {l : Launch} {D : va_G} {cI : ClassId} {a : Nat → Nat} (ha : sInj SM a) (V : sV) (q : Int32) (h1 : -6 ≤ q.toInt) (h2 : q.toInt ≤ 0) : sMI l D cI SM a V yX10_no cX10_no 2 .int 0 [.ref (a 0), .int q] (q_m_no V q) := by
  refine sMIof ha (by decide +kernel) (Nat.le_of_ble_eq_true rfl) ?_
  intro p e s m below meth c ls G X hl
  obtain ⟨hx, hb, hml, hown, hts, hlocks, hr, hK⟩ := id G
  have hl : lv_has ls 2 [(0, .ref (a 0)), (1, .int q)] := hl
  refine lv_aload_n hx hb dX10_no_0 rfl (lv_at hl 0 rfl) ?_
  refine sgR G X 0 17 rfl rfl fl_X10_43 dX10_no_1 ?_
  refine lv_iload_n hx hb dX10_no_4 rfl (lv_at hl 1 rfl) ?_
  refine lv_ineg hx hb dX10_no_5 ?_
  refine lv_topi (fun x5 e5 => ?_)
  have t5 := i32_nege e5 (by omega)
  refine lv_dup2_11 hx hb dX10_no_6 rfl rfl ?_
  refine sld G X 12 rfl (i32_in (by omega) (by omega)) dX10_no_7 ?_
  refine lv_topi (fun x7 e7 => ?_)
  refine lv_iconst (v := 1) hx hb dX10_no_8 (by decide) ?_
  refine lv_iadd hx hb dX10_no_9 ?_
  refine lv_topi (fun x9 e9 => ?_)
  refine sst G X 12 rfl (i32_in (by omega) (by omega)) dX10_no_10 (fun H locs X => ?_)
  refine lv_iload_n hx hb dX10_no_11 rfl (lv_at hl 1 rfl) ?_
  exact srI G X (rfl) dX10_no_12 (by exact ⟨sAg.rf.up (by decide), rfl⟩)
def q_m_isHole (V : sV) (i : Int32) : Int32 → sV → Prop := fun x V1 => ((x.toInt = 1 ∧ 0 ≤ i.toInt ∧ i.toInt < (V 0 3).toInt) ∨ (x.toInt = 0 ∧ (i.toInt < 0 ∨ (V 0 3).toInt ≤ i.toInt))) ∧ V1 = V
set_option maxRecDepth 100000 in
set_option maxHeartbeats 4000000 in
theorem k_m_isHole {l : Launch} {D : va_G} {cI : ClassId} {a : Nat → Nat} (ha : sInj SM a) (V : sV) (i : Int32) : sMI l D cI SM a V yX10_isHole cX10_isHole 2 .boolean 0 [.ref (a 0), .int i] (q_m_isHole V i) := by
  refine sMIof ha (by decide +kernel) (Nat.le_of_ble_eq_true rfl) ?_
  intro p e s m below meth c ls G X hl
  obtain ⟨hx, hb, hml, hown, hts, hlocks, hr, hK⟩ := id G
  have hl : lv_has ls 2 [(0, .ref (a 0)), (1, .int i)] := hl
  refine lv_iload_n hx hb dX10_isHole_0 rfl (lv_at hl 1 rfl) ?_
  refine sZlt (tgt := 16) hx hb (rfl : Int32.toInt i = _) dX10_isHole_1 (by decide) (fun c1 => ?_) (fun c1 => ?_)
  · skip
    refine lv_iconst (v := 0) hx hb dX10_isHole_16 (by decide) ?_
    exact srI G X (rfl) dX10_isHole_17 (by first | exact ⟨Or.inl ⟨rfl, c1, c9⟩, rfl⟩ | exact ⟨Or.inr ⟨rfl, Or.inr c9⟩, rfl⟩ | exact ⟨Or.inr ⟨rfl, Or.inl c1⟩, rfl⟩)
  · skip
    refine lv_iload_n hx hb dX10_isHole_4 rfl (lv_at hl 1 rfl) ?_
    refine lv_aload_n hx hb dX10_isHole_5 rfl (lv_at hl 0 rfl) ?_
    refine sgI G X 0 3 rfl rfl fl_X10_65 dX10_isHole_6 ?_
    refine sIge (tgt := 16) hx hb (rfl : Int32.toInt i = _) (rfl : Int32.toInt (V 0 3) = _) dX10_isHole_9 (by decide) (fun c9 => ?_) (fun c9 => ?_)
    · skip
      refine lv_iconst (v := 0) hx hb dX10_isHole_16 (by decide) ?_
      exact srI G X (rfl) dX10_isHole_17 (by first | exact ⟨Or.inl ⟨rfl, c1, c9⟩, rfl⟩ | exact ⟨Or.inr ⟨rfl, Or.inr c9⟩, rfl⟩ | exact ⟨Or.inr ⟨rfl, Or.inl c1⟩, rfl⟩)
    · skip
      refine lv_iconst (v := 1) hx hb dX10_isHole_12 (by decide) ?_
      refine lv_goto (tgt := 17) hx hb dX10_isHole_13 (by decide) ?_
      exact srI G X (rfl) dX10_isHole_17 (by first | exact ⟨Or.inl ⟨rfl, c1, c9⟩, rfl⟩ | exact ⟨Or.inr ⟨rfl, Or.inr c9⟩, rfl⟩ | exact ⟨Or.inr ⟨rfl, Or.inl c1⟩, rfl⟩)
def q_m_isDoor (V : sV) (i : Int32) : Int32 → sV → Prop := fun x V1 => ((x.toInt = 1 ∧ (V 4 i.toNatClampNeg).toInt = 7) ∨ (x.toInt = 0 ∧ (V 4 i.toNatClampNeg).toInt ≠ 7)) ∧ V1 = V
set_option maxRecDepth 100000 in
set_option maxHeartbeats 4000000 in
theorem k_m_isDoor {l : Launch} {D : va_G} {cI : ClassId} {a : Nat → Nat} (ha : sInj SM a) (V : sV) (i : Int32) (h1 : 0 ≤ i.toInt) (h2 : i.toInt < 10) : sMI l D cI SM a V yX10_isDoor cX10_isDoor 2 .boolean 0 [.ref (a 0), .int i] (q_m_isDoor V i) := by
  refine sMIof ha (by decide +kernel) (Nat.le_of_ble_eq_true rfl) ?_
  intro p e s m below meth c ls G X hl
  obtain ⟨hx, hb, hml, hown, hts, hlocks, hr, hK⟩ := id G
  have hl : lv_has ls 2 [(0, .ref (a 0)), (1, .int i)] := hl
  refine lv_aload_n hx hb dX10_isDoor_0 rfl (lv_at hl 0 rfl) ?_
  refine sgR G X 0 6 rfl rfl fl_X10_19 dX10_isDoor_1 ?_
  refine lv_iload_n hx hb dX10_isDoor_4 rfl (lv_at hl 1 rfl) ?_
  refine sld G X 4 rfl (i32_in (by omega) (by omega)) dX10_isDoor_5 ?_
  refine lv_topi (fun x5 e5 => ?_)
  refine lv_bipush (v := 7) hx hb dX10_isDoor_6 (by decide) ?_
  refine sIne (tgt := 15) hx hb (rfl : Int32.toInt x5 = _) (by decide : (7 : Int32).toInt = 7) dX10_isDoor_8 (by decide) (fun c8 => ?_) (fun c8 => ?_)
  · skip
    refine lv_iconst (v := 0) hx hb dX10_isDoor_15 (by decide) ?_
    exact srI G X (rfl) dX10_isDoor_16 (by rw [e5] at c8; first | exact ⟨Or.inl ⟨rfl, c8⟩, rfl⟩ | exact ⟨Or.inr ⟨rfl, c8⟩, rfl⟩)
  · skip
    refine lv_iconst (v := 1) hx hb dX10_isDoor_11 (by decide) ?_
    refine lv_goto (tgt := 16) hx hb dX10_isDoor_12 (by decide) ?_
    exact srI G X (rfl) dX10_isDoor_16 (by rw [e5] at c8; first | exact ⟨Or.inl ⟨rfl, c8⟩, rfl⟩ | exact ⟨Or.inr ⟨rfl, c8⟩, rfl⟩)
def q_m_outsidePush (V : sV) (i : Int32) : Int32 → sV → Prop := fun x V1 => ((-1100 ≤ x.toInt ∧ x.toInt ≤ 1100) ∧ (V 10 1 = 0 → V 4 i.toNatClampNeg = 0 → V 6 i.toNatClampNeg = 5 → x = 0)) ∧ V1 = V
set_option maxRecDepth 100000 in
set_option maxHeartbeats 4000000 in
theorem k_m_outsidePush {l : Launch} {D : va_G} {cI : ClassId} {a : Nat → Nat} (ha : sInj SM a) (V : sV) (i : Int32) (hm : mI V) (h1 : 0 ≤ i.toInt) (h2 : i.toInt < 10) : sMI l D cI SM a V yX10_outsidePush cX10_outsidePush 6 .int 0 [.ref (a 0), .int i] (q_m_outsidePush V i) := by
  refine sMIof ha (by decide +kernel) (Nat.le_of_ble_eq_true rfl) ?_
  intro p e s m below meth c ls G X hl
  obtain ⟨hx, hb, hml, hown, hts, hlocks, hr, hK⟩ := id G
  have hl : lv_has ls 6 [(0, .ref (a 0)), (1, .int i)] := hl
  obtain ⟨mf0, mf1, mf3, mf11, mf14, mf15⟩ := hm.1
  obtain ⟨mn0, mn1⟩ := hm.2.2.1
  have mh := hm.height h1 h2
  refine lv_aload_n hx hb dX10_outsidePush_0 rfl (lv_at hl 0 rfl) ?_
  refine sgR G X 0 13 rfl rfl fl_X10_37 dX10_outsidePush_1 ?_
  refine lv_iconst (v := 0) hx hb dX10_outsidePush_4 (by decide) ?_
  refine sld G X 10 rfl (i32_in (by decide) (by decide)) dX10_outsidePush_5 ?_
  refine sTop (y := V 10 0) (by rw [show Int32.toNatClampNeg 0 = 0 from by decide]; try rfl) ?_
  refine lv_topi (fun x5 e5 => ?_)
  refine lv_istore_n (lv' := [(2, .int x5), (0, .ref (a 0)), (1, .int i)]) hx hb dX10_outsidePush_6 rfl hl (by decide) rfl (fun ls hl => ?_)
  refine lv_aload_n hx hb dX10_outsidePush_7 rfl (lv_at hl 1 rfl) ?_
  refine sgR G X 0 13 rfl rfl fl_X10_37 dX10_outsidePush_8 ?_
  refine lv_iconst (v := 1) hx hb dX10_outsidePush_11 (by decide) ?_
  refine sld G X 10 rfl (i32_in (by decide) (by decide)) dX10_outsidePush_12 ?_
  refine sTop (y := V 10 1) (by rw [show Int32.toNatClampNeg 1 = 1 from by decide]; try rfl) ?_
  refine lv_topi (fun x12 e12 => ?_)
  refine lv_aload_n hx hb dX10_outsidePush_13 rfl (lv_at hl 1 rfl) ?_
  refine sgR G X 0 13 rfl rfl fl_X10_37 dX10_outsidePush_14 ?_
  refine lv_iconst (v := 1) hx hb dX10_outsidePush_17 (by decide) ?_
  refine sld G X 10 rfl (i32_in (by decide) (by decide)) dX10_outsidePush_18 ?_
  refine sTop (y := V 10 1) (by rw [show Int32.toNatClampNeg 1 = 1 from by decide]; try rfl) ?_
  refine lv_topi (fun x18 e18 => ?_)
  refine lv_imul hx hb dX10_outsidePush_19 ?_
  refine lv_topi (fun x19 e19 => ?_)
  have t19 := m_sq e19 (by rw [e12]; exact mn1) (by rw [e18]; exact mn1)
  refine lv_istore_n (lv' := [(3, .int x19), (2, .int x5), (0, .ref (a 0)), (1, .int i)]) hx hb dX10_outsidePush_20 rfl hl (by decide) rfl (fun ls hl => ?_)
  have L67 : ∀ (d : Int32) (H : Heap) (locs : List Loc) (ls : Array Slot), (-200 ≤ d.toInt ∧ d.toInt ≤ 400) → (V 10 1 = 0 → d = 0) → sWS D cI SM a V s.heap H locs → lv_has ls 6 [(3, .int x19), (2, .int x5), (0, .ref (a 0)), (1, .int i)] → W p l e (rmD 0) s m ([.ref (a 0), .int i] : List Value).toArray below meth c H locs 0 0 (MQ below (va_Qi (q_m_outsidePush V i) (fun V1 t => va_P D vwCl (sWd cI SM a V1) t.heap) (sA SM a s.heap.size)) ([.ref (a 0), .int i] : List Value).toArray s 0 0 (sA SM a s.heap.size)) (F0 m 67 ls [.int d]) := by
      intro d H locs ls td tq X hl
      refine lv_istore (lv' := [(4, .int d), (3, .int x19), (2, .int x5), (0, .ref (a 0)), (1, .int i)]) hx hb dX10_outsidePush_67 hl (by decide) rfl (fun ls hl => ?_)
      refine lv_iload_n hx hb dX10_outsidePush_69 rfl (lv_at hl 2 rfl) ?_
      refine lv_iconst (v := 5) hx hb dX10_outsidePush_70 (by decide) ?_
      refine lv_aload_n hx hb dX10_outsidePush_71 rfl (lv_at hl 3 rfl) ?_
      refine sgR G X 0 8 rfl rfl fl_X10_25 dX10_outsidePush_72 ?_
      refine lv_iload_n hx hb dX10_outsidePush_75 rfl (lv_at hl 4 rfl) ?_
      refine sld G X 6 rfl (i32_in (by omega) (by omega)) dX10_outsidePush_76 ?_
      refine lv_topi (fun x76 e76 => ?_)
      refine lv_isub hx hb dX10_outsidePush_77 ?_
      refine lv_topi (fun x77 e77 => ?_)
      refine lv_imul hx hb dX10_outsidePush_78 ?_
      refine lv_topi (fun x78 e78 => ?_)
      refine lv_iload hx hb dX10_outsidePush_79 (lv_at hl 0 rfl) ?_
      refine lv_iadd hx hb dX10_outsidePush_81 ?_
      refine lv_topi (fun x81 e81 => ?_)
      have t77 := i32_sube e77 (by rw [e76]; show _ ≤ 5 - _; omega) (by rw [e76]; show 5 - _ < _; omega)
      rw [e76, show (5 : Int32).toInt = 5 from by decide] at t77
      have t78 := m_pr e78 (by rw [e5]; exact mn0) (by omega)
      have t81 := i32_adde e81 (by omega) (by omega)
      have t5 : 0 ≤ x5.toInt ∧ x5.toInt ≤ 40 := by rw [e5]; exact mn0
      refine lv_istore (lv' := [(5, .int x81), (4, .int d), (3, .int x19), (2, .int x5), (0, .ref (a 0)), (1, .int i)]) hx hb dX10_outsidePush_82 hl (by decide) rfl (fun ls hl => ?_)
      refine lv_aload_n hx hb dX10_outsidePush_84 rfl (lv_at hl 4 rfl) ?_
      refine sgR G X 0 6 rfl rfl fl_X10_19 dX10_outsidePush_85 ?_
      refine lv_iload_n hx hb dX10_outsidePush_88 rfl (lv_at hl 5 rfl) ?_
      refine sld G X 4 rfl (i32_in (by omega) (by omega)) dX10_outsidePush_89 ?_
      refine lv_topi (fun x89 e89 => ?_)
      by_cases hs90 : Int32.toInt x89 < 1 ∨ 6 < Int32.toInt x89
      · refine lv_tableOut (tgt := 187) hx hb dX10_outsidePush_90 hs90 (by decide) ?_
        refine lv_iload hx hb dX10_outsidePush_187 (lv_at hl 0 rfl) ?_
        exact srI G X (rfl) dX10_outsidePush_189 (by exact ⟨⟨by omega, fun h3 h4 h5 => by rw [e81, e78, e77, e76, h5, tq h3]; simp⟩, rfl⟩)
      by_cases hs90_0 : Int32.toInt x89 = 1
      · refine lv_tableIn (tgt := 128) (off := 38) hx hb dX10_outsidePush_90 (by rw [hs90_0]; decide) (by rw [hs90_0]; decide) (by rw [hs90_0]; rfl) (by decide) ?_
        refine lv_iload hx hb dX10_outsidePush_128 (lv_at hl 0 rfl) ?_
        refine lv_iload_n hx hb dX10_outsidePush_130 rfl (lv_at hl 3 rfl) ?_
        refine lv_iadd hx hb dX10_outsidePush_131 ?_
        refine lv_topi (fun x131 e131 => ?_)
        exact srI G X (rfl) dX10_outsidePush_132 (by exact ⟨⟨by have t := i32_adde e131 (by omega) (by omega); omega, fun h3 h4 h5 => by exfalso; have h6 : x89.toInt = 0 := (by rw [e89, h4]; rfl); omega⟩, rfl⟩)
      by_cases hs90_1 : Int32.toInt x89 = 2
      · refine lv_tableIn (tgt := 133) (off := 43) hx hb dX10_outsidePush_90 (by rw [hs90_1]; decide) (by rw [hs90_1]; decide) (by rw [hs90_1]; rfl) (by decide) ?_
        refine lv_iload hx hb dX10_outsidePush_133 (lv_at hl 0 rfl) ?_
        refine lv_iload_n hx hb dX10_outsidePush_135 rfl (lv_at hl 3 rfl) ?_
        refine lv_isub hx hb dX10_outsidePush_136 ?_
        refine lv_topi (fun x136 e136 => ?_)
        exact srI G X (rfl) dX10_outsidePush_137 (by exact ⟨⟨by have t := i32_sube e136 (by omega) (by omega); omega, fun h3 h4 h5 => by exfalso; have h6 : x89.toInt = 0 := (by rw [e89, h4]; rfl); omega⟩, rfl⟩)
      by_cases hs90_2 : Int32.toInt x89 = 3
      · refine lv_tableIn (tgt := 138) (off := 48) hx hb dX10_outsidePush_90 (by rw [hs90_2]; decide) (by rw [hs90_2]; decide) (by rw [hs90_2]; rfl) (by decide) ?_
        refine lv_iload hx hb dX10_outsidePush_138 (lv_at hl 0 rfl) ?_
        refine lv_iload hx hb dX10_outsidePush_140 (lv_at hl 1 rfl) ?_
        refine lv_iadd hx hb dX10_outsidePush_142 ?_
        refine lv_topi (fun x142 e142 => ?_)
        exact srI G X (rfl) dX10_outsidePush_143 (by exact ⟨⟨by have t := i32_adde e142 (by omega) (by omega); omega, fun h3 h4 h5 => by exfalso; have h6 : x89.toInt = 0 := (by rw [e89, h4]; rfl); omega⟩, rfl⟩)
      by_cases hs90_3 : Int32.toInt x89 = 4
      · refine lv_tableIn (tgt := 144) (off := 54) hx hb dX10_outsidePush_90 (by rw [hs90_3]; decide) (by rw [hs90_3]; decide) (by rw [hs90_3]; rfl) (by decide) ?_
        refine lv_iload hx hb dX10_outsidePush_144 (lv_at hl 0 rfl) ?_
        refine lv_iconst (v := 4) hx hb dX10_outsidePush_146 (by decide) ?_
        refine lv_iload_n hx hb dX10_outsidePush_147 rfl (lv_at hl 3 rfl) ?_
        refine lv_imul hx hb dX10_outsidePush_148 ?_
        refine lv_topi (fun x148 e148 => ?_)
        refine lv_isub hx hb dX10_outsidePush_149 ?_
        refine lv_topi (fun x149 e149 => ?_)
        refine lv_iconst (v := 2) hx hb dX10_outsidePush_150 (by decide) ?_
        refine lv_aload_n hx hb dX10_outsidePush_151 rfl (lv_at hl 4 rfl) ?_
        refine sgR G X 0 13 rfl rfl fl_X10_37 dX10_outsidePush_152 ?_
        refine lv_iconst (v := 1) hx hb dX10_outsidePush_155 (by decide) ?_
        refine sld G X 10 rfl (i32_in (by decide) (by decide)) dX10_outsidePush_156 ?_
        refine sTop (y := V 10 1) (by rw [show Int32.toNatClampNeg 1 = 1 from by decide]; try rfl) ?_
        refine lv_topi (fun x156 e156 => ?_)
        refine lv_imul hx hb dX10_outsidePush_157 ?_
        refine lv_topi (fun x157 e157 => ?_)
        refine lv_isub hx hb dX10_outsidePush_158 ?_
        refine lv_topi (fun x158 e158 => ?_)
        exact srI G X (rfl) dX10_outsidePush_159 (by exact ⟨⟨by have t1 := m_k e148 (c := 4) (by decide) (by decide) t5; have t2 := i32_sube e149 (by omega) (by omega); have t3 := m_k e157 (c := 2) (by decide) (by decide) (by rw [e156]; omega); rw [e156] at t3; have t4 := i32_sube e158 (by omega) (by omega); omega, fun h3 h4 h5 => by exfalso; have h6 : x89.toInt = 0 := (by rw [e89, h4]; rfl); omega⟩, rfl⟩)
      by_cases hs90_4 : Int32.toInt x89 = 5
      · refine lv_tableIn (tgt := 160) (off := 70) hx hb dX10_outsidePush_90 (by rw [hs90_4]; decide) (by rw [hs90_4]; decide) (by rw [hs90_4]; rfl) (by decide) ?_
        refine lv_iload hx hb dX10_outsidePush_160 (lv_at hl 0 rfl) ?_
        refine lv_aload_n hx hb dX10_outsidePush_162 rfl (lv_at hl 4 rfl) ?_
        refine sgI G X 0 14 rfl rfl fl_X10_125 dX10_outsidePush_163 ?_
        refine lv_iadd hx hb dX10_outsidePush_166 ?_
        refine lv_topi (fun x166 e166 => ?_)
        exact srI G X (rfl) dX10_outsidePush_167 (by exact ⟨⟨by have t := i32_adde e166 (by omega) (by omega); omega, fun h3 h4 h5 => by exfalso; have h6 : x89.toInt = 0 := (by rw [e89, h4]; rfl); omega⟩, rfl⟩)
      by_cases hs90_5 : Int32.toInt x89 = 6
      · refine lv_tableIn (tgt := 168) (off := 78) hx hb dX10_outsidePush_90 (by rw [hs90_5]; decide) (by rw [hs90_5]; decide) (by rw [hs90_5]; rfl) (by decide) ?_
        refine lv_iload hx hb dX10_outsidePush_168 (lv_at hl 0 rfl) ?_
        refine lv_iconst (v := 4) hx hb dX10_outsidePush_170 (by decide) ?_
        refine lv_iload_n hx hb dX10_outsidePush_171 rfl (lv_at hl 3 rfl) ?_
        refine lv_imul hx hb dX10_outsidePush_172 ?_
        refine lv_topi (fun x172 e172 => ?_)
        refine lv_isub hx hb dX10_outsidePush_173 ?_
        refine lv_topi (fun x173 e173 => ?_)
        refine lv_iconst (v := 2) hx hb dX10_outsidePush_174 (by decide) ?_
        refine lv_aload_n hx hb dX10_outsidePush_175 rfl (lv_at hl 4 rfl) ?_
        refine sgR G X 0 13 rfl rfl fl_X10_37 dX10_outsidePush_176 ?_
        refine lv_iconst (v := 1) hx hb dX10_outsidePush_179 (by decide) ?_
        refine sld G X 10 rfl (i32_in (by decide) (by decide)) dX10_outsidePush_180 ?_
        refine sTop (y := V 10 1) (by rw [show Int32.toNatClampNeg 1 = 1 from by decide]; try rfl) ?_
        refine lv_topi (fun x180 e180 => ?_)
        refine lv_imul hx hb dX10_outsidePush_181 ?_
        refine lv_topi (fun x181 e181 => ?_)
        refine lv_isub hx hb dX10_outsidePush_182 ?_
        refine lv_topi (fun x182 e182 => ?_)
        refine lv_bipush (v := 20) hx hb dX10_outsidePush_183 (by decide) ?_
        refine lv_isub hx hb dX10_outsidePush_185 ?_
        refine lv_topi (fun x185 e185 => ?_)
        exact srI G X (rfl) dX10_outsidePush_186 (by exact ⟨⟨by have t1 := m_k e172 (c := 4) (by decide) (by decide) t5; have t2 := i32_sube e173 (by omega) (by omega); have t3 := m_k e181 (c := 2) (by decide) (by decide) (by rw [e180]; omega); rw [e180] at t3; have t4 := i32_sube e182 (by omega) (by omega); have t6 := i32_sube e185 (by rw [show (20 : Int32).toInt = 20 from by decide]; omega) (by rw [show (20 : Int32).toInt = 20 from by decide]; omega); rw [show (20 : Int32).toInt = 20 from by decide] at t6; omega, fun h3 h4 h5 => by exfalso; have h6 : x89.toInt = 0 := (by rw [e89, h4]; rfl); omega⟩, rfl⟩)
      exact absurd hs90 (by omega)
  refine lv_aload_n hx hb dX10_outsidePush_21 rfl (lv_at hl 2 rfl) ?_
  refine sgR G X 0 9 rfl rfl fl_X10_28 dX10_outsidePush_22 ?_
  refine lv_iload_n hx hb dX10_outsidePush_25 rfl (lv_at hl 3 rfl) ?_
  refine sld G X 7 rfl (i32_in (by omega) (by omega)) dX10_outsidePush_26 ?_
  refine lv_topi (fun x26 e26 => ?_)
  refine lv_aload_n hx hb dX10_outsidePush_27 rfl (lv_at hl 2 rfl) ?_
  refine sgR G X 0 13 rfl rfl fl_X10_37 dX10_outsidePush_28 ?_
  refine lv_iconst (v := 2) hx hb dX10_outsidePush_31 (by decide) ?_
  refine sld G X 10 rfl (i32_in (by decide) (by decide)) dX10_outsidePush_32 ?_
  refine sTop (y := V 10 2) (by rw [show Int32.toNatClampNeg 2 = 2 from by decide]; try rfl) ?_
  refine lv_topi (fun x32 e32 => ?_)
  refine sIne (tgt := 40) hx hb (rfl : Int32.toInt x26 = _) (rfl : Int32.toInt x32 = _) dX10_outsidePush_33 (by decide) (fun c33 => ?_) (fun c33 => ?_)
  · skip
    refine lv_aload_n hx hb dX10_outsidePush_40 rfl (lv_at hl 2 rfl) ?_
    refine sgR G X 0 9 rfl rfl fl_X10_28 dX10_outsidePush_41 ?_
    refine lv_iload_n hx hb dX10_outsidePush_44 rfl (lv_at hl 3 rfl) ?_
    refine sld G X 7 rfl (i32_in (by omega) (by omega)) dX10_outsidePush_45 ?_
    refine lv_topi (fun x45 e45 => ?_)
    refine lv_aload_n hx hb dX10_outsidePush_46 rfl (lv_at hl 2 rfl) ?_
    refine sgR G X 0 13 rfl rfl fl_X10_37 dX10_outsidePush_47 ?_
    refine lv_iconst (v := 2) hx hb dX10_outsidePush_50 (by decide) ?_
    refine sld G X 10 rfl (i32_in (by decide) (by decide)) dX10_outsidePush_51 ?_
    refine sTop (y := V 10 2) (by rw [show Int32.toNatClampNeg 2 = 2 from by decide]; try rfl) ?_
    refine lv_topi (fun x51 e51 => ?_)
    refine lv_iconst (v := 2) hx hb dX10_outsidePush_52 (by decide) ?_
    refine lv_iadd hx hb dX10_outsidePush_53 ?_
    refine lv_topi (fun x53 e53 => ?_)
    refine lv_iconst (v := 4) hx hb dX10_outsidePush_54 (by decide) ?_
    refine lv_irem hx hb dX10_outsidePush_55 (by decide) ?_
    refine lv_topi (fun x55 e55 => ?_)
    refine sIne (tgt := 66) hx hb (rfl : Int32.toInt x45 = _) (rfl : Int32.toInt x55 = _) dX10_outsidePush_56 (by decide) (fun c56 => ?_) (fun c56 => ?_)
    · skip
      refine lv_iconst (v := 0) hx hb dX10_outsidePush_66 (by decide) ?_
      exact L67 0 _ _ _ (by first | omega | (have th := m_half e61 t19; have tn := i32_nege e62 (by omega); omega) | decide) (fun h => by first | rfl | (rw [e19, e12, h]; simp) | (rw [e62, e61, e19, e12, h]; simp)) X (lv_sub hl [0, 1, 2, 3] rfl)
    · skip
      refine lv_iload_n hx hb dX10_outsidePush_59 rfl (lv_at hl 0 rfl) ?_
      refine lv_iconst (v := 2) hx hb dX10_outsidePush_60 (by decide) ?_
      refine lv_idiv hx hb dX10_outsidePush_61 (by decide) ?_
      refine lv_topi (fun x61 e61 => ?_)
      refine lv_ineg hx hb dX10_outsidePush_62 ?_
      refine lv_topi (fun x62 e62 => ?_)
      refine lv_goto (tgt := 67) hx hb dX10_outsidePush_63 (by decide) ?_
      exact L67 x62 _ _ _ (by first | omega | (have th := m_half e61 t19; have tn := i32_nege e62 (by omega); omega) | decide) (fun h => by first | rfl | (rw [e19, e12, h]; simp) | (rw [e62, e61, e19, e12, h]; simp)) X (lv_sub hl [0, 1, 2, 3] rfl)
  · skip
    refine lv_iload_n hx hb dX10_outsidePush_36 rfl (lv_at hl 0 rfl) ?_
    refine lv_goto (tgt := 67) hx hb dX10_outsidePush_37 (by decide) ?_
    exact L67 x19 _ _ _ (by first | omega | (have th := m_half e61 t19; have tn := i32_nege e62 (by omega); omega) | decide) (fun h => by first | rfl | (rw [e19, e12, h]; simp) | (rw [e62, e61, e19, e12, h]; simp)) X (lv_sub hl [0, 1, 2, 3] rfl)
def q_m_root (V : sV) (i : Int32) : Int32 → sV → Prop := fun x V1 => x = V 15 i.toNatClampNeg ∧ V1 = V
set_option maxRecDepth 100000 in
set_option maxHeartbeats 4000000 in
theorem k_m_root {l : Launch} {D : va_G} {cI : ClassId} {a : Nat → Nat} (ha : sInj SM a) (V : sV) (i : Int32) (h1 : 0 ≤ i.toInt) (h2 : i.toInt < 4096) : sMI l D cI SM a V yX10_root cX10_root 3 .int 0 [.ref (a 0), .int i] (q_m_root V i) := by
  refine sMIof ha (by decide +kernel) (Nat.le_of_ble_eq_true rfl) ?_
  intro p e s m below meth c ls G X hl
  obtain ⟨hx, hb, hml, hown, hts, hlocks, hr, hK⟩ := id G
  have hl : lv_has ls 3 [(0, .ref (a 0)), (1, .int i)] := hl
  refine lv_iload_n hx hb dX10_root_0 rfl (lv_at hl 1 rfl) ?_
  refine lv_sipush (v := 4096) hx hb dX10_root_1 (by decide) ?_
  refine sIge (tgt := 14) hx hb (rfl : Int32.toInt i = _) (by decide : (4096 : Int32).toInt = 4096) dX10_root_4 (by decide) (fun c4 => ?_) (fun c4 => ?_)
  · skip
    exact absurd c4 (by omega)
  · skip
    refine lv_aload_n hx hb dX10_root_7 rfl (lv_at hl 0 rfl) ?_
    refine sgR G X 0 21 rfl rfl fl_X10_52 dX10_root_8 ?_
    refine lv_iload_n hx hb dX10_root_11 rfl (lv_at hl 1 rfl) ?_
    refine sld G X 15 rfl (i32_in (by omega) (by omega)) dX10_root_12 ?_
    refine lv_topi (fun x12 e12 => ?_)
    exact srI G X (rfl) dX10_root_13 (by exact ⟨e12, rfl⟩)
def q_m_flows (V : sV) (i : Int32) : Int32 → sV → Prop := fun x V1 => (mCalm V → x = 0) ∧ V1 = V
set_option maxRecDepth 100000 in
set_option maxHeartbeats 4000000 in
theorem k_m_flows {l : Launch} {D : va_G} {cI : ClassId} {a : Nat → Nat} (ha : sInj SM a) (V : sV) (i : Int32) (hm : mI V) (hP : mP V) (hO : mO V) (h1 : 0 ≤ i.toInt) (h2 : i.toInt < (V 0 3).toInt) : sMI l D cI SM a V yX10_flows cX10_flows 5 .int 1 [.ref (a 0), .int i] (q_m_flows V i) := by
  refine sMIof ha (by decide +kernel) (Nat.le_of_ble_eq_true rfl) ?_
  intro p e s m below meth c ls G X hl
  obtain ⟨hx, hb, hml, hown, hts, hlocks, hr, hK⟩ := id G
  have hl : lv_has ls 5 [(0, .ref (a 0)), (1, .int i)] := hl
  obtain ⟨mf0, mf1, mf3, mf11, mf14, mf15⟩ := hm.1
  have mr := hm.room h1 (by omega)
  have tcl := i32_cl h1
  refine lv_aload_n hx hb dX10_flows_0 rfl (lv_at hl 0 rfl) ?_
  refine lv_iload_n hx hb dX10_flows_1 rfl (lv_at hl 1 rfl) ?_
  refine scI (ci := 9) (As := [.int i]) (rest := []) G X (k_m_isDoor ha V i (by first | assumption | omega) (by first | assumption | omega)) iy_X10_isDoor ml_X10_129 rfl rfl rfl rfl hl.1 (by decide) (by decide) (Nat.le_of_ble_eq_true rfl) dX10_flows_2 (fun y2 V2 H locs p2 X => ?_)
  obtain ⟨p2, z2⟩ := p2
  subst V2
  refine sZeq (tgt := 22) hx hb (rfl : Int32.toInt y2 = _) dX10_flows_5 (by decide) (fun c5 => ?_) (fun c5 => ?_)
  · skip
    refine lv_aload_n hx hb dX10_flows_22 rfl (lv_at hl 0 rfl) ?_
    refine sgR G X 0 19 rfl rfl fl_X10_49 dX10_flows_23 ?_
    refine lv_iload_n hx hb dX10_flows_26 rfl (lv_at hl 1 rfl) ?_
    refine sld G X 14 rfl (i32_in (by omega) (by omega)) dX10_flows_27 ?_
    refine lv_topi (fun x27 e27 => ?_)
    have tf : -1100 ≤ Int32.toInt x27 ∧ Int32.toInt x27 ≤ 1100 := by first | (rw [e27]; exact hO _ (by omega)) | (rw [e18]; have := hP x17.toNatClampNeg (by have := i32_cl (x := x17) (by rw [e17]; omega); rw [e17] at this; rw [e17]; omega); omega)
    have tz : mCalm V → x27 = 0 := fun hc => by first | (rw [e27]; exact hc.2.2 _ (by omega)) | (rw [e18]; exact hc.1 _ (by have := i32_cl (x := x17) (by rw [e17]; omega); rw [e17] at this; rw [e17]; omega))
    refine lv_istore_n (lv' := [(2, .int x27), (0, .ref (a 0)), (1, .int i)]) hx hb dX10_flows_28 rfl hl (by decide) rfl (fun ls hl => ?_)
    refine lv_aload_n hx hb dX10_flows_29 rfl (lv_at hl 1 rfl) ?_
    refine sgR G X 0 18 rfl rfl fl_X10_46 dX10_flows_30 ?_
    refine lv_aload_n hx hb dX10_flows_33 rfl (lv_at hl 1 rfl) ?_
    refine lv_iload_n hx hb dX10_flows_34 rfl (lv_at hl 2 rfl) ?_
    refine scI (ci := 9) (As := [.int i]) (rest := [.ref (a 13)]) G X (k_m_isDoor ha V i (by first | assumption | omega) (by first | assumption | omega)) iy_X10_isDoor ml_X10_129 rfl rfl rfl rfl hl.1 (by decide) (by decide) (Nat.le_of_ble_eq_true rfl) dX10_flows_35 (fun y35 V35 H locs p35 X => ?_)
    obtain ⟨p35, z35⟩ := p35
    subst V35
    refine sZeq (tgt := 50) hx hb (rfl : Int32.toInt y35 = _) dX10_flows_38 (by decide) (fun c38 => ?_) (fun c38 => ?_)
    · skip
      refine lv_aload_n hx hb dX10_flows_50 rfl (lv_at hl 1 rfl) ?_
      refine sgR G X 0 4 rfl rfl fl_X10_13 dX10_flows_51 ?_
      refine lv_iload_n hx hb dX10_flows_54 rfl (lv_at hl 2 rfl) ?_
      refine sld G X 2 rfl (i32_in (by omega) (by omega)) dX10_flows_55 ?_
      refine lv_topi (fun x55 e55 => ?_)
      refine sld G X 13 rfl (i32_in (by first | (rw [e46]; omega) | (rw [e55]; omega)) (by first | (rw [e46]; omega) | (rw [e55]; omega))) dX10_flows_56 ?_
      refine lv_topi (fun x56 e56 => ?_)
      have ts : (-200 ≤ x56.toInt ∧ x56.toInt ≤ 200) ∧ (mCalm V → x56 = 0) := by first | exact mPush e56 e46 mo hP | exact mPush e56 e55 mr hP
      refine lv_istore_n (lv' := [(3, .int x56), (2, .int x27), (0, .ref (a 0)), (1, .int i)]) hx hb dX10_flows_57 rfl hl (by decide) rfl (fun ls hl => ?_)
      refine lv_aload_n hx hb dX10_flows_58 rfl (lv_at hl 2 rfl) ?_
      refine sgR G X 0 7 rfl rfl fl_X10_22 dX10_flows_59 ?_
      refine lv_iload_n hx hb dX10_flows_62 rfl (lv_at hl 3 rfl) ?_
      refine sld G X 5 rfl (i32_in (by omega) (by omega)) dX10_flows_63 ?_
      refine lv_topi (fun x63 e63 => ?_)
      refine lv_aload_n hx hb dX10_flows_64 rfl (lv_at hl 2 rfl) ?_
      refine lv_iload_n hx hb dX10_flows_65 rfl (lv_at hl 1 rfl) ?_
      refine lv_iload_n hx hb dX10_flows_66 rfl (lv_at hl 0 rfl) ?_
      refine lv_isub hx hb dX10_flows_67 ?_
      refine lv_topi (fun x67 e67 => ?_)
      have t67 := i32_sube e67 (by omega) (by omega)
      refine sAbs hx hb hml hl.1 hown hts mm_X10_132 (by decide) (Nat.le_of_ble_eq_true rfl) dX10_flows_68 (fun x68 e68 => ?_)
      have t68 := i32_abse e68 (by omega)
      refine scI (ci := 9) (As := [.int x68]) (rest := [.int x63]) G X (k_m_root ha V x68 (by first | assumption | omega) (by first | assumption | omega)) iy_X10_root ml_X10_135 rfl rfl rfl rfl hl.1 (by decide) (by decide) (Nat.le_of_ble_eq_true rfl) dX10_flows_71 (fun y71 V71 H locs p71 X => ?_)
      obtain ⟨p71, z71⟩ := p71
      subst V71
      refine lv_imul hx hb dX10_flows_74 ?_
      refine lv_topi (fun x74 e74 => ?_)
      refine lv_istore (lv' := [(4, .int x74), (3, .int x56), (2, .int x27), (0, .ref (a 0)), (1, .int i)]) hx hb dX10_flows_75 hl (by decide) rfl (fun ls hl => ?_)
      refine lv_iload_n hx hb dX10_flows_77 rfl (lv_at hl 2 rfl) ?_
      refine lv_iload_n hx hb dX10_flows_78 rfl (lv_at hl 1 rfl) ?_
      refine sIge (tgt := 88) hx hb (rfl : Int32.toInt x27 = _) (rfl : Int32.toInt x56 = _) dX10_flows_79 (by decide) (fun c79 => ?_) (fun c79 => ?_)
      · skip
        refine lv_iload hx hb dX10_flows_88 (lv_at hl 0 rfl) ?_
        exact srI G X (rfl) dX10_flows_90 (by exact ⟨fun hc => by have h9 : x74 = 0 := mFlow0 (tz hc) (ts.2 hc) e67 e68 hc.2.1 p71 e74; first | exact h9 | (rw [e84, h9]; rfl), rfl⟩)
      · skip
        refine lv_iload hx hb dX10_flows_82 (lv_at hl 0 rfl) ?_
        refine lv_ineg hx hb dX10_flows_84 ?_
        refine lv_topi (fun x84 e84 => ?_)
        refine lv_goto (tgt := 90) hx hb dX10_flows_85 (by decide) ?_
        exact srI G X (rfl) dX10_flows_90 (by exact ⟨fun hc => by have h9 : x74 = 0 := mFlow0 (tz hc) (ts.2 hc) e67 e68 hc.2.1 p71 e74; first | exact h9 | (rw [e84, h9]; rfl), rfl⟩)
    · skip
      have mo := hm.other h1 (by omega) (by omega)
      refine lv_aload_n hx hb dX10_flows_41 rfl (lv_at hl 1 rfl) ?_
      refine sgR G X 0 5 rfl rfl fl_X10_16 dX10_flows_42 ?_
      refine lv_iload_n hx hb dX10_flows_45 rfl (lv_at hl 2 rfl) ?_
      refine sld G X 3 rfl (i32_in (by omega) (by omega)) dX10_flows_46 ?_
      refine lv_topi (fun x46 e46 => ?_)
      refine lv_goto (tgt := 56) hx hb dX10_flows_47 (by decide) ?_
      refine sld G X 13 rfl (i32_in (by first | (rw [e46]; omega) | (rw [e55]; omega)) (by first | (rw [e46]; omega) | (rw [e55]; omega))) dX10_flows_56 ?_
      refine lv_topi (fun x56 e56 => ?_)
      have ts : (-200 ≤ x56.toInt ∧ x56.toInt ≤ 200) ∧ (mCalm V → x56 = 0) := by first | exact mPush e56 e46 mo hP | exact mPush e56 e55 mr hP
      refine lv_istore_n (lv' := [(3, .int x56), (2, .int x27), (0, .ref (a 0)), (1, .int i)]) hx hb dX10_flows_57 rfl hl (by decide) rfl (fun ls hl => ?_)
      refine lv_aload_n hx hb dX10_flows_58 rfl (lv_at hl 2 rfl) ?_
      refine sgR G X 0 7 rfl rfl fl_X10_22 dX10_flows_59 ?_
      refine lv_iload_n hx hb dX10_flows_62 rfl (lv_at hl 3 rfl) ?_
      refine sld G X 5 rfl (i32_in (by omega) (by omega)) dX10_flows_63 ?_
      refine lv_topi (fun x63 e63 => ?_)
      refine lv_aload_n hx hb dX10_flows_64 rfl (lv_at hl 2 rfl) ?_
      refine lv_iload_n hx hb dX10_flows_65 rfl (lv_at hl 1 rfl) ?_
      refine lv_iload_n hx hb dX10_flows_66 rfl (lv_at hl 0 rfl) ?_
      refine lv_isub hx hb dX10_flows_67 ?_
      refine lv_topi (fun x67 e67 => ?_)
      have t67 := i32_sube e67 (by omega) (by omega)
      refine sAbs hx hb hml hl.1 hown hts mm_X10_132 (by decide) (Nat.le_of_ble_eq_true rfl) dX10_flows_68 (fun x68 e68 => ?_)
      have t68 := i32_abse e68 (by omega)
      refine scI (ci := 9) (As := [.int x68]) (rest := [.int x63]) G X (k_m_root ha V x68 (by first | assumption | omega) (by first | assumption | omega)) iy_X10_root ml_X10_135 rfl rfl rfl rfl hl.1 (by decide) (by decide) (Nat.le_of_ble_eq_true rfl) dX10_flows_71 (fun y71 V71 H locs p71 X => ?_)
      obtain ⟨p71, z71⟩ := p71
      subst V71
      refine lv_imul hx hb dX10_flows_74 ?_
      refine lv_topi (fun x74 e74 => ?_)
      refine lv_istore (lv' := [(4, .int x74), (3, .int x56), (2, .int x27), (0, .ref (a 0)), (1, .int i)]) hx hb dX10_flows_75 hl (by decide) rfl (fun ls hl => ?_)
      refine lv_iload_n hx hb dX10_flows_77 rfl (lv_at hl 2 rfl) ?_
      refine lv_iload_n hx hb dX10_flows_78 rfl (lv_at hl 1 rfl) ?_
      refine sIge (tgt := 88) hx hb (rfl : Int32.toInt x27 = _) (rfl : Int32.toInt x56 = _) dX10_flows_79 (by decide) (fun c79 => ?_) (fun c79 => ?_)
      · skip
        refine lv_iload hx hb dX10_flows_88 (lv_at hl 0 rfl) ?_
        exact srI G X (rfl) dX10_flows_90 (by exact ⟨fun hc => by have h9 : x74 = 0 := mFlow0 (tz hc) (ts.2 hc) e67 e68 hc.2.1 p71 e74; first | exact h9 | (rw [e84, h9]; rfl), rfl⟩)
      · skip
        refine lv_iload hx hb dX10_flows_82 (lv_at hl 0 rfl) ?_
        refine lv_ineg hx hb dX10_flows_84 ?_
        refine lv_topi (fun x84 e84 => ?_)
        refine lv_goto (tgt := 90) hx hb dX10_flows_85 (by decide) ?_
        exact srI G X (rfl) dX10_flows_90 (by exact ⟨fun hc => by have h9 : x74 = 0 := mFlow0 (tz hc) (ts.2 hc) e67 e68 hc.2.1 p71 e74; first | exact h9 | (rw [e84, h9]; rfl), rfl⟩)
  · skip
    refine lv_aload_n hx hb dX10_flows_8 rfl (lv_at hl 0 rfl) ?_
    refine sgR G X 0 18 rfl rfl fl_X10_46 dX10_flows_9 ?_
    refine lv_aload_n hx hb dX10_flows_12 rfl (lv_at hl 0 rfl) ?_
    refine sgR G X 0 4 rfl rfl fl_X10_13 dX10_flows_13 ?_
    refine lv_iload_n hx hb dX10_flows_16 rfl (lv_at hl 1 rfl) ?_
    refine sld G X 2 rfl (i32_in (by omega) (by omega)) dX10_flows_17 ?_
    refine lv_topi (fun x17 e17 => ?_)
    refine sld G X 13 rfl (i32_in (by rw [e17]; omega) (by rw [e17]; omega)) dX10_flows_18 ?_
    refine lv_topi (fun x18 e18 => ?_)
    refine lv_goto (tgt := 28) hx hb dX10_flows_19 (by decide) ?_
    have tf : -1100 ≤ Int32.toInt x18 ∧ Int32.toInt x18 ≤ 1100 := by first | (rw [e27]; exact hO _ (by omega)) | (rw [e18]; have := hP x17.toNatClampNeg (by have := i32_cl (x := x17) (by rw [e17]; omega); rw [e17] at this; rw [e17]; omega); omega)
    have tz : mCalm V → x18 = 0 := fun hc => by first | (rw [e27]; exact hc.2.2 _ (by omega)) | (rw [e18]; exact hc.1 _ (by have := i32_cl (x := x17) (by rw [e17]; omega); rw [e17] at this; rw [e17]; omega))
    refine lv_istore_n (lv' := [(2, .int x18), (0, .ref (a 0)), (1, .int i)]) hx hb dX10_flows_28 rfl hl (by decide) rfl (fun ls hl => ?_)
    refine lv_aload_n hx hb dX10_flows_29 rfl (lv_at hl 1 rfl) ?_
    refine sgR G X 0 18 rfl rfl fl_X10_46 dX10_flows_30 ?_
    refine lv_aload_n hx hb dX10_flows_33 rfl (lv_at hl 1 rfl) ?_
    refine lv_iload_n hx hb dX10_flows_34 rfl (lv_at hl 2 rfl) ?_
    refine scI (ci := 9) (As := [.int i]) (rest := [.ref (a 13)]) G X (k_m_isDoor ha V i (by first | assumption | omega) (by first | assumption | omega)) iy_X10_isDoor ml_X10_129 rfl rfl rfl rfl hl.1 (by decide) (by decide) (Nat.le_of_ble_eq_true rfl) dX10_flows_35 (fun y35 V35 H locs p35 X => ?_)
    obtain ⟨p35, z35⟩ := p35
    subst V35
    refine sZeq (tgt := 50) hx hb (rfl : Int32.toInt y35 = _) dX10_flows_38 (by decide) (fun c38 => ?_) (fun c38 => ?_)
    · skip
      refine lv_aload_n hx hb dX10_flows_50 rfl (lv_at hl 1 rfl) ?_
      refine sgR G X 0 4 rfl rfl fl_X10_13 dX10_flows_51 ?_
      refine lv_iload_n hx hb dX10_flows_54 rfl (lv_at hl 2 rfl) ?_
      refine sld G X 2 rfl (i32_in (by omega) (by omega)) dX10_flows_55 ?_
      refine lv_topi (fun x55 e55 => ?_)
      refine sld G X 13 rfl (i32_in (by first | (rw [e46]; omega) | (rw [e55]; omega)) (by first | (rw [e46]; omega) | (rw [e55]; omega))) dX10_flows_56 ?_
      refine lv_topi (fun x56 e56 => ?_)
      have ts : (-200 ≤ x56.toInt ∧ x56.toInt ≤ 200) ∧ (mCalm V → x56 = 0) := by first | exact mPush e56 e46 mo hP | exact mPush e56 e55 mr hP
      refine lv_istore_n (lv' := [(3, .int x56), (2, .int x18), (0, .ref (a 0)), (1, .int i)]) hx hb dX10_flows_57 rfl hl (by decide) rfl (fun ls hl => ?_)
      refine lv_aload_n hx hb dX10_flows_58 rfl (lv_at hl 2 rfl) ?_
      refine sgR G X 0 7 rfl rfl fl_X10_22 dX10_flows_59 ?_
      refine lv_iload_n hx hb dX10_flows_62 rfl (lv_at hl 3 rfl) ?_
      refine sld G X 5 rfl (i32_in (by omega) (by omega)) dX10_flows_63 ?_
      refine lv_topi (fun x63 e63 => ?_)
      refine lv_aload_n hx hb dX10_flows_64 rfl (lv_at hl 2 rfl) ?_
      refine lv_iload_n hx hb dX10_flows_65 rfl (lv_at hl 1 rfl) ?_
      refine lv_iload_n hx hb dX10_flows_66 rfl (lv_at hl 0 rfl) ?_
      refine lv_isub hx hb dX10_flows_67 ?_
      refine lv_topi (fun x67 e67 => ?_)
      have t67 := i32_sube e67 (by omega) (by omega)
      refine sAbs hx hb hml hl.1 hown hts mm_X10_132 (by decide) (Nat.le_of_ble_eq_true rfl) dX10_flows_68 (fun x68 e68 => ?_)
      have t68 := i32_abse e68 (by omega)
      refine scI (ci := 9) (As := [.int x68]) (rest := [.int x63]) G X (k_m_root ha V x68 (by first | assumption | omega) (by first | assumption | omega)) iy_X10_root ml_X10_135 rfl rfl rfl rfl hl.1 (by decide) (by decide) (Nat.le_of_ble_eq_true rfl) dX10_flows_71 (fun y71 V71 H locs p71 X => ?_)
      obtain ⟨p71, z71⟩ := p71
      subst V71
      refine lv_imul hx hb dX10_flows_74 ?_
      refine lv_topi (fun x74 e74 => ?_)
      refine lv_istore (lv' := [(4, .int x74), (3, .int x56), (2, .int x18), (0, .ref (a 0)), (1, .int i)]) hx hb dX10_flows_75 hl (by decide) rfl (fun ls hl => ?_)
      refine lv_iload_n hx hb dX10_flows_77 rfl (lv_at hl 2 rfl) ?_
      refine lv_iload_n hx hb dX10_flows_78 rfl (lv_at hl 1 rfl) ?_
      refine sIge (tgt := 88) hx hb (rfl : Int32.toInt x18 = _) (rfl : Int32.toInt x56 = _) dX10_flows_79 (by decide) (fun c79 => ?_) (fun c79 => ?_)
      · skip
        refine lv_iload hx hb dX10_flows_88 (lv_at hl 0 rfl) ?_
        exact srI G X (rfl) dX10_flows_90 (by exact ⟨fun hc => by have h9 : x74 = 0 := mFlow0 (tz hc) (ts.2 hc) e67 e68 hc.2.1 p71 e74; first | exact h9 | (rw [e84, h9]; rfl), rfl⟩)
      · skip
        refine lv_iload hx hb dX10_flows_82 (lv_at hl 0 rfl) ?_
        refine lv_ineg hx hb dX10_flows_84 ?_
        refine lv_topi (fun x84 e84 => ?_)
        refine lv_goto (tgt := 90) hx hb dX10_flows_85 (by decide) ?_
        exact srI G X (rfl) dX10_flows_90 (by exact ⟨fun hc => by have h9 : x74 = 0 := mFlow0 (tz hc) (ts.2 hc) e67 e68 hc.2.1 p71 e74; first | exact h9 | (rw [e84, h9]; rfl), rfl⟩)
    · skip
      have mo := hm.other h1 (by omega) (by omega)
      refine lv_aload_n hx hb dX10_flows_41 rfl (lv_at hl 1 rfl) ?_
      refine sgR G X 0 5 rfl rfl fl_X10_16 dX10_flows_42 ?_
      refine lv_iload_n hx hb dX10_flows_45 rfl (lv_at hl 2 rfl) ?_
      refine sld G X 3 rfl (i32_in (by omega) (by omega)) dX10_flows_46 ?_
      refine lv_topi (fun x46 e46 => ?_)
      refine lv_goto (tgt := 56) hx hb dX10_flows_47 (by decide) ?_
      refine sld G X 13 rfl (i32_in (by first | (rw [e46]; omega) | (rw [e55]; omega)) (by first | (rw [e46]; omega) | (rw [e55]; omega))) dX10_flows_56 ?_
      refine lv_topi (fun x56 e56 => ?_)
      have ts : (-200 ≤ x56.toInt ∧ x56.toInt ≤ 200) ∧ (mCalm V → x56 = 0) := by first | exact mPush e56 e46 mo hP | exact mPush e56 e55 mr hP
      refine lv_istore_n (lv' := [(3, .int x56), (2, .int x18), (0, .ref (a 0)), (1, .int i)]) hx hb dX10_flows_57 rfl hl (by decide) rfl (fun ls hl => ?_)
      refine lv_aload_n hx hb dX10_flows_58 rfl (lv_at hl 2 rfl) ?_
      refine sgR G X 0 7 rfl rfl fl_X10_22 dX10_flows_59 ?_
      refine lv_iload_n hx hb dX10_flows_62 rfl (lv_at hl 3 rfl) ?_
      refine sld G X 5 rfl (i32_in (by omega) (by omega)) dX10_flows_63 ?_
      refine lv_topi (fun x63 e63 => ?_)
      refine lv_aload_n hx hb dX10_flows_64 rfl (lv_at hl 2 rfl) ?_
      refine lv_iload_n hx hb dX10_flows_65 rfl (lv_at hl 1 rfl) ?_
      refine lv_iload_n hx hb dX10_flows_66 rfl (lv_at hl 0 rfl) ?_
      refine lv_isub hx hb dX10_flows_67 ?_
      refine lv_topi (fun x67 e67 => ?_)
      have t67 := i32_sube e67 (by omega) (by omega)
      refine sAbs hx hb hml hl.1 hown hts mm_X10_132 (by decide) (Nat.le_of_ble_eq_true rfl) dX10_flows_68 (fun x68 e68 => ?_)
      have t68 := i32_abse e68 (by omega)
      refine scI (ci := 9) (As := [.int x68]) (rest := [.int x63]) G X (k_m_root ha V x68 (by first | assumption | omega) (by first | assumption | omega)) iy_X10_root ml_X10_135 rfl rfl rfl rfl hl.1 (by decide) (by decide) (Nat.le_of_ble_eq_true rfl) dX10_flows_71 (fun y71 V71 H locs p71 X => ?_)
      obtain ⟨p71, z71⟩ := p71
      subst V71
      refine lv_imul hx hb dX10_flows_74 ?_
      refine lv_topi (fun x74 e74 => ?_)
      refine lv_istore (lv' := [(4, .int x74), (3, .int x56), (2, .int x18), (0, .ref (a 0)), (1, .int i)]) hx hb dX10_flows_75 hl (by decide) rfl (fun ls hl => ?_)
      refine lv_iload_n hx hb dX10_flows_77 rfl (lv_at hl 2 rfl) ?_
      refine lv_iload_n hx hb dX10_flows_78 rfl (lv_at hl 1 rfl) ?_
      refine sIge (tgt := 88) hx hb (rfl : Int32.toInt x18 = _) (rfl : Int32.toInt x56 = _) dX10_flows_79 (by decide) (fun c79 => ?_) (fun c79 => ?_)
      · skip
        refine lv_iload hx hb dX10_flows_88 (lv_at hl 0 rfl) ?_
        exact srI G X (rfl) dX10_flows_90 (by exact ⟨fun hc => by have h9 : x74 = 0 := mFlow0 (tz hc) (ts.2 hc) e67 e68 hc.2.1 p71 e74; first | exact h9 | (rw [e84, h9]; rfl), rfl⟩)
      · skip
        refine lv_iload hx hb dX10_flows_82 (lv_at hl 0 rfl) ?_
        refine lv_ineg hx hb dX10_flows_84 ?_
        refine lv_topi (fun x84 e84 => ?_)
        refine lv_goto (tgt := 90) hx hb dX10_flows_85 (by decide) ?_
        exact srI G X (rfl) dX10_flows_90 (by exact ⟨fun hc => by have h9 : x74 = 0 := mFlow0 (tz hc) (ts.2 hc) e67 e68 hc.2.1 p71 e74; first | exact h9 | (rw [e84, h9]; rfl), rfl⟩)
