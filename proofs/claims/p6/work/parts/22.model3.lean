section SBL
variable {p : Program} {l : Launch} {e : Env} {R : Room} {s : State} {m : MethodId} {args : Array Value} {below : List Frame} {meth : Method} {c : Code} {H : Heap} {locs : List Loc} {Q : State → Prop}
variable {cc : ByteArray} {pc : Nat} {ls : Array Slot} {rest : List Value} {own : String} {nL : Nat} {ret : Option FieldType} {D : va_G} {cI : ClassId} {S : List sSh} {a : Nat → Nat} {V : sV}
theorem scL {d d' n nL' idx k ci : Nat} {y : MethodName} {cc' : ByteArray} {As : List Value} {post : Int64 → sV → Prop} {C : String} {T : u_T} {N : Nat} {fs : List (Option Nat)} {st : List Value}
    (G : sCx p s m args meth c cc own nL ret D cI) (X : sWS D cI S a V s.heap H locs) (hM : sML l D cI S a V y cc' nL' d' (.ref (a k) :: As) post) (hI : sIY C y cc' nL' (some .long) n) (hL : Cond.methodLink own idx y ∈ wT) (hc : vwCl[ci]? = some (C, T, N)) (hS : S[k]? = some (.inr (ci, fs)))
    (hst : st = As.reverse ++ .ref (a k) :: rest) (hn : As.length = n) (hls : ls.size = nL) (hd : d' + 1 ≤ d) (hnl : nL' ≤ 13) (hW : (rest.map fun v => v.category).sum ≤ 8) (hdg : decode cc pc = .ok (.invokevirtual idx, 3))
    (kk : ∀ (r : Int64) (V1 : sV) (H1 : Heap) (locs1 : List Loc), post r V1 → sWS D cI S a V1 s.heap H1 locs1 → W p l e (rmD d) s m args below meth c H1 locs1 0 0 Q (F0 m (pc + 3) ls (.long r :: rest))) : W p l e (rmD d) s m args below meth c H locs 0 0 Q (F0 m pc ls st) := by
  obtain ⟨hx, hb, hml, hown, hts, hlocks, hr, hK⟩ := G
  obtain ⟨hi, hP, hS0⟩ := X
  obtain ⟨i1, i2, i3, i4, i5, i6, i7, i8⟩ := hI
  subst hst
  have hG : GoodIn wT (wsV own idx C y (wM y cc' nL' (some .long))) := by
    intro w hw
    rcases List.mem_append.mp hw with hw | hw
    · have hw2 : w ∈ wT := by
        rcases List.mem_cons.mp hw with rfl | hw
        · exact hL
        rcases List.mem_cons.mp hw with rfl | hw
        · exact i2
        rcases List.mem_cons.mp hw with rfl | hw
        · exact i3
        rcases List.mem_cons.mp hw with rfl | hw
        · exact i4
        · cases hw
      exact ⟨hw2, good_of_word (wT_good hw2)⟩
    · exact wM_in i5 w hw
  refine va_calll (va_runV (nL := nL) (As := As) (rest := rest) ⟨hx, hb, hml, hown, hts⟩ (hM H.size) (cwV n hts hG rfl rfl rfl ⟨i1, i6, i7, i8⟩ ⟨hd, by show 8 + (nL' + 11) + 32 * d' ≤ 32 * d; omega⟩) ⟨sPc_blind, va_recv hK hP hc (sWd_get hS), fun U hU hWm => ⟨rfl, by rw [hU], by rw [hU]; exact hP, va_K.moved hWm.alike hK⟩⟩ rfl hn hls rfl (lv_room hW) hdg ⟨Nat.zero_le _, Nat.zero_le _⟩) hS0 (fun q hq h => sAsub hS0.1 q h) (fun q h => sAsub hS0.1 q h) (fun r u t H1 locs1 ht hvm hw hB hz1 hk1 hS1 => ?_)
  rw [ht] at hB
  exact kk r u H1 locs1 hw ⟨hi, hB, hS1⟩
end SBL
theorem kl_X10_157 : Cond.constantLong RX10 157 10 ∈ wT := wT_mem 1058 (by decide +kernel) (by decide +kernel)
def mK (V V1 : sV) : Prop := mI V1 ∧ V1 10 = V 10 ∧ V1 17 = V 17 ∧ V1 0 14 = V 0 14 ∧ V1 0 24 = V 0 24
theorem mK.ag {V V1 : sV} {L : List Nat} (h : mI V) (hA : sAg L V V1) (hL : ∀ k ∈ [0, 2, 3, 4, 6, 9, 10, 16, 17], k ∉ L) : mK V V1 := ⟨h.ag hA hL, hA 10 (hL 10 (by decide)), hA 17 (hL 17 (by decide)), by rw [hA 0 (hL 0 (by decide))], by rw [hA 0 (hL 0 (by decide))]⟩
theorem mI.agF {V V1 : sV} {L : List Nat} (h : mI V) (hA : sAg L V V1) (hL : ∀ k ∈ [2, 3, 4, 6, 9, 10, 16, 17], k ∉ L) (hF : mF (V1 0)) : mI V1 := by
  unfold mI
  rw [hA 2 (hL 2 (by decide)), hA 3 (hL 3 (by decide)), hA 4 (hL 4 (by decide)), hA 6 (hL 6 (by decide)), hA 9 (hL 9 (by decide)), hA 10 (hL 10 (by decide)), hA 16 (hL 16 (by decide)), hA 17 (hL 17 (by decide))]
  exact ⟨hF, h.2⟩
/-- a new object of the reference, as far as its answers show -/
def mFr (V : sV) : Prop := V 0 3 = 0 ∧ V 10 1 = 0 ∧ V 15 0 = 0 ∧ V 0 11 = 0 ∧ V 0 0 = 2 ∧ V 0 1 = 0 ∧ V 0 15 = 0 ∧ V 0 24 = 0 ∧ (∀ j, V 12 j = 0) ∧ V 10 0 = 10 ∧ V 10 2 = 0 ∧ V 0 14 = 0
theorem mFr.t {V : sV} (h : mFr V) : (V 0 3).toInt = 0 ∧ (V 0 11).toInt = 0 ∧ (V 0 0).toInt = 2 ∧ (V 0 1).toInt = 0 ∧ (V 0 15).toInt = 0 ∧ (V 0 24).toInt = 0 := by
  obtain ⟨h1, h2, h3, h4, h5, h6, h7, h8, -⟩ := h
  rw [h1, h4, h5, h6, h7, h8]
  decide
theorem mQ0 {V : sV} (h1 : V 10 1 = 0) (h2 : (V 0 3).toInt = 0) : mQuiet V := ⟨h1, fun h hh => by exfalso; omega⟩
theorem mFr.quiet {V : sV} (h : mFr V) : mQuiet V := mQ0 h.2.1 h.t.1
def nowM (V : sV) : Nat → Int32 := fun j => if j = 3 then V 0 14 else V 10 j
def imM (V : sV) : Nat → Int32 := fun j => if j = 3 then V 17 88 else V 17 (85 + j)
theorem nowF_nowM {V : sV} {w : Int32} : nowF (nowM V) w = if w.toInt = 0 then V 10 0 else if w.toInt = 1 then V 10 1 else if w.toInt = 2 then V 10 2 else V 0 14 := rfl
theorem mF_1 {f : Nat → Int32} {x : Int32} (h : mF f) (hx : 0 ≤ x.toInt ∧ x.toInt ≤ 80) : mF (upd f 1 x) := ⟨h.1, hx, h.2.2⟩
theorem mF_3 {f : Nat → Int32} {x : Int32} (h : mF f) (hx : 0 ≤ x.toInt ∧ x.toInt ≤ 10) : mF (upd f 3 x) := ⟨h.1, h.2.1, hx, h.2.2.2⟩
theorem mF_14 {f : Nat → Int32} {x : Int32} (h : mF f) (hx : -50 ≤ x.toInt ∧ x.toInt ≤ 50) : mF (upd f 14 x) := ⟨h.1, h.2.1, h.2.2.1, h.2.2.2.1, hx, h.2.2.2.2.2⟩
theorem mF_15 {f : Nat → Int32} {x : Int32} (h : mF f) (hx : 0 ≤ x.toInt ∧ x.toInt ≤ 10) : mF (upd f 15 x) := ⟨h.1, h.2.1, h.2.2.1, h.2.2.2.1, h.2.2.2.2.1, hx⟩
theorem mF_20 {f : Nat → Int32} {x : Int32} (h : mF f) : mF (upd f 20 x) := h
theorem mF_24 {f : Nat → Int32} {x : Int32} (h : mF f) : mF (upd f 24 x) := h
theorem mN_set {f : Nat → Int32} {w v : Int32} (h : mN f) (hw : 0 ≤ w.toInt) (hv : 0 ≤ v.toInt) (h0 : w.toInt = 0 → v.toInt ≤ 40) (h1 : w.toInt = 1 → v.toInt ≤ 20) : mN (upd f w.toNatClampNeg v) := by
  have hc := i32_cl hw
  refine ⟨?_, ?_⟩
  · show 0 ≤ (if 0 = w.toNatClampNeg then v else f 0).toInt ∧ (if 0 = w.toNatClampNeg then v else f 0).toInt ≤ 40
    by_cases hh : 0 = w.toNatClampNeg
    · rw [if_pos hh]; exact ⟨hv, h0 (by omega)⟩
    · rw [if_neg hh]; exact h.1
  · show 0 ≤ (if 1 = w.toNatClampNeg then v else f 1).toInt ∧ (if 1 = w.toNatClampNeg then v else f 1).toInt ≤ 20
    by_cases hh : 1 = w.toNatClampNeg
    · rw [if_pos hh]; exact ⟨hv, h1 (by omega)⟩
    · rw [if_neg hh]; exact h.2
theorem mI.now {V V1 : sV} {L : List Nat} (h : mI V) (hA : sAg L V V1) (hL : ∀ k ∈ [0, 2, 3, 4, 6, 9, 16, 17], k ∉ L) (hN : mN (V1 10)) : mI V1 := by
  unfold mI
  rw [hA 0 (hL 0 (by decide)), hA 2 (hL 2 (by decide)), hA 3 (hL 3 (by decide)), hA 4 (hL 4 (by decide)), hA 6 (hL 6 (by decide)), hA 9 (hL 9 (by decide)), hA 16 (hL 16 (by decide)), hA 17 (hL 17 (by decide))]
  exact ⟨h.1, h.2.1, hN, h.2.2.2⟩
theorem nowM_set {V : sV} {w v : Int32} (h0 : 0 ≤ w.toInt) (h2 : w.toInt ≤ 2) (j : Nat) : nowM (sUp V 10 (upd (V 10) w.toNatClampNeg v)) j = (if w.toInt = 0 then upd (nowM V) 0 v else if w.toInt = 1 then upd (nowM V) 1 v else upd (nowM V) 2 v) j := by
  have hc := i32_cl h0
  have e : (if w.toInt = 0 then upd (nowM V) 0 v else if w.toInt = 1 then upd (nowM V) 1 v else upd (nowM V) 2 v) = upd (nowM V) w.toNatClampNeg v := by
    by_cases q0 : w.toInt = 0
    · rw [if_pos q0, show w.toNatClampNeg = 0 by omega]
    · by_cases q1 : w.toInt = 1
      · rw [if_neg q0, if_pos q1, show w.toNatClampNeg = 1 by omega]
      · rw [if_neg q0, if_neg q1, show w.toNatClampNeg = 2 by omega]
  rw [e]
  show (if j = 3 then V 0 14 else (if j = w.toNatClampNeg then v else V 10 j)) = (if j = w.toNatClampNeg then v else (if j = 3 then V 0 14 else V 10 j))
  by_cases q : j = 3
  · rw [if_pos q, if_neg (by omega), if_pos q]
  · rw [if_neg q, if_neg q]
theorem nowM_fan {V : sV} {v : Int32} (j : Nat) : nowM (sUp V 0 (upd (V 0) 14 v)) j = upd (nowM V) 3 v j := by
  show (if j = 3 then v else V 10 j) = (if j = 3 then v else (if j = 3 then V 0 14 else V 10 j))
  by_cases q : j = 3
  · rw [if_pos q, if_pos q]
  · rw [if_neg q, if_neg q, if_neg q]
theorem m_3i {x i : Int32} (e : x = 3 * i) (h : 0 ≤ i.toInt ∧ i.toInt < 4) : x.toInt = 3 * i.toInt := m_k e (by decide) (by decide) ⟨h.1, by omega⟩
theorem mI.told0 {V : sV} (hm : mI V) {x i : Int32} (h : x.toInt = 3 * i.toInt) (h1 : 0 ≤ i.toInt ∧ i.toInt < 4) : 0 ≤ (V 9 x.toNatClampNeg).toInt ∧ (V 9 x.toNatClampNeg).toInt ≤ 40 := by
  have a := i32_cl (x := x) (by omega)
  have b := i32_cl h1.1
  have c := (hm.2.2.2.1 i.toNatClampNeg (by omega)).1
  rw [show x.toNatClampNeg = 3 * i.toNatClampNeg by omega]
  exact c
theorem mI.told1 {V : sV} (hm : mI V) {x i : Int32} (h : x.toInt = 3 * i.toInt + 1) (h1 : 0 ≤ i.toInt ∧ i.toInt < 4) : 0 ≤ (V 9 x.toNatClampNeg).toInt ∧ (V 9 x.toNatClampNeg).toInt ≤ 20 := by
  have a := i32_cl (x := x) (by omega)
  have b := i32_cl h1.1
  have c := (hm.2.2.2.1 i.toNatClampNeg (by omega)).2
  rw [show x.toNatClampNeg = 3 * i.toNatClampNeg + 1 by omega]
  exact c
def q_m_letter (V : sV) (i : Int32) : Int32 → sV → Prop := fun x V1 => mK V V1 ∧ (mFr V → x = fLetter i)
set_option maxRecDepth 100000 in
set_option maxHeartbeats 4000000 in
theorem k_m_letter {l : Launch} {D : va_G} {cI : ClassId} {a : Nat → Nat} (ha : sInj SM a) (V : sV) (i : Int32) (hm : mI V) : sMI l D cI SM a V yX10_letter cX10_letter 2 .int 1 [.ref (a 0), .int i] (q_m_letter V i) := by
  refine sMIof ha (by decide +kernel) (Nat.le_of_ble_eq_true rfl) ?_
  intro p e s m below meth c ls G X hl
  obtain ⟨hx, hb, hml, hown, hts, hlocks, hr, hK⟩ := id G
  have hl : lv_has ls 2 [(0, .ref (a 0)), (1, .int i)] := hl
  obtain ⟨mf0, mf1, mf3, mf11, mf14, mf15⟩ := hm.1
  refine lv_iload_n hx hb dX10_letter_0 rfl (lv_at hl 1 rfl) ?_
  refine sZge (tgt := 11) hx hb (rfl : Int32.toInt i = _) dX10_letter_1 (by decide) (fun c1 => ?_) (fun c1 => ?_)
  · skip
    refine lv_iload_n hx hb dX10_letter_11 rfl (lv_at hl 1 rfl) ?_
    refine lv_sipush (v := 255) hx hb dX10_letter_12 (by decide) ?_
    refine sIgt (tgt := 27) hx hb (rfl : Int32.toInt i = _) (by decide : (255 : Int32).toInt = 255) dX10_letter_15 (by decide) (fun c15 => ?_) (fun c15 => ?_)
    · skip
      refine lv_aload_n hx hb dX10_letter_27 rfl (lv_at hl 0 rfl) ?_
      refine lv_bipush (v := (-6)) hx hb dX10_letter_28 (by decide) ?_
      refine scI (ci := 9) (As := [.int (-6)]) (rest := []) G X (k_m_no ha V (-6) (by decide) (by decide)) iy_X10_no ml_X10_68 rfl rfl rfl rfl hl.1 (by decide) (by decide) (Nat.le_of_ble_eq_true rfl) dX10_letter_30 (fun y30 V30 H locs p30 X => ?_)
      exact srI G X (rfl) dX10_letter_33 (by exact ⟨(mK.ag hm ((sAg.mono p30.1 (by decide)) : sAg [1, 5, 7, 8, 11, 12, 13, 14, 15] V _) (by decide)), (fun hf => by have hg := hf.t; rw [p30.2]; unfold fLetter; (repeat' split) <;> first | rfl | (exfalso; omega))⟩)
    · skip
      refine lv_aload_n hx hb dX10_letter_18 rfl (lv_at hl 0 rfl) ?_
      refine sgI G X 0 1 rfl rfl fl_X10_72 dX10_letter_19 ?_
      refine lv_bipush (v := 80) hx hb dX10_letter_22 (by decide) ?_
      refine sIne (tgt := 34) hx hb (rfl : Int32.toInt (V 0 1) = _) (by decide : (80 : Int32).toInt = 80) dX10_letter_24 (by decide) (fun c24 => ?_) (fun c24 => ?_)
      · skip
        refine lv_aload_n hx hb dX10_letter_34 rfl (lv_at hl 0 rfl) ?_
        refine sgR G X 0 2 rfl rfl fl_X10_7 dX10_letter_35 ?_
        refine lv_aload_n hx hb dX10_letter_38 rfl (lv_at hl 0 rfl) ?_
        refine sgI G X 0 1 rfl rfl fl_X10_72 dX10_letter_39 ?_
        refine lv_iload_n hx hb dX10_letter_42 rfl (lv_at hl 1 rfl) ?_
        refine sst G X 1 rfl (i32_in (by omega) (by omega)) dX10_letter_43 (fun H locs X => ?_)
        refine lv_aload_n hx hb dX10_letter_44 rfl (lv_at hl 0 rfl) ?_
        refine lv_dup hx hb dX10_letter_45 rfl ?_
        refine sgI G X 0 1 rfl rfl fl_X10_72 dX10_letter_46 ?_
        refine sTop (y := V 0 1) rfl ?_
        refine lv_iconst (v := 1) hx hb dX10_letter_49 (by decide) ?_
        refine lv_iadd hx hb dX10_letter_50 ?_
        refine lv_topi (fun x50 e50 => ?_)
        refine lv_dup_x1 hx hb dX10_letter_51 rfl rfl ?_
        refine spI G X 0 1 rfl rfl fp_X10_72 dX10_letter_52 (fun H locs X => ?_)
        exact srI G X (rfl) dX10_letter_55 (by (have t50 : x50.toInt = (V 0 1).toInt + 1 := i32_i e50 (by omega); exact ⟨⟨hm.agF ((sAg.rf.up (by decide)).up (by decide) : sAg [0, 1] V _) (by decide) (mF_1 hm.1 (by omega)), rfl, rfl, rfl, rfl⟩, fun hf => by rw [e50, hf.2.2.2.2.2.1]; unfold fLetter; rw [if_neg (by omega), if_neg (by omega)]; rfl⟩))
      · skip
        refine lv_aload_n hx hb dX10_letter_27 rfl (lv_at hl 0 rfl) ?_
        refine lv_bipush (v := (-6)) hx hb dX10_letter_28 (by decide) ?_
        refine scI (ci := 9) (As := [.int (-6)]) (rest := []) G X (k_m_no ha V (-6) (by decide) (by decide)) iy_X10_no ml_X10_68 rfl rfl rfl rfl hl.1 (by decide) (by decide) (Nat.le_of_ble_eq_true rfl) dX10_letter_30 (fun y30 V30 H locs p30 X => ?_)
        exact srI G X (rfl) dX10_letter_33 (by exact ⟨(mK.ag hm ((sAg.mono p30.1 (by decide)) : sAg [1, 5, 7, 8, 11, 12, 13, 14, 15] V _) (by decide)), (fun hf => by have hg := hf.t; rw [p30.2]; unfold fLetter; (repeat' split) <;> first | rfl | (exfalso; omega))⟩)
  · skip
    refine lv_aload_n hx hb dX10_letter_4 rfl (lv_at hl 0 rfl) ?_
    refine lv_bipush (v := (-4)) hx hb dX10_letter_5 (by decide) ?_
    refine scI (ci := 9) (As := [.int (-4)]) (rest := []) G X (k_m_no ha V (-4) (by decide) (by decide)) iy_X10_no ml_X10_68 rfl rfl rfl rfl hl.1 (by decide) (by decide) (Nat.le_of_ble_eq_true rfl) dX10_letter_7 (fun y7 V7 H locs p7 X => ?_)
    exact srI G X (rfl) dX10_letter_10 (by exact ⟨(mK.ag hm ((sAg.mono p7.1 (by decide)) : sAg [1, 5, 7, 8, 11, 12, 13, 14, 15] V _) (by decide)), (fun hf => by have hg := hf.t; rw [p7.2]; unfold fLetter; (repeat' split) <;> first | rfl | (exfalso; omega))⟩)
def q_m_hole (V : sV) (i w : Int32) : Int32 → sV → Prop := fun x V1 => mK V V1 ∧ (mFr V → x = -1)
set_option maxRecDepth 100000 in
set_option maxHeartbeats 4000000 in
theorem k_m_hole {l : Launch} {D : va_G} {cI : ClassId} {a : Nat → Nat} (ha : sInj SM a) (V : sV) (i w : Int32) (hm : mI V) : sMI l D cI SM a V yX10_hole cX10_hole 3 .int 1 [.ref (a 0), .int i, .int w] (q_m_hole V i w) := by
  refine sMIof ha (by decide +kernel) (Nat.le_of_ble_eq_true rfl) ?_
  intro p e s m below meth c ls G X hl
  obtain ⟨hx, hb, hml, hown, hts, hlocks, hr, hK⟩ := id G
  have hl : lv_has ls 3 [(0, .ref (a 0)), (1, .int i), (2, .int w)] := hl
  obtain ⟨mf0, mf1, mf3, mf11, mf14, mf15⟩ := hm.1
  refine lv_aload_n hx hb dX10_hole_0 rfl (lv_at hl 0 rfl) ?_
  refine lv_iload_n hx hb dX10_hole_1 rfl (lv_at hl 1 rfl) ?_
  refine scI (ci := 9) (As := [.int i]) (rest := []) G X (k_m_isHole ha V i) iy_X10_isHole ml_X10_122 rfl rfl rfl rfl hl.1 (by decide) (by decide) (Nat.le_of_ble_eq_true rfl) dX10_hole_2 (fun y2 V2 H locs p2 X => ?_)
  obtain ⟨p2, z2⟩ := p2
  subst V2
  refine sZne (tgt := 14) hx hb (rfl : Int32.toInt y2 = _) dX10_hole_5 (by decide) (fun c5 => ?_) (fun c5 => ?_)
  · skip
    refine lv_iload_n hx hb dX10_hole_14 rfl (lv_at hl 2 rfl) ?_
    by_cases hs15 : Int32.toInt w < 0 ∨ 6 < Int32.toInt w
    · refine lv_tableOut (tgt := 105) hx hb dX10_hole_15 hs15 (by decide) ?_
      refine lv_aload_n hx hb dX10_hole_105 rfl (lv_at hl 0 rfl) ?_
      refine lv_bipush (v := (-2)) hx hb dX10_hole_106 (by decide) ?_
      refine scI (ci := 9) (As := [.int (-2)]) (rest := []) G X (k_m_no ha V (-2) (by decide) (by decide)) iy_X10_no ml_X10_68 rfl rfl rfl rfl hl.1 (by decide) (by decide) (Nat.le_of_ble_eq_true rfl) dX10_hole_108 (fun y108 V108 H locs p108 X => ?_)
      exact srI G X (rfl) dX10_hole_111 (by exact ⟨(mK.ag hm ((sAg.mono p108.1 (by decide)) : sAg [1, 5, 7, 8, 11, 12, 13, 14, 15] V _) (by decide)), (fun hf => by exfalso; have hg := hf.t; omega)⟩)
    by_cases hs15_0 : Int32.toInt w = 0
    · refine lv_tableIn (tgt := 56) (off := 41) hx hb dX10_hole_15 (by rw [hs15_0]; decide) (by rw [hs15_0]; decide) (by rw [hs15_0]; rfl) (by decide) ?_
      refine lv_aload_n hx hb dX10_hole_56 rfl (lv_at hl 0 rfl) ?_
      refine sgR G X 0 4 rfl rfl fl_X10_13 dX10_hole_57 ?_
      refine lv_iload_n hx hb dX10_hole_60 rfl (lv_at hl 1 rfl) ?_
      refine sld G X 2 rfl (i32_in (by omega) (by omega)) dX10_hole_61 ?_
      refine lv_topi (fun x61 e61 => ?_)
      exact srI G X (rfl) dX10_hole_62 (by exact ⟨(mK.ag hm (sAg.rf : sAg [1, 5, 7, 8, 11, 12, 13, 14, 15] V _) (by decide)), (fun hf => by exfalso; have hg := hf.t; omega)⟩)
    by_cases hs15_1 : Int32.toInt w = 1
    · refine lv_tableIn (tgt := 63) (off := 48) hx hb dX10_hole_15 (by rw [hs15_1]; decide) (by rw [hs15_1]; decide) (by rw [hs15_1]; rfl) (by decide) ?_
      refine lv_aload_n hx hb dX10_hole_63 rfl (lv_at hl 0 rfl) ?_
      refine sgR G X 0 5 rfl rfl fl_X10_16 dX10_hole_64 ?_
      refine lv_iload_n hx hb dX10_hole_67 rfl (lv_at hl 1 rfl) ?_
      refine sld G X 3 rfl (i32_in (by omega) (by omega)) dX10_hole_68 ?_
      refine lv_topi (fun x68 e68 => ?_)
      exact srI G X (rfl) dX10_hole_69 (by exact ⟨(mK.ag hm (sAg.rf : sAg [1, 5, 7, 8, 11, 12, 13, 14, 15] V _) (by decide)), (fun hf => by exfalso; have hg := hf.t; omega)⟩)
    by_cases hs15_2 : Int32.toInt w = 2
    · refine lv_tableIn (tgt := 70) (off := 55) hx hb dX10_hole_15 (by rw [hs15_2]; decide) (by rw [hs15_2]; decide) (by rw [hs15_2]; rfl) (by decide) ?_
      refine lv_aload_n hx hb dX10_hole_70 rfl (lv_at hl 0 rfl) ?_
      refine sgR G X 0 6 rfl rfl fl_X10_19 dX10_hole_71 ?_
      refine lv_iload_n hx hb dX10_hole_74 rfl (lv_at hl 1 rfl) ?_
      refine sld G X 4 rfl (i32_in (by omega) (by omega)) dX10_hole_75 ?_
      refine lv_topi (fun x75 e75 => ?_)
      exact srI G X (rfl) dX10_hole_76 (by exact ⟨(mK.ag hm (sAg.rf : sAg [1, 5, 7, 8, 11, 12, 13, 14, 15] V _) (by decide)), (fun hf => by exfalso; have hg := hf.t; omega)⟩)
    by_cases hs15_3 : Int32.toInt w = 3
    · refine lv_tableIn (tgt := 77) (off := 62) hx hb dX10_hole_15 (by rw [hs15_3]; decide) (by rw [hs15_3]; decide) (by rw [hs15_3]; rfl) (by decide) ?_
      refine lv_aload_n hx hb dX10_hole_77 rfl (lv_at hl 0 rfl) ?_
      refine sgR G X 0 7 rfl rfl fl_X10_22 dX10_hole_78 ?_
      refine lv_iload_n hx hb dX10_hole_81 rfl (lv_at hl 1 rfl) ?_
      refine sld G X 5 rfl (i32_in (by omega) (by omega)) dX10_hole_82 ?_
      refine lv_topi (fun x82 e82 => ?_)
      exact srI G X (rfl) dX10_hole_83 (by exact ⟨(mK.ag hm (sAg.rf : sAg [1, 5, 7, 8, 11, 12, 13, 14, 15] V _) (by decide)), (fun hf => by exfalso; have hg := hf.t; omega)⟩)
    by_cases hs15_4 : Int32.toInt w = 4
    · refine lv_tableIn (tgt := 84) (off := 69) hx hb dX10_hole_15 (by rw [hs15_4]; decide) (by rw [hs15_4]; decide) (by rw [hs15_4]; rfl) (by decide) ?_
      refine lv_aload_n hx hb dX10_hole_84 rfl (lv_at hl 0 rfl) ?_
      refine sgR G X 0 8 rfl rfl fl_X10_25 dX10_hole_85 ?_
      refine lv_iload_n hx hb dX10_hole_88 rfl (lv_at hl 1 rfl) ?_
      refine sld G X 6 rfl (i32_in (by omega) (by omega)) dX10_hole_89 ?_
      refine lv_topi (fun x89 e89 => ?_)
      exact srI G X (rfl) dX10_hole_90 (by exact ⟨(mK.ag hm (sAg.rf : sAg [1, 5, 7, 8, 11, 12, 13, 14, 15] V _) (by decide)), (fun hf => by exfalso; have hg := hf.t; omega)⟩)
    by_cases hs15_5 : Int32.toInt w = 5
    · refine lv_tableIn (tgt := 91) (off := 76) hx hb dX10_hole_15 (by rw [hs15_5]; decide) (by rw [hs15_5]; decide) (by rw [hs15_5]; rfl) (by decide) ?_
      refine lv_aload_n hx hb dX10_hole_91 rfl (lv_at hl 0 rfl) ?_
      refine sgR G X 0 9 rfl rfl fl_X10_28 dX10_hole_92 ?_
      refine lv_iload_n hx hb dX10_hole_95 rfl (lv_at hl 1 rfl) ?_
      refine sld G X 7 rfl (i32_in (by omega) (by omega)) dX10_hole_96 ?_
      refine lv_topi (fun x96 e96 => ?_)
      exact srI G X (rfl) dX10_hole_97 (by exact ⟨(mK.ag hm (sAg.rf : sAg [1, 5, 7, 8, 11, 12, 13, 14, 15] V _) (by decide)), (fun hf => by exfalso; have hg := hf.t; omega)⟩)
    by_cases hs15_6 : Int32.toInt w = 6
    · refine lv_tableIn (tgt := 98) (off := 83) hx hb dX10_hole_15 (by rw [hs15_6]; decide) (by rw [hs15_6]; decide) (by rw [hs15_6]; rfl) (by decide) ?_
      refine lv_aload_n hx hb dX10_hole_98 rfl (lv_at hl 0 rfl) ?_
      refine sgR G X 0 10 rfl rfl fl_X10_31 dX10_hole_99 ?_
      refine lv_iload_n hx hb dX10_hole_102 rfl (lv_at hl 1 rfl) ?_
      refine sld G X 8 rfl (i32_in (by omega) (by omega)) dX10_hole_103 ?_
      refine lv_topi (fun x103 e103 => ?_)
      exact srI G X (rfl) dX10_hole_104 (by exact ⟨(mK.ag hm (sAg.rf : sAg [1, 5, 7, 8, 11, 12, 13, 14, 15] V _) (by decide)), (fun hf => by exfalso; have hg := hf.t; omega)⟩)
    exact absurd hs15 (by omega)
  · skip
    refine lv_aload_n hx hb dX10_hole_8 rfl (lv_at hl 0 rfl) ?_
    refine lv_iconst (v := (-1)) hx hb dX10_hole_9 (by decide) ?_
    refine scI (ci := 9) (As := [.int (-1)]) (rest := []) G X (k_m_no ha V (-1) (by decide) (by decide)) iy_X10_no ml_X10_68 rfl rfl rfl rfl hl.1 (by decide) (by decide) (Nat.le_of_ble_eq_true rfl) dX10_hole_10 (fun y10 V10 H locs p10 X => ?_)
    exact srI G X (rfl) dX10_hole_13 (by exact ⟨(mK.ag hm ((sAg.mono p10.1 (by decide)) : sAg [1, 5, 7, 8, 11, 12, 13, 14, 15] V _) (by decide)), fun _ => p10.2⟩)
def q_m_weather (V : sV) (i w : Int32) : Int32 → sV → Prop := fun x V1 => mK V V1 ∧ (mFr V → x = -1)
set_option maxRecDepth 100000 in
set_option maxHeartbeats 4000000 in
theorem k_m_weather {l : Launch} {D : va_G} {cI : ClassId} {a : Nat → Nat} (ha : sInj SM a) (V : sV) (i w : Int32) (hm : mI V) : sMI l D cI SM a V yX10_weather cX10_weather 3 .int 1 [.ref (a 0), .int i, .int w] (q_m_weather V i w) := by
  refine sMIof ha (by decide +kernel) (Nat.le_of_ble_eq_true rfl) ?_
  intro p e s m below meth c ls G X hl
  obtain ⟨hx, hb, hml, hown, hts, hlocks, hr, hK⟩ := id G
  have hl : lv_has ls 3 [(0, .ref (a 0)), (1, .int i), (2, .int w)] := hl
  obtain ⟨mf0, mf1, mf3, mf11, mf14, mf15⟩ := hm.1
  refine lv_iload_n hx hb dX10_weather_0 rfl (lv_at hl 1 rfl) ?_
  refine sZlt (tgt := 12) hx hb (rfl : Int32.toInt i = _) dX10_weather_1 (by decide) (fun c1 => ?_) (fun c1 => ?_)
  · skip
    refine lv_aload_n hx hb dX10_weather_12 rfl (lv_at hl 0 rfl) ?_
    refine lv_iconst (v := (-1)) hx hb dX10_weather_13 (by decide) ?_
    refine scI (ci := 9) (As := [.int (-1)]) (rest := []) G X (k_m_no ha V (-1) (by decide) (by decide)) iy_X10_no ml_X10_68 rfl rfl rfl rfl hl.1 (by decide) (by decide) (Nat.le_of_ble_eq_true rfl) dX10_weather_14 (fun y14 V14 H locs p14 X => ?_)
    exact srI G X (rfl) dX10_weather_17 (by exact ⟨(mK.ag hm ((sAg.mono p14.1 (by decide)) : sAg [1, 5, 7, 8, 11, 12, 13, 14, 15] V _) (by decide)), fun _ => p14.2⟩)
  · skip
    refine lv_iload_n hx hb dX10_weather_4 rfl (lv_at hl 1 rfl) ?_
    refine lv_aload_n hx hb dX10_weather_5 rfl (lv_at hl 0 rfl) ?_
    refine sgI G X 0 11 rfl rfl fl_X10_113 dX10_weather_6 ?_
    refine sIlt (tgt := 18) hx hb (rfl : Int32.toInt i = _) (rfl : Int32.toInt (V 0 11) = _) dX10_weather_9 (by decide) (fun c9 => ?_) (fun c9 => ?_)
    · skip
      refine lv_iload_n hx hb dX10_weather_18 rfl (lv_at hl 2 rfl) ?_
      refine sZlt (tgt := 27) hx hb (rfl : Int32.toInt w = _) dX10_weather_19 (by decide) (fun c19 => ?_) (fun c19 => ?_)
      · skip
        refine lv_aload_n hx hb dX10_weather_27 rfl (lv_at hl 0 rfl) ?_
        refine lv_bipush (v := (-2)) hx hb dX10_weather_28 (by decide) ?_
        refine scI (ci := 9) (As := [.int (-2)]) (rest := []) G X (k_m_no ha V (-2) (by decide) (by decide)) iy_X10_no ml_X10_68 rfl rfl rfl rfl hl.1 (by decide) (by decide) (Nat.le_of_ble_eq_true rfl) dX10_weather_30 (fun y30 V30 H locs p30 X => ?_)
        refine lv_goto (tgt := 46) hx hb dX10_weather_33 (by decide) ?_
        exact srI G X (rfl) dX10_weather_46 (by first | exact ⟨(mK.ag hm ((sAg.mono p30.1 (by decide)) : sAg [1, 5, 7, 8, 11, 12, 13, 14, 15] V _) (by decide)), (fun hf => by exfalso; have hg := hf.t; omega)⟩ | exact ⟨(mK.ag hm (sAg.rf : sAg [1, 5, 7, 8, 11, 12, 13, 14, 15] V _) (by decide)), (fun hf => by exfalso; have hg := hf.t; omega)⟩)
      · skip
        refine lv_iload_n hx hb dX10_weather_22 rfl (lv_at hl 2 rfl) ?_
        refine lv_iconst (v := 2) hx hb dX10_weather_23 (by decide) ?_
        refine sIle (tgt := 36) hx hb (rfl : Int32.toInt w = _) (by decide : (2 : Int32).toInt = 2) dX10_weather_24 (by decide) (fun c24 => ?_) (fun c24 => ?_)
        · skip
          refine lv_aload_n hx hb dX10_weather_36 rfl (lv_at hl 0 rfl) ?_
          refine sgR G X 0 12 rfl rfl fl_X10_34 dX10_weather_37 ?_
          refine lv_iconst (v := 3) hx hb dX10_weather_40 (by decide) ?_
          refine lv_iload_n hx hb dX10_weather_41 rfl (lv_at hl 1 rfl) ?_
          refine lv_imul hx hb dX10_weather_42 ?_
          refine lv_topi (fun x42 e42 => ?_)
          refine lv_iload_n hx hb dX10_weather_43 rfl (lv_at hl 2 rfl) ?_
          refine lv_iadd hx hb dX10_weather_44 ?_
          refine lv_topi (fun x44 e44 => ?_)
          have t42 := m_3i e42 (by omega)
          have t44 := i32_adde e44 (by omega) (by omega)
          refine sld G X 9 rfl (i32_in (by omega) (by omega)) dX10_weather_45 ?_
          refine lv_topi (fun x45 e45 => ?_)
          exact srI G X (rfl) dX10_weather_46 (by first | exact ⟨(mK.ag hm ((sAg.mono p30.1 (by decide)) : sAg [1, 5, 7, 8, 11, 12, 13, 14, 15] V _) (by decide)), (fun hf => by exfalso; have hg := hf.t; omega)⟩ | exact ⟨(mK.ag hm (sAg.rf : sAg [1, 5, 7, 8, 11, 12, 13, 14, 15] V _) (by decide)), (fun hf => by exfalso; have hg := hf.t; omega)⟩)
        · skip
          refine lv_aload_n hx hb dX10_weather_27 rfl (lv_at hl 0 rfl) ?_
          refine lv_bipush (v := (-2)) hx hb dX10_weather_28 (by decide) ?_
          refine scI (ci := 9) (As := [.int (-2)]) (rest := []) G X (k_m_no ha V (-2) (by decide) (by decide)) iy_X10_no ml_X10_68 rfl rfl rfl rfl hl.1 (by decide) (by decide) (Nat.le_of_ble_eq_true rfl) dX10_weather_30 (fun y30 V30 H locs p30 X => ?_)
          refine lv_goto (tgt := 46) hx hb dX10_weather_33 (by decide) ?_
          exact srI G X (rfl) dX10_weather_46 (by first | exact ⟨(mK.ag hm ((sAg.mono p30.1 (by decide)) : sAg [1, 5, 7, 8, 11, 12, 13, 14, 15] V _) (by decide)), (fun hf => by exfalso; have hg := hf.t; omega)⟩ | exact ⟨(mK.ag hm (sAg.rf : sAg [1, 5, 7, 8, 11, 12, 13, 14, 15] V _) (by decide)), (fun hf => by exfalso; have hg := hf.t; omega)⟩)
    · skip
      refine lv_aload_n hx hb dX10_weather_12 rfl (lv_at hl 0 rfl) ?_
      refine lv_iconst (v := (-1)) hx hb dX10_weather_13 (by decide) ?_
      refine scI (ci := 9) (As := [.int (-1)]) (rest := []) G X (k_m_no ha V (-1) (by decide) (by decide)) iy_X10_no ml_X10_68 rfl rfl rfl rfl hl.1 (by decide) (by decide) (Nat.le_of_ble_eq_true rfl) dX10_weather_14 (fun y14 V14 H locs p14 X => ?_)
      exact srI G X (rfl) dX10_weather_17 (by exact ⟨(mK.ag hm ((sAg.mono p14.1 (by decide)) : sAg [1, 5, 7, 8, 11, 12, 13, 14, 15] V _) (by decide)), fun _ => p14.2⟩)
def q_m_set (V : sV) (w v : Int32) : Int32 → sV → Prop := fun x V1 => mI V1 ∧ V1 17 = V 17 ∧ V1 0 24 = V 0 24 ∧ x = setX (nowM V) w v ∧ ∀ j, j < 4 → nowM V1 j = setN (nowM V) w v j
set_option maxRecDepth 100000 in
set_option maxHeartbeats 4000000 in
theorem k_m_set {l : Launch} {D : va_G} {cI : ClassId} {a : Nat → Nat} (ha : sInj SM a) (V : sV) (w v : Int32) (hm : mI V) : sMI l D cI SM a V yX10_set cX10_set 4 .int 1 [.ref (a 0), .int w, .int v] (q_m_set V w v) := by
  refine sMIof ha (by decide +kernel) (Nat.le_of_ble_eq_true rfl) ?_
  intro p e s m below meth c ls G X hl
  obtain ⟨hx, hb, hml, hown, hts, hlocks, hr, hK⟩ := id G
  have hl : lv_has ls 4 [(0, .ref (a 0)), (1, .int w), (2, .int v)] := hl
  obtain ⟨mf0, mf1, mf3, mf11, mf14, mf15⟩ := hm.1
  refine lv_iload_n hx hb dX10_set_0 rfl (lv_at hl 1 rfl) ?_
  refine sZlt (tgt := 9) hx hb (rfl : Int32.toInt w = _) dX10_set_1 (by decide) (fun c1 => ?_) (fun c1 => ?_)
  · skip
    refine lv_aload_n hx hb dX10_set_9 rfl (lv_at hl 0 rfl) ?_
    refine lv_bipush (v := (-2)) hx hb dX10_set_10 (by decide) ?_
    refine scI (ci := 9) (As := [.int (-2)]) (rest := []) G X (k_m_no ha V (-2) (by decide) (by decide)) iy_X10_no ml_X10_68 rfl rfl rfl rfl hl.1 (by decide) (by decide) (Nat.le_of_ble_eq_true rfl) dX10_set_12 (fun y12 V12 H locs p12 X => ?_)
    exact srI G X (rfl) dX10_set_15 (by (have hb := setX_bad (f := nowM V) (show setC w v = -2 from by unfold setC; exact if_pos (by omega)) (by decide); have hK := (mK.ag hm ((sAg.mono p12.1 (by decide)) : sAg [1, 5, 7, 8, 11, 12, 13, 14, 15] V _) (by decide)); exact ⟨hK.1, hK.2.2.1, hK.2.2.2.2, by rw [p12.2]; exact hb.1, fun j hj => by rw [← hb.2]; unfold nowM; rw [hK.2.1, hK.2.2.2.1]⟩))
  · skip
    refine lv_iload_n hx hb dX10_set_4 rfl (lv_at hl 1 rfl) ?_
    refine lv_iconst (v := 2) hx hb dX10_set_5 (by decide) ?_
    refine sIle (tgt := 16) hx hb (rfl : Int32.toInt w = _) (by decide : (2 : Int32).toInt = 2) dX10_set_6 (by decide) (fun c6 => ?_) (fun c6 => ?_)
    · skip
      refine lv_iload_n hx hb dX10_set_16 rfl (lv_at hl 2 rfl) ?_
      refine sZge (tgt := 27) hx hb (rfl : Int32.toInt v = _) dX10_set_17 (by decide) (fun c17 => ?_) (fun c17 => ?_)
      · skip
        refine lv_iload_n hx hb dX10_set_27 rfl (lv_at hl 2 rfl) ?_
        refine lv_iload_n hx hb dX10_set_28 rfl (lv_at hl 1 rfl) ?_
        refine sZne (tgt := 37) hx hb (rfl : Int32.toInt w = _) dX10_set_29 (by decide) (fun c29 => ?_) (fun c29 => ?_)
        · skip
          refine lv_iload_n hx hb dX10_set_37 rfl (lv_at hl 1 rfl) ?_
          refine lv_iconst (v := 1) hx hb dX10_set_38 (by decide) ?_
          refine sIne (tgt := 47) hx hb (rfl : Int32.toInt w = _) (by decide : (1 : Int32).toInt = 1) dX10_set_39 (by decide) (fun c39 => ?_) (fun c39 => ?_)
          · skip
            refine lv_iconst (v := 3) hx hb dX10_set_47 (by decide) ?_
            refine sIle (tgt := 58) hx hb (rfl : Int32.toInt v = _) (by decide : (3 : Int32).toInt = 3) dX10_set_48 (by decide) (fun c48 => ?_) (fun c48 => ?_)
            · skip
              refine lv_aload_n hx hb dX10_set_58 rfl (lv_at hl 0 rfl) ?_
              refine sgR G X 0 13 rfl rfl fl_X10_37 dX10_set_59 ?_
              refine lv_iload_n hx hb dX10_set_62 rfl (lv_at hl 1 rfl) ?_
              refine sld G X 10 rfl (i32_in (by omega) (by omega)) dX10_set_63 ?_
              refine lv_topi (fun x63 e63 => ?_)
              refine lv_istore_n (lv' := [(3, .int x63), (0, .ref (a 0)), (1, .int w), (2, .int v)]) hx hb dX10_set_64 rfl hl (by decide) rfl (fun ls hl => ?_)
              refine lv_aload_n hx hb dX10_set_65 rfl (lv_at hl 1 rfl) ?_
              refine sgR G X 0 13 rfl rfl fl_X10_37 dX10_set_66 ?_
              refine lv_iload_n hx hb dX10_set_69 rfl (lv_at hl 2 rfl) ?_
              refine lv_iload_n hx hb dX10_set_70 rfl (lv_at hl 3 rfl) ?_
              refine sst G X 10 rfl (i32_in (by omega) (by omega)) dX10_set_71 (fun H locs X => ?_)
              refine lv_iload_n hx hb dX10_set_72 rfl (lv_at hl 0 rfl) ?_
              exact srI G X (rfl) dX10_set_73 (by first | (exfalso; omega) | (have ho := setX_ok (f := nowM V) (show setC w v = 0 from by unfold setC; rw [if_neg (by omega), if_neg (by omega), if_neg (by (repeat' split) <;> omega)]); exact ⟨hm.now (sAg.rf.up (by decide) : sAg [10] V _) (by decide) (by rw [sUp_s]; exact mN_set hm.2.2.1 (by omega) (by omega) (by omega) (by omega)), rfl, rfl, by rw [ho.1, nowF_nowM, e63]; have hc := i32_cl (x := w) (by omega); first | rw [if_pos (by omega), show w.toNatClampNeg = 0 by omega] | rw [if_neg (by omega), if_pos (by omega), show w.toNatClampNeg = 1 by omega] | rw [if_neg (by omega), if_neg (by omega), if_pos (by omega), show w.toNatClampNeg = 2 by omega], fun j hj => by rw [ho.2]; exact nowM_set (by omega) (by omega) j⟩))
            · skip
              refine lv_aload_n hx hb dX10_set_51 rfl (lv_at hl 0 rfl) ?_
              refine lv_bipush (v := (-6)) hx hb dX10_set_52 (by decide) ?_
              refine scI (ci := 9) (As := [.int (-6)]) (rest := []) G X (k_m_no ha V (-6) (by decide) (by decide)) iy_X10_no ml_X10_68 rfl rfl rfl rfl hl.1 (by decide) (by decide) (Nat.le_of_ble_eq_true rfl) dX10_set_54 (fun y54 V54 H locs p54 X => ?_)
              exact srI G X (rfl) dX10_set_57 (by first | (exfalso; omega) | (have hb := setX_bad (f := nowM V) (show setC w v = -6 from by unfold setC; rw [if_neg (by omega), if_neg (by omega), if_pos (by (repeat' split) <;> omega)]) (by decide); have hK := (mK.ag hm ((sAg.mono p54.1 (by decide)) : sAg [1, 5, 7, 8, 11, 12, 13, 14, 15] V _) (by decide)); exact ⟨hK.1, hK.2.2.1, hK.2.2.2.2, by rw [p54.2]; exact hb.1, fun j hj => by rw [← hb.2]; unfold nowM; rw [hK.2.1, hK.2.2.2.1]⟩))
          · skip
            refine lv_bipush (v := 20) hx hb dX10_set_42 (by decide) ?_
            refine lv_goto (tgt := 48) hx hb dX10_set_44 (by decide) ?_
            refine sIle (tgt := 58) hx hb (rfl : Int32.toInt v = _) (by decide : (20 : Int32).toInt = 20) dX10_set_48 (by decide) (fun c48 => ?_) (fun c48 => ?_)
            · skip
              refine lv_aload_n hx hb dX10_set_58 rfl (lv_at hl 0 rfl) ?_
              refine sgR G X 0 13 rfl rfl fl_X10_37 dX10_set_59 ?_
              refine lv_iload_n hx hb dX10_set_62 rfl (lv_at hl 1 rfl) ?_
              refine sld G X 10 rfl (i32_in (by omega) (by omega)) dX10_set_63 ?_
              refine lv_topi (fun x63 e63 => ?_)
              refine lv_istore_n (lv' := [(3, .int x63), (0, .ref (a 0)), (1, .int w), (2, .int v)]) hx hb dX10_set_64 rfl hl (by decide) rfl (fun ls hl => ?_)
              refine lv_aload_n hx hb dX10_set_65 rfl (lv_at hl 1 rfl) ?_
              refine sgR G X 0 13 rfl rfl fl_X10_37 dX10_set_66 ?_
              refine lv_iload_n hx hb dX10_set_69 rfl (lv_at hl 2 rfl) ?_
              refine lv_iload_n hx hb dX10_set_70 rfl (lv_at hl 3 rfl) ?_
              refine sst G X 10 rfl (i32_in (by omega) (by omega)) dX10_set_71 (fun H locs X => ?_)
              refine lv_iload_n hx hb dX10_set_72 rfl (lv_at hl 0 rfl) ?_
              exact srI G X (rfl) dX10_set_73 (by first | (exfalso; omega) | (have ho := setX_ok (f := nowM V) (show setC w v = 0 from by unfold setC; rw [if_neg (by omega), if_neg (by omega), if_neg (by (repeat' split) <;> omega)]); exact ⟨hm.now (sAg.rf.up (by decide) : sAg [10] V _) (by decide) (by rw [sUp_s]; exact mN_set hm.2.2.1 (by omega) (by omega) (by omega) (by omega)), rfl, rfl, by rw [ho.1, nowF_nowM, e63]; have hc := i32_cl (x := w) (by omega); first | rw [if_pos (by omega), show w.toNatClampNeg = 0 by omega] | rw [if_neg (by omega), if_pos (by omega), show w.toNatClampNeg = 1 by omega] | rw [if_neg (by omega), if_neg (by omega), if_pos (by omega), show w.toNatClampNeg = 2 by omega], fun j hj => by rw [ho.2]; exact nowM_set (by omega) (by omega) j⟩))
            · skip
              refine lv_aload_n hx hb dX10_set_51 rfl (lv_at hl 0 rfl) ?_
              refine lv_bipush (v := (-6)) hx hb dX10_set_52 (by decide) ?_
              refine scI (ci := 9) (As := [.int (-6)]) (rest := []) G X (k_m_no ha V (-6) (by decide) (by decide)) iy_X10_no ml_X10_68 rfl rfl rfl rfl hl.1 (by decide) (by decide) (Nat.le_of_ble_eq_true rfl) dX10_set_54 (fun y54 V54 H locs p54 X => ?_)
              exact srI G X (rfl) dX10_set_57 (by first | (exfalso; omega) | (have hb := setX_bad (f := nowM V) (show setC w v = -6 from by unfold setC; rw [if_neg (by omega), if_neg (by omega), if_pos (by (repeat' split) <;> omega)]) (by decide); have hK := (mK.ag hm ((sAg.mono p54.1 (by decide)) : sAg [1, 5, 7, 8, 11, 12, 13, 14, 15] V _) (by decide)); exact ⟨hK.1, hK.2.2.1, hK.2.2.2.2, by rw [p54.2]; exact hb.1, fun j hj => by rw [← hb.2]; unfold nowM; rw [hK.2.1, hK.2.2.2.1]⟩))
        · skip
          refine lv_bipush (v := 40) hx hb dX10_set_32 (by decide) ?_
          refine lv_goto (tgt := 48) hx hb dX10_set_34 (by decide) ?_
          refine sIle (tgt := 58) hx hb (rfl : Int32.toInt v = _) (by decide : (40 : Int32).toInt = 40) dX10_set_48 (by decide) (fun c48 => ?_) (fun c48 => ?_)
          · skip
            refine lv_aload_n hx hb dX10_set_58 rfl (lv_at hl 0 rfl) ?_
            refine sgR G X 0 13 rfl rfl fl_X10_37 dX10_set_59 ?_
            refine lv_iload_n hx hb dX10_set_62 rfl (lv_at hl 1 rfl) ?_
            refine sld G X 10 rfl (i32_in (by omega) (by omega)) dX10_set_63 ?_
            refine lv_topi (fun x63 e63 => ?_)
            refine lv_istore_n (lv' := [(3, .int x63), (0, .ref (a 0)), (1, .int w), (2, .int v)]) hx hb dX10_set_64 rfl hl (by decide) rfl (fun ls hl => ?_)
            refine lv_aload_n hx hb dX10_set_65 rfl (lv_at hl 1 rfl) ?_
            refine sgR G X 0 13 rfl rfl fl_X10_37 dX10_set_66 ?_
            refine lv_iload_n hx hb dX10_set_69 rfl (lv_at hl 2 rfl) ?_
            refine lv_iload_n hx hb dX10_set_70 rfl (lv_at hl 3 rfl) ?_
            refine sst G X 10 rfl (i32_in (by omega) (by omega)) dX10_set_71 (fun H locs X => ?_)
            refine lv_iload_n hx hb dX10_set_72 rfl (lv_at hl 0 rfl) ?_
            exact srI G X (rfl) dX10_set_73 (by first | (exfalso; omega) | (have ho := setX_ok (f := nowM V) (show setC w v = 0 from by unfold setC; rw [if_neg (by omega), if_neg (by omega), if_neg (by (repeat' split) <;> omega)]); exact ⟨hm.now (sAg.rf.up (by decide) : sAg [10] V _) (by decide) (by rw [sUp_s]; exact mN_set hm.2.2.1 (by omega) (by omega) (by omega) (by omega)), rfl, rfl, by rw [ho.1, nowF_nowM, e63]; have hc := i32_cl (x := w) (by omega); first | rw [if_pos (by omega), show w.toNatClampNeg = 0 by omega] | rw [if_neg (by omega), if_pos (by omega), show w.toNatClampNeg = 1 by omega] | rw [if_neg (by omega), if_neg (by omega), if_pos (by omega), show w.toNatClampNeg = 2 by omega], fun j hj => by rw [ho.2]; exact nowM_set (by omega) (by omega) j⟩))
          · skip
            refine lv_aload_n hx hb dX10_set_51 rfl (lv_at hl 0 rfl) ?_
            refine lv_bipush (v := (-6)) hx hb dX10_set_52 (by decide) ?_
            refine scI (ci := 9) (As := [.int (-6)]) (rest := []) G X (k_m_no ha V (-6) (by decide) (by decide)) iy_X10_no ml_X10_68 rfl rfl rfl rfl hl.1 (by decide) (by decide) (Nat.le_of_ble_eq_true rfl) dX10_set_54 (fun y54 V54 H locs p54 X => ?_)
            exact srI G X (rfl) dX10_set_57 (by first | (exfalso; omega) | (have hb := setX_bad (f := nowM V) (show setC w v = -6 from by unfold setC; rw [if_neg (by omega), if_neg (by omega), if_pos (by (repeat' split) <;> omega)]) (by decide); have hK := (mK.ag hm ((sAg.mono p54.1 (by decide)) : sAg [1, 5, 7, 8, 11, 12, 13, 14, 15] V _) (by decide)); exact ⟨hK.1, hK.2.2.1, hK.2.2.2.2, by rw [p54.2]; exact hb.1, fun j hj => by rw [← hb.2]; unfold nowM; rw [hK.2.1, hK.2.2.2.1]⟩))
      · skip
        refine lv_aload_n hx hb dX10_set_20 rfl (lv_at hl 0 rfl) ?_
        refine lv_bipush (v := (-4)) hx hb dX10_set_21 (by decide) ?_
        refine scI (ci := 9) (As := [.int (-4)]) (rest := []) G X (k_m_no ha V (-4) (by decide) (by decide)) iy_X10_no ml_X10_68 rfl rfl rfl rfl hl.1 (by decide) (by decide) (Nat.le_of_ble_eq_true rfl) dX10_set_23 (fun y23 V23 H locs p23 X => ?_)
        exact srI G X (rfl) dX10_set_26 (by (have hb := setX_bad (f := nowM V) (show setC w v = -4 from by unfold setC; rw [if_neg (by omega), if_pos (by omega)]) (by decide); have hK := (mK.ag hm ((sAg.mono p23.1 (by decide)) : sAg [1, 5, 7, 8, 11, 12, 13, 14, 15] V _) (by decide)); exact ⟨hK.1, hK.2.2.1, hK.2.2.2.2, by rw [p23.2]; exact hb.1, fun j hj => by rw [← hb.2]; unfold nowM; rw [hK.2.1, hK.2.2.2.1]⟩))
    · skip
      refine lv_aload_n hx hb dX10_set_9 rfl (lv_at hl 0 rfl) ?_
      refine lv_bipush (v := (-2)) hx hb dX10_set_10 (by decide) ?_
      refine scI (ci := 9) (As := [.int (-2)]) (rest := []) G X (k_m_no ha V (-2) (by decide) (by decide)) iy_X10_no ml_X10_68 rfl rfl rfl rfl hl.1 (by decide) (by decide) (Nat.le_of_ble_eq_true rfl) dX10_set_12 (fun y12 V12 H locs p12 X => ?_)
      exact srI G X (rfl) dX10_set_15 (by (have hb := setX_bad (f := nowM V) (show setC w v = -2 from by unfold setC; exact if_pos (by omega)) (by decide); have hK := (mK.ag hm ((sAg.mono p12.1 (by decide)) : sAg [1, 5, 7, 8, 11, 12, 13, 14, 15] V _) (by decide)); exact ⟨hK.1, hK.2.2.1, hK.2.2.2.2, by rw [p12.2]; exact hb.1, fun j hj => by rw [← hb.2]; unfold nowM; rw [hK.2.1, hK.2.2.2.1]⟩))
def q_m_fan (V : sV) (v : Int32) : Int32 → sV → Prop := fun x V1 => mI V1 ∧ V1 17 = V 17 ∧ V1 0 24 = V 0 24 ∧ x = fanX v ∧ ∀ j, j < 4 → nowM V1 j = fanN (nowM V) v j
set_option maxRecDepth 100000 in
set_option maxHeartbeats 4000000 in
theorem k_m_fan {l : Launch} {D : va_G} {cI : ClassId} {a : Nat → Nat} (ha : sInj SM a) (V : sV) (v : Int32) (hm : mI V) : sMI l D cI SM a V yX10_fan cX10_fan 2 .int 1 [.ref (a 0), .int v] (q_m_fan V v) := by
  refine sMIof ha (by decide +kernel) (Nat.le_of_ble_eq_true rfl) ?_
  intro p e s m below meth c ls G X hl
  obtain ⟨hx, hb, hml, hown, hts, hlocks, hr, hK⟩ := id G
  have hl : lv_has ls 2 [(0, .ref (a 0)), (1, .int v)] := hl
  obtain ⟨mf0, mf1, mf3, mf11, mf14, mf15⟩ := hm.1
  refine lv_iload_n hx hb dX10_fan_0 rfl (lv_at hl 1 rfl) ?_
  refine lv_bipush (v := (-50)) hx hb dX10_fan_1 (by decide) ?_
  refine sIge (tgt := 13) hx hb (rfl : Int32.toInt v = _) (by decide : ((-50) : Int32).toInt = -50) dX10_fan_3 (by decide) (fun c3 => ?_) (fun c3 => ?_)
  · skip
    refine lv_iload_n hx hb dX10_fan_13 rfl (lv_at hl 1 rfl) ?_
    refine lv_bipush (v := 50) hx hb dX10_fan_14 (by decide) ?_
    refine sIle (tgt := 26) hx hb (rfl : Int32.toInt v = _) (by decide : (50 : Int32).toInt = 50) dX10_fan_16 (by decide) (fun c16 => ?_) (fun c16 => ?_)
    · skip
      refine lv_aload_n hx hb dX10_fan_26 rfl (lv_at hl 0 rfl) ?_
      refine lv_iload_n hx hb dX10_fan_27 rfl (lv_at hl 1 rfl) ?_
      refine spI G X 0 14 rfl rfl fp_X10_125 dX10_fan_28 (fun H locs X => ?_)
      refine lv_iload_n hx hb dX10_fan_31 rfl (lv_at hl 1 rfl) ?_
      refine lv_bipush (v := 50) hx hb dX10_fan_32 (by decide) ?_
      refine lv_iadd hx hb dX10_fan_34 ?_
      refine lv_topi (fun x34 e34 => ?_)
      exact srI G X (rfl) dX10_fan_35 (by exact ⟨hm.agF (sAg.rf.up (by decide) : sAg [0] V _) (by decide) (mF_14 hm.1 (by omega)), rfl, rfl, by rw [e34]; unfold fanX; rw [if_neg (by omega), if_neg (by omega)], fun j hj => by unfold fanN; rw [if_neg (by omega), if_neg (by omega)]; exact nowM_fan j⟩)
    · skip
      refine lv_aload_n hx hb dX10_fan_19 rfl (lv_at hl 0 rfl) ?_
      refine lv_bipush (v := (-6)) hx hb dX10_fan_20 (by decide) ?_
      refine scI (ci := 9) (As := [.int (-6)]) (rest := []) G X (k_m_no ha V (-6) (by decide) (by decide)) iy_X10_no ml_X10_68 rfl rfl rfl rfl hl.1 (by decide) (by decide) (Nat.le_of_ble_eq_true rfl) dX10_fan_22 (fun y22 V22 H locs p22 X => ?_)
      exact srI G X (rfl) dX10_fan_25 (by (have hK := (mK.ag hm ((sAg.mono p22.1 (by decide)) : sAg [1, 5, 7, 8, 11, 12, 13, 14, 15] V _) (by decide)); exact ⟨hK.1, hK.2.2.1, hK.2.2.2.2, by rw [p22.2]; unfold fanX; rw [if_neg (by omega), if_pos c16], fun j hj => by unfold fanN; rw [if_neg (by omega), if_pos c16]; unfold nowM; rw [hK.2.1, hK.2.2.2.1]⟩))
  · skip
    refine lv_aload_n hx hb dX10_fan_6 rfl (lv_at hl 0 rfl) ?_
    refine lv_bipush (v := (-4)) hx hb dX10_fan_7 (by decide) ?_
    refine scI (ci := 9) (As := [.int (-4)]) (rest := []) G X (k_m_no ha V (-4) (by decide) (by decide)) iy_X10_no ml_X10_68 rfl rfl rfl rfl hl.1 (by decide) (by decide) (Nat.le_of_ble_eq_true rfl) dX10_fan_9 (fun y9 V9 H locs p9 X => ?_)
    exact srI G X (rfl) dX10_fan_12 (by (have hK := (mK.ag hm ((sAg.mono p9.1 (by decide)) : sAg [1, 5, 7, 8, 11, 12, 13, 14, 15] V _) (by decide)); exact ⟨hK.1, hK.2.2.1, hK.2.2.2.2, by rw [p9.2]; unfold fanX; rw [if_pos c3], fun j hj => by unfold fanN; rw [if_pos c3]; unfold nowM; rw [hK.2.1, hK.2.2.2.1]⟩))
def q_m_now (V : sV) (w : Int32) : Int32 → sV → Prop := fun x V1 => mK V V1 ∧ x = nowX (nowM V) w
set_option maxRecDepth 100000 in
set_option maxHeartbeats 4000000 in
theorem k_m_now {l : Launch} {D : va_G} {cI : ClassId} {a : Nat → Nat} (ha : sInj SM a) (V : sV) (w : Int32) (hm : mI V) : sMI l D cI SM a V yX10_now cX10_now 2 .int 1 [.ref (a 0), .int w] (q_m_now V w) := by
  refine sMIof ha (by decide +kernel) (Nat.le_of_ble_eq_true rfl) ?_
  intro p e s m below meth c ls G X hl
  obtain ⟨hx, hb, hml, hown, hts, hlocks, hr, hK⟩ := id G
  have hl : lv_has ls 2 [(0, .ref (a 0)), (1, .int w)] := hl
  obtain ⟨mf0, mf1, mf3, mf11, mf14, mf15⟩ := hm.1
  refine lv_iload_n hx hb dX10_now_0 rfl (lv_at hl 1 rfl) ?_
  refine sZlt (tgt := 9) hx hb (rfl : Int32.toInt w = _) dX10_now_1 (by decide) (fun c1 => ?_) (fun c1 => ?_)
  · skip
    refine lv_ldc hx hb hown (hts _ kc_X10_128) dX10_now_9 ?_
    refine lv_aload_n hx hb dX10_now_11 rfl (lv_at hl 0 rfl) ?_
    refine lv_bipush (v := (-2)) hx hb dX10_now_12 (by decide) ?_
    refine scI (ci := 9) (As := [.int (-2)]) (rest := [.int 1000000000]) G X (k_m_no ha V (-2) (by decide) (by decide)) iy_X10_no ml_X10_68 rfl rfl rfl rfl hl.1 (by decide) (by decide) (Nat.le_of_ble_eq_true rfl) dX10_now_14 (fun y14 V14 H locs p14 X => ?_)
    refine lv_isub hx hb dX10_now_17 ?_
    refine lv_topi (fun x17 e17 => ?_)
    exact srI G X (rfl) dX10_now_18 (by exact ⟨(mK.ag hm ((sAg.mono p14.1 (by decide)) : sAg [1, 5, 7, 8, 11, 12, 13, 14, 15] V _) (by decide)), by rw [e17, p14.2]; unfold nowX; (repeat' split) <;> first | rfl | (exfalso; omega)⟩)
  · skip
    refine lv_iload_n hx hb dX10_now_4 rfl (lv_at hl 1 rfl) ?_
    refine lv_iconst (v := 3) hx hb dX10_now_5 (by decide) ?_
    refine sIle (tgt := 19) hx hb (rfl : Int32.toInt w = _) (by decide : (3 : Int32).toInt = 3) dX10_now_6 (by decide) (fun c6 => ?_) (fun c6 => ?_)
    · skip
      refine lv_iload_n hx hb dX10_now_19 rfl (lv_at hl 1 rfl) ?_
      refine lv_iconst (v := 3) hx hb dX10_now_20 (by decide) ?_
      refine sIge (tgt := 33) hx hb (rfl : Int32.toInt w = _) (by decide : (3 : Int32).toInt = 3) dX10_now_21 (by decide) (fun c21 => ?_) (fun c21 => ?_)
      · skip
        refine lv_aload_n hx hb dX10_now_33 rfl (lv_at hl 0 rfl) ?_
        refine sgI G X 0 14 rfl rfl fl_X10_125 dX10_now_34 ?_
        exact srI G X (rfl) dX10_now_37 (by exact ⟨(mK.ag hm (sAg.rf : sAg [1, 5, 7, 8, 11, 12, 13, 14, 15] V _) (by decide)), by unfold nowX; rw [if_neg (by omega), if_neg (by omega), nowF_nowM]; have hc := i32_cl (x := w) (by omega); first | rw [if_neg (by omega), if_neg (by omega), if_neg (by omega)] | (rw [e29]; rcases (show w.toInt = 0 ∨ w.toInt = 1 ∨ w.toInt = 2 by omega) with h | h | h <;> first | rw [if_pos (by omega), show w.toNatClampNeg = 0 by omega] | rw [if_neg (by omega), if_pos (by omega), show w.toNatClampNeg = 1 by omega] | rw [if_neg (by omega), if_neg (by omega), if_pos (by omega), show w.toNatClampNeg = 2 by omega])⟩)
      · skip
        refine lv_aload_n hx hb dX10_now_24 rfl (lv_at hl 0 rfl) ?_
        refine sgR G X 0 13 rfl rfl fl_X10_37 dX10_now_25 ?_
        refine lv_iload_n hx hb dX10_now_28 rfl (lv_at hl 1 rfl) ?_
        refine sld G X 10 rfl (i32_in (by omega) (by omega)) dX10_now_29 ?_
        refine lv_topi (fun x29 e29 => ?_)
        refine lv_goto (tgt := 37) hx hb dX10_now_30 (by decide) ?_
        exact srI G X (rfl) dX10_now_37 (by exact ⟨(mK.ag hm (sAg.rf : sAg [1, 5, 7, 8, 11, 12, 13, 14, 15] V _) (by decide)), by unfold nowX; rw [if_neg (by omega), if_neg (by omega), nowF_nowM]; have hc := i32_cl (x := w) (by omega); first | rw [if_neg (by omega), if_neg (by omega), if_neg (by omega)] | (rw [e29]; rcases (show w.toInt = 0 ∨ w.toInt = 1 ∨ w.toInt = 2 by omega) with h | h | h <;> first | rw [if_pos (by omega), show w.toNatClampNeg = 0 by omega] | rw [if_neg (by omega), if_pos (by omega), show w.toNatClampNeg = 1 by omega] | rw [if_neg (by omega), if_neg (by omega), if_pos (by omega), show w.toNatClampNeg = 2 by omega])⟩)
    · skip
      refine lv_ldc hx hb hown (hts _ kc_X10_128) dX10_now_9 ?_
      refine lv_aload_n hx hb dX10_now_11 rfl (lv_at hl 0 rfl) ?_
      refine lv_bipush (v := (-2)) hx hb dX10_now_12 (by decide) ?_
      refine scI (ci := 9) (As := [.int (-2)]) (rest := [.int 1000000000]) G X (k_m_no ha V (-2) (by decide) (by decide)) iy_X10_no ml_X10_68 rfl rfl rfl rfl hl.1 (by decide) (by decide) (Nat.le_of_ble_eq_true rfl) dX10_now_14 (fun y14 V14 H locs p14 X => ?_)
      refine lv_isub hx hb dX10_now_17 ?_
      refine lv_topi (fun x17 e17 => ?_)
      exact srI G X (rfl) dX10_now_18 (by exact ⟨(mK.ag hm ((sAg.mono p14.1 (by decide)) : sAg [1, 5, 7, 8, 11, 12, 13, 14, 15] V _) (by decide)), by rw [e17, p14.2]; unfold nowX; (repeat' split) <;> first | rfl | (exfalso; omega)⟩)
def q_m_size (V : sV) (i v : Int32) : Int32 → sV → Prop := fun x V1 => mK V V1 ∧ (mFr V → x = -1)
set_option maxRecDepth 100000 in
set_option maxHeartbeats 4000000 in
theorem k_m_size {l : Launch} {D : va_G} {cI : ClassId} {a : Nat → Nat} (ha : sInj SM a) (V : sV) (i v : Int32) (hm : mI V) : sMI l D cI SM a V yX10_size cX10_size 4 .int 1 [.ref (a 0), .int i, .int v] (q_m_size V i v) := by
  refine sMIof ha (by decide +kernel) (Nat.le_of_ble_eq_true rfl) ?_
  intro p e s m below meth c ls G X hl
  obtain ⟨hx, hb, hml, hown, hts, hlocks, hr, hK⟩ := id G
  have hl : lv_has ls 4 [(0, .ref (a 0)), (1, .int i), (2, .int v)] := hl
  obtain ⟨mf0, mf1, mf3, mf11, mf14, mf15⟩ := hm.1
  refine lv_aload_n hx hb dX10_size_0 rfl (lv_at hl 0 rfl) ?_
  refine lv_iload_n hx hb dX10_size_1 rfl (lv_at hl 1 rfl) ?_
  refine scI (ci := 9) (As := [.int i]) (rest := []) G X (k_m_isHole ha V i) iy_X10_isHole ml_X10_122 rfl rfl rfl rfl hl.1 (by decide) (by decide) (Nat.le_of_ble_eq_true rfl) dX10_size_2 (fun y2 V2 H locs p2 X => ?_)
  obtain ⟨p2, z2⟩ := p2
  subst V2
  refine sZne (tgt := 14) hx hb (rfl : Int32.toInt y2 = _) dX10_size_5 (by decide) (fun c5 => ?_) (fun c5 => ?_)
  · skip
    refine lv_iload_n hx hb dX10_size_14 rfl (lv_at hl 2 rfl) ?_
    refine sZge (tgt := 25) hx hb (rfl : Int32.toInt v = _) dX10_size_15 (by decide) (fun c15 => ?_) (fun c15 => ?_)
    · skip
      refine lv_iload_n hx hb dX10_size_25 rfl (lv_at hl 2 rfl) ?_
      refine lv_bipush (v := 9) hx hb dX10_size_26 (by decide) ?_
      refine sIle (tgt := 38) hx hb (rfl : Int32.toInt v = _) (by decide : (9 : Int32).toInt = 9) dX10_size_28 (by decide) (fun c28 => ?_) (fun c28 => ?_)
      · skip
        refine lv_aload_n hx hb dX10_size_38 rfl (lv_at hl 0 rfl) ?_
        refine sgR G X 0 7 rfl rfl fl_X10_22 dX10_size_39 ?_
        refine lv_iload_n hx hb dX10_size_42 rfl (lv_at hl 1 rfl) ?_
        refine sld G X 5 rfl (i32_in (by omega) (by omega)) dX10_size_43 ?_
        refine lv_topi (fun x43 e43 => ?_)
        refine lv_istore_n (lv' := [(3, .int x43), (0, .ref (a 0)), (1, .int i), (2, .int v)]) hx hb dX10_size_44 rfl hl (by decide) rfl (fun ls hl => ?_)
        refine lv_aload_n hx hb dX10_size_45 rfl (lv_at hl 1 rfl) ?_
        refine sgR G X 0 7 rfl rfl fl_X10_22 dX10_size_46 ?_
        refine lv_iload_n hx hb dX10_size_49 rfl (lv_at hl 2 rfl) ?_
        refine lv_iload_n hx hb dX10_size_50 rfl (lv_at hl 3 rfl) ?_
        refine sst G X 5 rfl (i32_in (by omega) (by omega)) dX10_size_51 (fun H locs X => ?_)
        refine lv_iload_n hx hb dX10_size_52 rfl (lv_at hl 0 rfl) ?_
        exact srI G X (rfl) dX10_size_53 (by exact ⟨mK.ag hm (sAg.rf.up (by decide) : sAg [5] V _) (by decide), (fun hf => by exfalso; have hg := hf.t; omega)⟩)
      · skip
        refine lv_aload_n hx hb dX10_size_31 rfl (lv_at hl 0 rfl) ?_
        refine lv_bipush (v := (-6)) hx hb dX10_size_32 (by decide) ?_
        refine scI (ci := 9) (As := [.int (-6)]) (rest := []) G X (k_m_no ha V (-6) (by decide) (by decide)) iy_X10_no ml_X10_68 rfl rfl rfl rfl hl.1 (by decide) (by decide) (Nat.le_of_ble_eq_true rfl) dX10_size_34 (fun y34 V34 H locs p34 X => ?_)
        exact srI G X (rfl) dX10_size_37 (by exact ⟨(mK.ag hm ((sAg.mono p34.1 (by decide)) : sAg [1, 5, 7, 8, 11, 12, 13, 14, 15] V _) (by decide)), (fun hf => by exfalso; have hg := hf.t; omega)⟩)
    · skip
      refine lv_aload_n hx hb dX10_size_18 rfl (lv_at hl 0 rfl) ?_
      refine lv_bipush (v := (-4)) hx hb dX10_size_19 (by decide) ?_
      refine scI (ci := 9) (As := [.int (-4)]) (rest := []) G X (k_m_no ha V (-4) (by decide) (by decide)) iy_X10_no ml_X10_68 rfl rfl rfl rfl hl.1 (by decide) (by decide) (Nat.le_of_ble_eq_true rfl) dX10_size_21 (fun y21 V21 H locs p21 X => ?_)
      exact srI G X (rfl) dX10_size_24 (by exact ⟨(mK.ag hm ((sAg.mono p21.1 (by decide)) : sAg [1, 5, 7, 8, 11, 12, 13, 14, 15] V _) (by decide)), (fun hf => by exfalso; have hg := hf.t; omega)⟩)
  · skip
    refine lv_aload_n hx hb dX10_size_8 rfl (lv_at hl 0 rfl) ?_
    refine lv_iconst (v := (-1)) hx hb dX10_size_9 (by decide) ?_
    refine scI (ci := 9) (As := [.int (-1)]) (rest := []) G X (k_m_no ha V (-1) (by decide) (by decide)) iy_X10_no ml_X10_68 rfl rfl rfl rfl hl.1 (by decide) (by decide) (Nat.le_of_ble_eq_true rfl) dX10_size_10 (fun y10 V10 H locs p10 X => ?_)
    exact srI G X (rfl) dX10_size_13 (by exact ⟨(mK.ag hm ((sAg.mono p10.1 (by decide)) : sAg [1, 5, 7, 8, 11, 12, 13, 14, 15] V _) (by decide)), fun _ => p10.2⟩)
def q_m_outside (V : sV) (i : Int32) : Int32 → sV → Prop := fun x V1 => mK V V1 ∧ (mFr V → x = 1000000001)
set_option maxRecDepth 100000 in
set_option maxHeartbeats 4000000 in
theorem k_m_outside {l : Launch} {D : va_G} {cI : ClassId} {a : Nat → Nat} (ha : sInj SM a) (V : sV) (i : Int32) (hm : mI V) : sMI l D cI SM a V yX10_outside cX10_outside 2 .int 1 [.ref (a 0), .int i] (q_m_outside V i) := by
  refine sMIof ha (by decide +kernel) (Nat.le_of_ble_eq_true rfl) ?_
  intro p e s m below meth c ls G X hl
  obtain ⟨hx, hb, hml, hown, hts, hlocks, hr, hK⟩ := id G
  have hl : lv_has ls 2 [(0, .ref (a 0)), (1, .int i)] := hl
  obtain ⟨mf0, mf1, mf3, mf11, mf14, mf15⟩ := hm.1
  refine lv_aload_n hx hb dX10_outside_0 rfl (lv_at hl 0 rfl) ?_
  refine lv_iload_n hx hb dX10_outside_1 rfl (lv_at hl 1 rfl) ?_
  refine scI (ci := 9) (As := [.int i]) (rest := []) G X (k_m_isHole ha V i) iy_X10_isHole ml_X10_122 rfl rfl rfl rfl hl.1 (by decide) (by decide) (Nat.le_of_ble_eq_true rfl) dX10_outside_2 (fun y2 V2 H locs p2 X => ?_)
  obtain ⟨p2, z2⟩ := p2
  subst V2
  refine sZne (tgt := 17) hx hb (rfl : Int32.toInt y2 = _) dX10_outside_5 (by decide) (fun c5 => ?_) (fun c5 => ?_)
  · skip
    refine lv_aload_n hx hb dX10_outside_17 rfl (lv_at hl 0 rfl) ?_
    refine lv_iload_n hx hb dX10_outside_18 rfl (lv_at hl 1 rfl) ?_
    refine scI (ci := 9) (As := [.int i]) (rest := []) G X (k_m_isDoor ha V i (by first | assumption | omega) (by first | assumption | omega)) iy_X10_isDoor ml_X10_129 rfl rfl rfl rfl hl.1 (by decide) (by decide) (Nat.le_of_ble_eq_true rfl) dX10_outside_19 (fun y19 V19 H locs p19 X => ?_)
    obtain ⟨p19, z19⟩ := p19
    subst V19
    refine sZeq (tgt := 37) hx hb (rfl : Int32.toInt y19 = _) dX10_outside_22 (by decide) (fun c22 => ?_) (fun c22 => ?_)
    · skip
      refine lv_aload_n hx hb dX10_outside_37 rfl (lv_at hl 0 rfl) ?_
      refine lv_iload_n hx hb dX10_outside_38 rfl (lv_at hl 1 rfl) ?_
      refine scI (ci := 9) (As := [.int i]) (rest := []) G X (k_m_outsidePush ha V i (by assumption) (by first | assumption | omega) (by first | assumption | omega)) iy_X10_outsidePush ml_X10_138 rfl rfl rfl rfl hl.1 (by decide) (by decide) (Nat.le_of_ble_eq_true rfl) dX10_outside_39 (fun y39 V39 H locs p39 X => ?_)
      obtain ⟨p39, z39⟩ := p39
      subst V39
      exact srI G X (rfl) dX10_outside_42 (by first | exact ⟨(mK.ag hm ((sAg.mono p30.1 (by decide)) : sAg [1, 5, 7, 8, 11, 12, 13, 14, 15] V _) (by decide)), (fun hf => by exfalso; have hg := hf.t; omega)⟩ | exact ⟨(mK.ag hm (sAg.rf : sAg [1, 5, 7, 8, 11, 12, 13, 14, 15] V _) (by decide)), (fun hf => by exfalso; have hg := hf.t; omega)⟩)
    · skip
      refine lv_ldc hx hb hown (hts _ kc_X10_128) dX10_outside_25 ?_
      refine lv_aload_n hx hb dX10_outside_27 rfl (lv_at hl 0 rfl) ?_
      refine lv_bipush (v := (-3)) hx hb dX10_outside_28 (by decide) ?_
      refine scI (ci := 9) (As := [.int (-3)]) (rest := [.int 1000000000]) G X (k_m_no ha V (-3) (by decide) (by decide)) iy_X10_no ml_X10_68 rfl rfl rfl rfl hl.1 (by decide) (by decide) (Nat.le_of_ble_eq_true rfl) dX10_outside_30 (fun y30 V30 H locs p30 X => ?_)
      refine lv_isub hx hb dX10_outside_33 ?_
      refine lv_topi (fun x33 e33 => ?_)
      refine lv_goto (tgt := 42) hx hb dX10_outside_34 (by decide) ?_
      exact srI G X (rfl) dX10_outside_42 (by first | exact ⟨(mK.ag hm ((sAg.mono p30.1 (by decide)) : sAg [1, 5, 7, 8, 11, 12, 13, 14, 15] V _) (by decide)), (fun hf => by exfalso; have hg := hf.t; omega)⟩ | exact ⟨(mK.ag hm (sAg.rf : sAg [1, 5, 7, 8, 11, 12, 13, 14, 15] V _) (by decide)), (fun hf => by exfalso; have hg := hf.t; omega)⟩)
  · skip
    refine lv_ldc hx hb hown (hts _ kc_X10_128) dX10_outside_8 ?_
    refine lv_aload_n hx hb dX10_outside_10 rfl (lv_at hl 0 rfl) ?_
    refine lv_iconst (v := (-1)) hx hb dX10_outside_11 (by decide) ?_
    refine scI (ci := 9) (As := [.int (-1)]) (rest := [.int 1000000000]) G X (k_m_no ha V (-1) (by decide) (by decide)) iy_X10_no ml_X10_68 rfl rfl rfl rfl hl.1 (by decide) (by decide) (Nat.le_of_ble_eq_true rfl) dX10_outside_12 (fun y12 V12 H locs p12 X => ?_)
    refine lv_isub hx hb dX10_outside_15 ?_
    refine lv_topi (fun x15 e15 => ?_)
    exact srI G X (rfl) dX10_outside_16 (by exact ⟨(mK.ag hm ((sAg.mono p12.1 (by decide)) : sAg [1, 5, 7, 8, 11, 12, 13, 14, 15] V _) (by decide)), fun _ => by rw [e15, p12.2]; rfl⟩)
def q_m_push (V : sV) (i : Int32) : Int32 → sV → Prop := fun x V1 => mK V V1 ∧ (mFr V → x = fPush i)
set_option maxRecDepth 100000 in
set_option maxHeartbeats 4000000 in
theorem k_m_push {l : Launch} {D : va_G} {cI : ClassId} {a : Nat → Nat} (ha : sInj SM a) (V : sV) (i : Int32) (hm : mI V) : sMI l D cI SM a V yX10_push cX10_push 2 .int 3 [.ref (a 0), .int i] (q_m_push V i) := by
  refine sMIof ha (by decide +kernel) (Nat.le_of_ble_eq_true rfl) ?_
  intro p e s m below meth c ls G X hl
  obtain ⟨hx, hb, hml, hown, hts, hlocks, hr, hK⟩ := id G
  have hl : lv_has ls 2 [(0, .ref (a 0)), (1, .int i)] := hl
  obtain ⟨mf0, mf1, mf3, mf11, mf14, mf15⟩ := hm.1
  refine lv_iload_n hx hb dX10_push_0 rfl (lv_at hl 1 rfl) ?_
  refine sZlt (tgt := 12) hx hb (rfl : Int32.toInt i = _) dX10_push_1 (by decide) (fun c1 => ?_) (fun c1 => ?_)
  · skip
    refine lv_ldc hx hb hown (hts _ kc_X10_128) dX10_push_12 ?_
    refine lv_aload_n hx hb dX10_push_14 rfl (lv_at hl 0 rfl) ?_
    refine lv_iconst (v := (-1)) hx hb dX10_push_15 (by decide) ?_
    refine scI (ci := 9) (As := [.int (-1)]) (rest := [.int 1000000000]) G X (k_m_no ha V (-1) (by decide) (by decide)) iy_X10_no ml_X10_68 rfl rfl rfl rfl hl.1 (by decide) (by decide) (Nat.le_of_ble_eq_true rfl) dX10_push_16 (fun y16 V16 H locs p16 X => ?_)
    refine lv_isub hx hb dX10_push_19 ?_
    refine lv_topi (fun x19 e19 => ?_)
    exact srI G X (rfl) dX10_push_20 (by exact ⟨(mK.ag hm ((sAg.mono p16.1 (by decide)) : sAg [1, 5, 7, 8, 11, 12, 13, 14, 15] V _) (by decide)), fun hf => by have hg := hf.t; rw [e19, p16.2]; unfold fPush; (repeat' split) <;> first | rfl | (exfalso; omega)⟩)
  · skip
    refine lv_iload_n hx hb dX10_push_4 rfl (lv_at hl 1 rfl) ?_
    refine lv_aload_n hx hb dX10_push_5 rfl (lv_at hl 0 rfl) ?_
    refine sgI G X 0 0 rfl rfl fl_X10_61 dX10_push_6 ?_
    refine sIlt (tgt := 21) hx hb (rfl : Int32.toInt i = _) (rfl : Int32.toInt (V 0 0) = _) dX10_push_9 (by decide) (fun c9 => ?_) (fun c9 => ?_)
    · skip
      refine lv_aload_n hx hb dX10_push_21 rfl (lv_at hl 0 rfl) ?_
      refine scV (ci := 9) (As := []) (rest := []) G X (k_m_settle ha V (by assumption)) iy_X10_settle ml_X10_144 rfl rfl rfl rfl hl.1 (by decide) (by decide) (Nat.le_of_ble_eq_true rfl) dX10_push_22 (fun V22 H locs p22 X => ?_)
      refine lv_aload_n hx hb dX10_push_25 rfl (lv_at hl 0 rfl) ?_
      refine sgR G X 0 18 rfl rfl fl_X10_46 dX10_push_26 ?_
      refine lv_iload_n hx hb dX10_push_29 rfl (lv_at hl 1 rfl) ?_
      refine sld G X 13 rfl (i32_in (by omega) (by omega)) dX10_push_30 ?_
      refine lv_topi (fun x30 e30 => ?_)
      exact srI G X (rfl) dX10_push_31 (by exact ⟨(mK.ag hm ((sAg.mono p22.1 (by decide)) : sAg [1, 5, 7, 8, 11, 12, 13, 14, 15] V _) (by decide)), fun hf => by have hg := hf.t; rw [e30, (p22.2.2.2 hf.quiet hf.2.2.1).1 _ (by have := i32_cl (x := i) (by omega); omega)]; unfold fPush; rw [if_neg (by omega), if_neg (by omega)]⟩)
    · skip
      refine lv_ldc hx hb hown (hts _ kc_X10_128) dX10_push_12 ?_
      refine lv_aload_n hx hb dX10_push_14 rfl (lv_at hl 0 rfl) ?_
      refine lv_iconst (v := (-1)) hx hb dX10_push_15 (by decide) ?_
      refine scI (ci := 9) (As := [.int (-1)]) (rest := [.int 1000000000]) G X (k_m_no ha V (-1) (by decide) (by decide)) iy_X10_no ml_X10_68 rfl rfl rfl rfl hl.1 (by decide) (by decide) (Nat.le_of_ble_eq_true rfl) dX10_push_16 (fun y16 V16 H locs p16 X => ?_)
      refine lv_isub hx hb dX10_push_19 ?_
      refine lv_topi (fun x19 e19 => ?_)
      exact srI G X (rfl) dX10_push_20 (by exact ⟨(mK.ag hm ((sAg.mono p16.1 (by decide)) : sAg [1, 5, 7, 8, 11, 12, 13, 14, 15] V _) (by decide)), fun hf => by have hg := hf.t; rw [e19, p16.2]; unfold fPush; (repeat' split) <;> first | rfl | (exfalso; omega)⟩)
def q_m_flow (V : sV) (i : Int32) : Int32 → sV → Prop := fun x V1 => mK V V1 ∧ (mFr V → x = 1000000001)
set_option maxRecDepth 100000 in
set_option maxHeartbeats 4000000 in
theorem k_m_flow {l : Launch} {D : va_G} {cI : ClassId} {a : Nat → Nat} (ha : sInj SM a) (V : sV) (i : Int32) (hm : mI V) : sMI l D cI SM a V yX10_flow cX10_flow 2 .int 3 [.ref (a 0), .int i] (q_m_flow V i) := by
  refine sMIof ha (by decide +kernel) (Nat.le_of_ble_eq_true rfl) ?_
  intro p e s m below meth c ls G X hl
  obtain ⟨hx, hb, hml, hown, hts, hlocks, hr, hK⟩ := id G
  have hl : lv_has ls 2 [(0, .ref (a 0)), (1, .int i)] := hl
  obtain ⟨mf0, mf1, mf3, mf11, mf14, mf15⟩ := hm.1
  refine lv_aload_n hx hb dX10_flow_0 rfl (lv_at hl 0 rfl) ?_
  refine lv_iload_n hx hb dX10_flow_1 rfl (lv_at hl 1 rfl) ?_
  refine scI (ci := 9) (As := [.int i]) (rest := []) G X (k_m_isHole ha V i) iy_X10_isHole ml_X10_122 rfl rfl rfl rfl hl.1 (by decide) (by decide) (Nat.le_of_ble_eq_true rfl) dX10_flow_2 (fun y2 V2 H locs p2 X => ?_)
  obtain ⟨p2, z2⟩ := p2
  subst V2
  refine sZne (tgt := 17) hx hb (rfl : Int32.toInt y2 = _) dX10_flow_5 (by decide) (fun c5 => ?_) (fun c5 => ?_)
  · skip
    refine lv_aload_n hx hb dX10_flow_17 rfl (lv_at hl 0 rfl) ?_
    refine scV (ci := 9) (As := []) (rest := []) G X (k_m_settle ha V (by assumption)) iy_X10_settle ml_X10_144 rfl rfl rfl rfl hl.1 (by decide) (by decide) (Nat.le_of_ble_eq_true rfl) dX10_flow_18 (fun V18 H locs p18 X => ?_)
    obtain ⟨hA, hP, hO, hC⟩ := p18
    have hmS : mI V18 := hm.ag hA (by decide)
    have hV3 : (V18 0 3).toInt = (V 0 3).toInt := by rw [hA 0 (by decide)]
    refine lv_aload_n hx hb dX10_flow_21 rfl (lv_at hl 0 rfl) ?_
    refine lv_iload_n hx hb dX10_flow_22 rfl (lv_at hl 1 rfl) ?_
    refine scI (ci := 9) (As := [.int i]) (rest := []) G X (k_m_flows ha V18 i (by assumption) (by assumption) (by assumption) (by first | assumption | omega) (by first | assumption | omega)) iy_X10_flows ml_X10_141 rfl rfl rfl rfl hl.1 (by decide) (by decide) (Nat.le_of_ble_eq_true rfl) dX10_flow_23 (fun y23 V23 H locs p23 X => ?_)
    obtain ⟨p23, z23⟩ := p23
    subst V23
    exact srI G X (rfl) dX10_flow_26 (by exact ⟨(mK.ag hm ((sAg.mono hA (by decide)) : sAg [1, 5, 7, 8, 11, 12, 13, 14, 15] V _) (by decide)), (fun hf => by exfalso; have hg := hf.t; omega)⟩)
  · skip
    refine lv_ldc hx hb hown (hts _ kc_X10_128) dX10_flow_8 ?_
    refine lv_aload_n hx hb dX10_flow_10 rfl (lv_at hl 0 rfl) ?_
    refine lv_iconst (v := (-1)) hx hb dX10_flow_11 (by decide) ?_
    refine scI (ci := 9) (As := [.int (-1)]) (rest := [.int 1000000000]) G X (k_m_no ha V (-1) (by decide) (by decide)) iy_X10_no ml_X10_68 rfl rfl rfl rfl hl.1 (by decide) (by decide) (Nat.le_of_ble_eq_true rfl) dX10_flow_12 (fun y12 V12 H locs p12 X => ?_)
    refine lv_isub hx hb dX10_flow_15 ?_
    refine lv_topi (fun x15 e15 => ?_)
    exact srI G X (rfl) dX10_flow_16 (by exact ⟨(mK.ag hm ((sAg.mono p12.1 (by decide)) : sAg [1, 5, 7, 8, 11, 12, 13, 14, 15] V _) (by decide)), fun _ => by rw [e15, p12.2]; rfl⟩)
def q_m_leans (V : sV) : Int32 → sV → Prop := fun x V1 => True ∧ V1 = V
set_option maxRecDepth 100000 in
set_option maxHeartbeats 4000000 in
theorem k_m_leans {l : Launch} {D : va_G} {cI : ClassId} {a : Nat → Nat} (ha : sInj SM a) (V : sV) (i : Int32) (hm : mI V) (hP : mP V) (hO : mO V) (h1 : 0 ≤ i.toInt) (h2 : i.toInt < (V 0 3).toInt) : sMI l D cI SM a V yX10_leans cX10_leans 3 .int 2 [.ref (a 0), .int i] (q_m_leans V) := by
  refine sMIof ha (by decide +kernel) (Nat.le_of_ble_eq_true rfl) ?_
  intro p e s m below meth c ls G X hl
  obtain ⟨hx, hb, hml, hown, hts, hlocks, hr, hK⟩ := id G
  have hl : lv_has ls 3 [(0, .ref (a 0)), (1, .int i)] := hl
  refine lv_aload_n hx hb dX10_leans_0 rfl (lv_at hl 0 rfl) ?_
  refine lv_iload_n hx hb dX10_leans_1 rfl (lv_at hl 1 rfl) ?_
  refine scI (ci := 9) (As := [.int i]) (rest := []) G X (k_m_flows ha V i (by assumption) (by assumption) (by assumption) (by first | assumption | omega) (by first | assumption | omega)) iy_X10_flows ml_X10_141 rfl rfl rfl rfl hl.1 (by decide) (by decide) (Nat.le_of_ble_eq_true rfl) dX10_leans_2 (fun y2 V2 H locs p2 X => ?_)
  obtain ⟨p2, z2⟩ := p2
  subst V2
  refine lv_istore_n (lv' := [(2, .int y2), (0, .ref (a 0)), (1, .int i)]) hx hb dX10_leans_5 rfl hl (by decide) rfl (fun ls hl => ?_)
  refine lv_iload_n hx hb dX10_leans_6 rfl (lv_at hl 0 rfl) ?_
  refine sZle (tgt := 14) hx hb (rfl : Int32.toInt y2 = _) dX10_leans_7 (by decide) (fun c7 => ?_) (fun c7 => ?_)
  · skip
    refine lv_iload_n hx hb dX10_leans_14 rfl (lv_at hl 0 rfl) ?_
    refine sZge (tgt := 22) hx hb (rfl : Int32.toInt y2 = _) dX10_leans_15 (by decide) (fun c15 => ?_) (fun c15 => ?_)
    · skip
      refine lv_iconst (v := 0) hx hb dX10_leans_22 (by decide) ?_
      exact srI G X (rfl) dX10_leans_23 (by exact ⟨trivial, rfl⟩)
    · skip
      refine lv_iconst (v := 2) hx hb dX10_leans_18 (by decide) ?_
      refine lv_goto (tgt := 23) hx hb dX10_leans_19 (by decide) ?_
      exact srI G X (rfl) dX10_leans_23 (by exact ⟨trivial, rfl⟩)
  · skip
    refine lv_iconst (v := 1) hx hb dX10_leans_10 (by decide) ?_
    refine lv_goto (tgt := 23) hx hb dX10_leans_11 (by decide) ?_
    exact srI G X (rfl) dX10_leans_23 (by exact ⟨trivial, rfl⟩)
def q_m_lean (V : sV) (i : Int32) : Int32 → sV → Prop := fun x V1 => mK V V1 ∧ (mFr V → x = -1)
set_option maxRecDepth 100000 in
set_option maxHeartbeats 4000000 in
theorem k_m_lean {l : Launch} {D : va_G} {cI : ClassId} {a : Nat → Nat} (ha : sInj SM a) (V : sV) (i : Int32) (hm : mI V) : sMI l D cI SM a V yX10_lean cX10_lean 2 .int 3 [.ref (a 0), .int i] (q_m_lean V i) := by
  refine sMIof ha (by decide +kernel) (Nat.le_of_ble_eq_true rfl) ?_
  intro p e s m below meth c ls G X hl
  obtain ⟨hx, hb, hml, hown, hts, hlocks, hr, hK⟩ := id G
  have hl : lv_has ls 2 [(0, .ref (a 0)), (1, .int i)] := hl
  obtain ⟨mf0, mf1, mf3, mf11, mf14, mf15⟩ := hm.1
  refine lv_aload_n hx hb dX10_lean_0 rfl (lv_at hl 0 rfl) ?_
  refine lv_iload_n hx hb dX10_lean_1 rfl (lv_at hl 1 rfl) ?_
  refine scI (ci := 9) (As := [.int i]) (rest := []) G X (k_m_isHole ha V i) iy_X10_isHole ml_X10_122 rfl rfl rfl rfl hl.1 (by decide) (by decide) (Nat.le_of_ble_eq_true rfl) dX10_lean_2 (fun y2 V2 H locs p2 X => ?_)
  obtain ⟨p2, z2⟩ := p2
  subst V2
  refine sZne (tgt := 14) hx hb (rfl : Int32.toInt y2 = _) dX10_lean_5 (by decide) (fun c5 => ?_) (fun c5 => ?_)
  · skip
    refine lv_aload_n hx hb dX10_lean_14 rfl (lv_at hl 0 rfl) ?_
    refine scV (ci := 9) (As := []) (rest := []) G X (k_m_settle ha V (by assumption)) iy_X10_settle ml_X10_144 rfl rfl rfl rfl hl.1 (by decide) (by decide) (Nat.le_of_ble_eq_true rfl) dX10_lean_15 (fun V15 H locs p15 X => ?_)
    obtain ⟨hA, hP, hO, hC⟩ := p15
    have hmS : mI V15 := hm.ag hA (by decide)
    have hV3 : (V15 0 3).toInt = (V 0 3).toInt := by rw [hA 0 (by decide)]
    refine lv_aload_n hx hb dX10_lean_18 rfl (lv_at hl 0 rfl) ?_
    refine lv_iload_n hx hb dX10_lean_19 rfl (lv_at hl 1 rfl) ?_
    refine scI (ci := 9) (As := [.int i]) (rest := []) G X (k_m_leans ha V15 i (by assumption) (by assumption) (by assumption) (by first | assumption | omega) (by first | assumption | omega)) iy_X10_leans ml_X10_147 rfl rfl rfl rfl hl.1 (by decide) (by decide) (Nat.le_of_ble_eq_true rfl) dX10_lean_20 (fun y20 V20 H locs p20 X => ?_)
    obtain ⟨p20, z20⟩ := p20
    subst V20
    exact srI G X (rfl) dX10_lean_23 (by exact ⟨(mK.ag hm ((sAg.mono hA (by decide)) : sAg [1, 5, 7, 8, 11, 12, 13, 14, 15] V _) (by decide)), (fun hf => by exfalso; have hg := hf.t; omega)⟩)
  · skip
    refine lv_aload_n hx hb dX10_lean_8 rfl (lv_at hl 0 rfl) ?_
    refine lv_iconst (v := (-1)) hx hb dX10_lean_9 (by decide) ?_
    refine scI (ci := 9) (As := [.int (-1)]) (rest := []) G X (k_m_no ha V (-1) (by decide) (by decide)) iy_X10_no ml_X10_68 rfl rfl rfl rfl hl.1 (by decide) (by decide) (Nat.le_of_ble_eq_true rfl) dX10_lean_10 (fun y10 V10 H locs p10 X => ?_)
    exact srI G X (rfl) dX10_lean_13 (by exact ⟨(mK.ag hm ((sAg.mono p10.1 (by decide)) : sAg [1, 5, 7, 8, 11, 12, 13, 14, 15] V _) (by decide)), fun _ => p10.2⟩)
def q_m_coal (V : sV) : Int32 → sV → Prop := fun x V1 => sAg [13, 14] V V1 ∧ mP V1 ∧ mO V1 ∧ (mQuiet V → V 15 0 = 0 → x = 0)
set_option maxRecDepth 100000 in
set_option maxHeartbeats 4000000 in
theorem k_m_coal {l : Launch} {D : va_G} {cI : ClassId} {a : Nat → Nat} (ha : sInj SM a) (V : sV) (hm : mI V) : sMI l D cI SM a V yX10_coal cX10_coal 1 .int 4 [.ref (a 0)] (q_m_coal V) := by
  refine sMIof ha (by decide +kernel) (Nat.le_of_ble_eq_true rfl) ?_
  intro p e s m below meth c ls G X hl
  obtain ⟨hx, hb, hml, hown, hts, hlocks, hr, hK⟩ := id G
  have hl : lv_has ls 1 [(0, .ref (a 0))] := hl
  refine lv_aload_n hx hb dX10_coal_0 rfl (lv_at hl 0 rfl) ?_
  refine scI (ci := 9) (As := []) (rest := []) G X (k_m_flowsIn ha V (by assumption)) iy_X10_flowsIn ml_X10_150 rfl rfl rfl rfl hl.1 (by decide) (by decide) (Nat.le_of_ble_eq_true rfl) dX10_coal_1 (fun y1 V1 H locs p1 X => ?_)
  refine lv_aload_n hx hb dX10_coal_4 rfl (lv_at hl 0 rfl) ?_
  refine sgR G X 0 13 rfl rfl fl_X10_37 dX10_coal_5 ?_
  refine lv_iconst (v := 0) hx hb dX10_coal_8 (by decide) ?_
  refine sld G X 10 rfl (i32_in (by decide) (by decide)) dX10_coal_9 ?_
  refine sTop (y := V1 10 0) (by rw [show Int32.toNatClampNeg 0 = 0 from by decide]; try rfl) ?_
  refine lv_topi (fun x9 e9 => ?_)
  refine lv_imul hx hb dX10_coal_10 ?_
  refine lv_topi (fun x10 e10 => ?_)
  exact srI G X (rfl) dX10_coal_11 (by exact ⟨p1.1, p1.2.1, p1.2.2.1, fun hq h0 => by rw [e10, p1.2.2.2 hq h0]; simp⟩)
def q_m_smoke (V : sV) : Int32 → sV → Prop := fun x V1 => ((x.toInt = 0 ∨ x.toInt = 1) ∧ ((V 0 3).toInt = 0 → x = 0)) ∧ V1 = V
set_option maxRecDepth 100000 in
set_option maxHeartbeats 4000000 in
theorem k_m_smoke {l : Launch} {D : va_G} {cI : ClassId} {a : Nat → Nat} (ha : sInj SM a) (V : sV) (hm : mI V) (hP : mP V) (hO : mO V) : sMI l D cI SM a V yX10_smoke cX10_smoke 2 .boolean 2 [.ref (a 0)] (q_m_smoke V) := by
  refine sMIof ha (by decide +kernel) (Nat.le_of_ble_eq_true rfl) ?_
  intro p e s m below meth c ls G X hl
  obtain ⟨hx, hb, hml, hown, hts, hlocks, hr, hK⟩ := id G
  have hl : lv_has ls 2 [(0, .ref (a 0))] := hl
  obtain ⟨mf0, mf1, mf3, mf11, mf14, mf15⟩ := hm.1
  refine lv_iconst (v := 0) hx hb dX10_smoke_0 (by decide) ?_
  refine lv_istore_n (lv' := [(1, .int 0), (0, .ref (a 0))]) hx hb dX10_smoke_1 rfl hl (by decide) rfl (fun ls hl => ?_)
  have L2 : ∀ (fu2 : Nat) (i : Int32) (H : Heap) (locs : List Loc) (ls : Array Slot), (0 ≤ i.toInt) → (((V 0 3).toInt - i.toInt).toNat) < fu2 → sWS D cI SM a V s.heap H locs → lv_has ls 2 [(1, .int i), (0, .ref (a 0))] → W p l e (rmD 2) s m ([.ref (a 0)] : List Value).toArray below meth c H locs 0 0 (MQ below (va_Qi (q_m_smoke V) (fun V1 t => va_P D vwCl (sWd cI SM a V1) t.heap) (sA SM a s.heap.size)) ([.ref (a 0)] : List Value).toArray s 0 0 (sA SM a s.heap.size)) (F0 m 2 ls []) := by
    intro fu2
    induction fu2 with
    | zero => intro i H locs ls hi hm2; exact absurd hm2 (Nat.not_lt_zero _)
    | succ fu2 ih2 =>
      intro i H locs ls hi hm2 X hl
      refine lv_iload_n hx hb dX10_smoke_2 rfl (lv_at hl 0 rfl) ?_
      refine lv_aload_n hx hb dX10_smoke_3 rfl (lv_at hl 1 rfl) ?_
      refine sgI G X 0 3 rfl rfl fl_X10_65 dX10_smoke_4 ?_
      refine sIge (tgt := 46) hx hb (rfl : Int32.toInt i = _) (rfl : Int32.toInt (V 0 3) = _) dX10_smoke_7 (by decide) (fun c7 => ?_) (fun c7 => ?_)
      · skip
        refine lv_iconst (v := 0) hx hb dX10_smoke_46 (by decide) ?_
        exact srI G X (rfl) dX10_smoke_47 (by exact ⟨⟨Or.inl rfl, fun _ => rfl⟩, rfl⟩)
      · skip
        refine lv_aload_n hx hb dX10_smoke_10 rfl (lv_at hl 1 rfl) ?_
        refine sgR G X 0 6 rfl rfl fl_X10_19 dX10_smoke_11 ?_
        refine lv_iload_n hx hb dX10_smoke_14 rfl (lv_at hl 0 rfl) ?_
        refine sld G X 4 rfl (i32_in (by omega) (by omega)) dX10_smoke_15 ?_
        refine lv_topi (fun x15 e15 => ?_)
        refine lv_bipush (v := 6) hx hb dX10_smoke_16 (by decide) ?_
        refine sIne (tgt := 40) hx hb (rfl : Int32.toInt x15 = _) (by decide : (6 : Int32).toInt = 6) dX10_smoke_18 (by decide) (fun c18 => ?_) (fun c18 => ?_)
        · skip
          obtain ⟨x40, e40⟩ : ∃ y : Int32, y = i + (1) := ⟨_, rfl⟩
          refine lv_iinc (v := x40) (lv' := [(1, .int x40), (0, .ref (a 0))]) hx hb dX10_smoke_40 hl (k := 0) rfl (by rw [e40]; rfl) (by decide) rfl (fun ls hl => ?_)
          refine lv_goto (tgt := 2) hx hb dX10_smoke_43 (by decide) ?_
          exact ih2 x40 _ _ _ (by rw [i32_i e40 (by have := i32_hi (V 0 3); omega)]; omega) (by rw [i32_i e40 (by have := i32_hi (V 0 3); omega)]; omega) X (lv_sub hl [0, 1] rfl)
        · skip
          refine lv_aload_n hx hb dX10_smoke_21 rfl (lv_at hl 1 rfl) ?_
          refine sgR G X 0 7 rfl rfl fl_X10_22 dX10_smoke_22 ?_
          refine lv_iload_n hx hb dX10_smoke_25 rfl (lv_at hl 0 rfl) ?_
          refine sld G X 5 rfl (i32_in (by omega) (by omega)) dX10_smoke_26 ?_
          refine lv_topi (fun x26 e26 => ?_)
          refine sZle (tgt := 40) hx hb (rfl : Int32.toInt x26 = _) dX10_smoke_27 (by decide) (fun c27 => ?_) (fun c27 => ?_)
          · skip
            obtain ⟨x40, e40⟩ : ∃ y : Int32, y = i + (1) := ⟨_, rfl⟩
            refine lv_iinc (v := x40) (lv' := [(1, .int x40), (0, .ref (a 0))]) hx hb dX10_smoke_40 hl (k := 0) rfl (by rw [e40]; rfl) (by decide) rfl (fun ls hl => ?_)
            refine lv_goto (tgt := 2) hx hb dX10_smoke_43 (by decide) ?_
            exact ih2 x40 _ _ _ (by rw [i32_i e40 (by have := i32_hi (V 0 3); omega)]; omega) (by rw [i32_i e40 (by have := i32_hi (V 0 3); omega)]; omega) X (lv_sub hl [0, 1] rfl)
          · skip
            refine lv_aload_n hx hb dX10_smoke_30 rfl (lv_at hl 1 rfl) ?_
            refine lv_iload_n hx hb dX10_smoke_31 rfl (lv_at hl 0 rfl) ?_
            refine scI (ci := 9) (As := [.int i]) (rest := []) G X (k_m_flows ha V i (by assumption) (by assumption) (by assumption) (by first | assumption | omega) (by first | assumption | omega)) iy_X10_flows ml_X10_141 rfl rfl rfl rfl hl.1 (by decide) (by decide) (Nat.le_of_ble_eq_true rfl) dX10_smoke_32 (fun y32 V32 H locs p32 X => ?_)
            obtain ⟨p32, z32⟩ := p32
            subst V32
            refine sZlt (tgt := 40) hx hb (rfl : Int32.toInt y32 = _) dX10_smoke_35 (by decide) (fun c35 => ?_) (fun c35 => ?_)
            · skip
              obtain ⟨x40, e40⟩ : ∃ y : Int32, y = i + (1) := ⟨_, rfl⟩
              refine lv_iinc (v := x40) (lv' := [(1, .int x40), (0, .ref (a 0))]) hx hb dX10_smoke_40 hl (k := 0) rfl (by rw [e40]; rfl) (by decide) rfl (fun ls hl => ?_)
              refine lv_goto (tgt := 2) hx hb dX10_smoke_43 (by decide) ?_
              exact ih2 x40 _ _ _ (by rw [i32_i e40 (by have := i32_hi (V 0 3); omega)]; omega) (by rw [i32_i e40 (by have := i32_hi (V 0 3); omega)]; omega) X (lv_sub hl [0, 1] rfl)
            · skip
              refine lv_iconst (v := 1) hx hb dX10_smoke_38 (by decide) ?_
              exact srI G X (rfl) dX10_smoke_39 (by exact ⟨⟨Or.inr rfl, fun h => by omega⟩, rfl⟩)
  exact L2 _ 0 _ _ _ (by decide) (Nat.lt_succ_self _) X (lv_sub hl [0, 1] rfl)
def q_m_smokes (V : sV)  : Int32 → sV → Prop := fun x V1 => mK V V1 ∧ (mFr V → x = 0)
set_option maxRecDepth 100000 in
set_option maxHeartbeats 4000000 in
theorem k_m_smokes {l : Launch} {D : va_G} {cI : ClassId} {a : Nat → Nat} (ha : sInj SM a) (V : sV)  (hm : mI V) : sMI l D cI SM a V yX10_smokes cX10_smokes 1 .int 3 [.ref (a 0)] (q_m_smokes V ) := by
  refine sMIof ha (by decide +kernel) (Nat.le_of_ble_eq_true rfl) ?_
  intro p e s m below meth c ls G X hl
  obtain ⟨hx, hb, hml, hown, hts, hlocks, hr, hK⟩ := id G
  have hl : lv_has ls 1 [(0, .ref (a 0))] := hl
  obtain ⟨mf0, mf1, mf3, mf11, mf14, mf15⟩ := hm.1
  refine lv_aload_n hx hb dX10_smokes_0 rfl (lv_at hl 0 rfl) ?_
  refine scV (ci := 9) (As := []) (rest := []) G X (k_m_settle ha V (by assumption)) iy_X10_settle ml_X10_144 rfl rfl rfl rfl hl.1 (by decide) (by decide) (Nat.le_of_ble_eq_true rfl) dX10_smokes_1 (fun V1 H locs p1 X => ?_)
  obtain ⟨hA, hP, hO, hC⟩ := p1
  have hmS : mI V1 := hm.ag hA (by decide)
  have hV3 : (V1 0 3).toInt = (V 0 3).toInt := by rw [hA 0 (by decide)]
  refine lv_aload_n hx hb dX10_smokes_4 rfl (lv_at hl 0 rfl) ?_
  refine scI (ci := 9) (As := []) (rest := []) G X (k_m_smoke ha V1 (by assumption) (by assumption) (by assumption)) iy_X10_smoke ml_X10_153 rfl rfl rfl rfl hl.1 (by decide) (by decide) (Nat.le_of_ble_eq_true rfl) dX10_smokes_5 (fun y5 V5 H locs p5 X => ?_)
  obtain ⟨p5, z5⟩ := p5
  subst V5
  refine sZeq (tgt := 15) hx hb (rfl : Int32.toInt y5 = _) dX10_smokes_8 (by decide) (fun c8 => ?_) (fun c8 => ?_)
  · skip
    refine lv_iconst (v := 0) hx hb dX10_smokes_15 (by decide) ?_
    exact srI G X (rfl) dX10_smokes_16 (by first | exact ⟨(mK.ag hm ((sAg.mono hA (by decide)) : sAg [1, 5, 7, 8, 11, 12, 13, 14, 15] V _) (by decide)), fun _ => rfl⟩ | exact ⟨(mK.ag hm ((sAg.mono hA (by decide)) : sAg [1, 5, 7, 8, 11, 12, 13, 14, 15] V _) (by decide)), fun hf => by exfalso; rw [p5.2 (by rw [hV3]; exact hf.t.1)] at c8; exact c8 rfl⟩)
  · skip
    refine lv_iconst (v := 1) hx hb dX10_smokes_11 (by decide) ?_
    refine lv_goto (tgt := 16) hx hb dX10_smokes_12 (by decide) ?_
    exact srI G X (rfl) dX10_smokes_16 (by first | exact ⟨(mK.ag hm ((sAg.mono hA (by decide)) : sAg [1, 5, 7, 8, 11, 12, 13, 14, 15] V _) (by decide)), fun _ => rfl⟩ | exact ⟨(mK.ag hm ((sAg.mono hA (by decide)) : sAg [1, 5, 7, 8, 11, 12, 13, 14, 15] V _) (by decide)), fun hf => by exfalso; rw [p5.2 (by rw [hV3]; exact hf.t.1)] at c8; exact c8 rfl⟩)
def q_m_stop (V : sV) : Int64 → sV → Prop := fun _ V1 => sAg [5] V V1
set_option maxRecDepth 100000 in
set_option maxHeartbeats 4000000 in
theorem k_m_stop {l : Launch} {D : va_G} {cI : ClassId} {a : Nat → Nat} (ha : sInj SM a) (V : sV) (q : Int32) (hm : mI V) : sML l D cI SM a V yX10_stop cX10_stop 5 0 [.ref (a 0), .int q] (q_m_stop V) := by
  refine sMLof ha (by decide +kernel) (Nat.le_of_ble_eq_true rfl) ?_
  intro p e s m below meth c ls G X hl
  obtain ⟨hx, hb, hml, hown, hts, hlocks, hr, hK⟩ := id G
  have hl : lv_has ls 5 [(0, .ref (a 0)), (1, .int q)] := hl
  obtain ⟨mf0, mf1, mf3, mf11, mf14, mf15⟩ := hm.1
  refine lv_lconst (v := 0) hx hb dX10_stop_0 (by decide) ?_
  refine lv_lstore_n (lv' := [(2, .long 0), (0, .ref (a 0)), (1, .int q)]) hx hb dX10_stop_1 rfl hl (by decide) rfl (fun ls hl => ?_)
  refine lv_aload_n hx hb dX10_stop_2 rfl (lv_at hl 1 rfl) ?_
  refine sgI G X 0 3 rfl rfl fl_X10_65 dX10_stop_3 ?_
  refine lv_iconst (v := 1) hx hb dX10_stop_6 (by decide) ?_
  refine lv_isub hx hb dX10_stop_7 ?_
  refine lv_topi (fun x7 e7 => ?_)
  have t7 := i32_sube e7 (by show _ ≤ (V 0 3).toInt - 1; omega) (by show (V 0 3).toInt - 1 < _; omega)
  rw [show (1 : Int32).toInt = 1 from by decide] at t7
  refine lv_istore (lv' := [(4, .int x7), (2, .long 0), (0, .ref (a 0)), (1, .int q)]) hx hb dX10_stop_8 hl (by decide) rfl (fun ls hl => ?_)
  have L10 : ∀ (fu10 : Nat) (i : Int32) (z : Int64) (Y : sV) (H : Heap) (locs : List Loc) (ls : Array Slot), (-1 ≤ i.toInt ∧ i.toInt < 10) → (sAg [5] V Y) → ((i.toInt + 1).toNat) < fu10 → sWS D cI SM a Y s.heap H locs → lv_has ls 5 [(4, .int i), (2, .long z), (0, .ref (a 0)), (1, .int q)] → W p l e (rmD 0) s m ([.ref (a 0), .int q] : List Value).toArray below meth c H locs 0 0 (MQ below (va_Ql (q_m_stop V) (fun V1 t => va_P D vwCl (sWd cI SM a V1) t.heap) (sA SM a s.heap.size)) ([.ref (a 0), .int q] : List Value).toArray s 0 0 (sA SM a s.heap.size)) (F0 m 10 ls []) := by
    intro fu10
    induction fu10 with
    | zero => intro i z Y H locs ls hi hA hm10; exact absurd hm10 (Nat.not_lt_zero _)
    | succ fu10 ih10 =>
      intro i z Y H locs ls hi hA hm10 X hl
      refine lv_iload hx hb dX10_stop_10 (lv_at hl 0 rfl) ?_
      refine sZlt (tgt := 54) hx hb (rfl : Int32.toInt i = _) dX10_stop_12 (by decide) (fun c12 => ?_) (fun c12 => ?_)
      · skip
        refine lv_lload_n hx hb dX10_stop_54 rfl (lv_at hl 1 rfl) ?_
        exact srL G X dX10_stop_55 (by exact hA)
      · skip
        refine lv_ldc2 (v := 10) hx hb hown (hts _ kl_X10_157) dX10_stop_15 ?_
        refine lv_lload_n hx hb dX10_stop_18 rfl (lv_at hl 1 rfl) ?_
        refine lv_lmul hx hb dX10_stop_19 ?_
        refine lv_topl (fun x19 e19 => ?_)
        refine lv_aload_n hx hb dX10_stop_20 rfl (lv_at hl 2 rfl) ?_
        refine sgR G X 0 7 rfl rfl fl_X10_22 dX10_stop_21 ?_
        refine lv_iload hx hb dX10_stop_24 (lv_at hl 0 rfl) ?_
        refine sld G X 5 rfl (i32_in (by omega) (by omega)) dX10_stop_26 ?_
        refine lv_topi (fun x26 e26 => ?_)
        refine lv_i2l hx hb dX10_stop_27 rfl ?_
        refine lv_topl (fun x27 e27 => ?_)
        refine lv_ladd hx hb dX10_stop_28 ?_
        refine lv_topl (fun x28 e28 => ?_)
        refine lv_lstore_n (lv' := [(2, .long x28), (4, .int i), (0, .ref (a 0)), (1, .int q)]) hx hb dX10_stop_29 rfl hl (by decide) rfl (fun ls hl => ?_)
        refine lv_iload_n hx hb dX10_stop_30 rfl (lv_at hl 3 rfl) ?_
        refine lv_iload hx hb dX10_stop_31 (lv_at hl 1 rfl) ?_
        refine lv_ishr hx hb dX10_stop_33 ?_
        refine lv_topi (fun x33 e33 => ?_)
        refine lv_iconst (v := 1) hx hb dX10_stop_34 (by decide) ?_
        refine lv_iand hx hb dX10_stop_35 ?_
        refine lv_topi (fun x35 e35 => ?_)
        refine lv_iconst (v := 1) hx hb dX10_stop_36 (by decide) ?_
        refine sIne (tgt := 48) hx hb (rfl : Int32.toInt x35 = _) (by decide : (1 : Int32).toInt = 1) dX10_stop_37 (by decide) (fun c37 => ?_) (fun c37 => ?_)
        · skip
          obtain ⟨x48, e48⟩ : ∃ y : Int32, y = i + (-1) := ⟨_, rfl⟩
          refine lv_iinc (v := x48) (lv' := [(4, .int x48), (2, .long x28), (0, .ref (a 0)), (1, .int q)]) hx hb dX10_stop_48 hl (k := 1) rfl (by rw [e48]; rfl) (by decide) rfl (fun ls hl => ?_)
          refine lv_goto (tgt := 10) hx hb dX10_stop_51 (by decide) ?_
          exact ih10 x48 x28 Y _ _ _ (by rw [i32_d e48 (by omega)]; omega) (by first | exact hA.up (by decide) | exact hA) (by rw [i32_d e48 (by omega)]; omega) X (lv_sub hl [0, 1, 2, 3] rfl)
        · skip
          refine lv_aload_n hx hb dX10_stop_40 rfl (lv_at hl 2 rfl) ?_
          refine sgR G X 0 7 rfl rfl fl_X10_22 dX10_stop_41 ?_
          refine lv_iload hx hb dX10_stop_44 (lv_at hl 1 rfl) ?_
          refine lv_iconst (v := 0) hx hb dX10_stop_46 (by decide) ?_
          refine sst G X 5 rfl (i32_in (by omega) (by omega)) dX10_stop_47 (fun H locs X => ?_)
          obtain ⟨x48, e48⟩ : ∃ y : Int32, y = i + (-1) := ⟨_, rfl⟩
          refine lv_iinc (v := x48) (lv' := [(4, .int x48), (2, .long x28), (0, .ref (a 0)), (1, .int q)]) hx hb dX10_stop_48 hl (k := 1) rfl (by rw [e48]; rfl) (by decide) rfl (fun ls hl => ?_)
          refine lv_goto (tgt := 10) hx hb dX10_stop_51 (by decide) ?_
          exact ih10 x48 x28 (sUp Y 5 (upd (Y 5) i.toNatClampNeg 0)) _ _ _ (by rw [i32_d e48 (by omega)]; omega) (by first | exact hA.up (by decide) | exact hA) (by rw [i32_d e48 (by omega)]; omega) X (lv_sub hl [0, 1, 2, 3] rfl)
  exact L10 _ x7 0 V _ _ _ (by omega) (sAg.rf) (Nat.lt_succ_self _) X (lv_sub hl [0, 1, 2, 3] rfl)
def q_m_open (V : sV) : sV → Prop := fun V1 => sAg [5] V V1
set_option maxRecDepth 100000 in
set_option maxHeartbeats 4000000 in
theorem k_m_open {l : Launch} {D : va_G} {cI : ClassId} {a : Nat → Nat} (ha : sInj SM a) (V : sV) (q : Int64) (hm : mI V) : sMV l D cI SM a V yX10_open cX10_open 4 0 [.ref (a 0), .long q] (q_m_open V) := by
  refine sMVof ha (by decide +kernel) (Nat.le_of_ble_eq_true rfl) ?_
  intro p e s m below meth c ls G X hl
  obtain ⟨hx, hb, hml, hown, hts, hlocks, hr, hK⟩ := id G
  have hl : lv_has ls 4 [(0, .ref (a 0)), (1, .long q)] := hl
  obtain ⟨mf0, mf1, mf3, mf11, mf14, mf15⟩ := hm.1
  refine lv_iconst (v := 0) hx hb dX10_open_0 (by decide) ?_
  refine lv_istore_n (lv' := [(3, .int 0), (0, .ref (a 0)), (1, .long q)]) hx hb dX10_open_1 rfl hl (by decide) rfl (fun ls hl => ?_)
  have L2 : ∀ (fu2 : Nat) (i : Int32) (z : Int64) (Y : sV) (H : Heap) (locs : List Loc) (ls : Array Slot), (0 ≤ i.toInt) → (sAg [5] V Y) → (((V 0 3).toInt - i.toInt).toNat) < fu2 → sWS D cI SM a Y s.heap H locs → lv_has ls 4 [(3, .int i), (0, .ref (a 0)), (1, .long z)] → W p l e (rmD 0) s m ([.ref (a 0), .long q] : List Value).toArray below meth c H locs 0 0 (MQ below (va_Qv (q_m_open V) (fun V1 t => va_P D vwCl (sWd cI SM a V1) t.heap) (sA SM a s.heap.size)) ([.ref (a 0), .long q] : List Value).toArray s 0 0 (sA SM a s.heap.size)) (F0 m 2 ls []) := by
    intro fu2
    induction fu2 with
    | zero => intro i z Y H locs ls hi hA hm2; exact absurd hm2 (Nat.not_lt_zero _)
    | succ fu2 ih2 =>
      intro i z Y H locs ls hi hA hm2 X hl
      refine lv_iload_n hx hb dX10_open_2 rfl (lv_at hl 0 rfl) ?_
      refine lv_aload_n hx hb dX10_open_3 rfl (lv_at hl 1 rfl) ?_
      refine sgI G X 0 3 rfl rfl fl_X10_65 dX10_open_4 ?_
      refine sIge (tgt := 34) hx hb (rfl : Int32.toInt i = _) (rfl : Int32.toInt (Y 0 3) = _) dX10_open_7 (by decide) (fun c7 => ?_) (fun c7 => ?_)
      · skip
        rw [hA 0 (by decide)] at c7
        exact srV G X dX10_open_34 (by exact hA)
      · skip
        rw [hA 0 (by decide)] at c7
        refine lv_aload_n hx hb dX10_open_10 rfl (lv_at hl 1 rfl) ?_
        refine sgR G X 0 7 rfl rfl fl_X10_22 dX10_open_11 ?_
        refine lv_iload_n hx hb dX10_open_14 rfl (lv_at hl 0 rfl) ?_
        refine lv_lload_n hx hb dX10_open_15 rfl (lv_at hl 2 rfl) ?_
        refine lv_ldc2 (v := 10) hx hb hown (hts _ kl_X10_157) dX10_open_16 ?_
        refine lv_lrem hx hb dX10_open_19 (by decide) ?_
        refine lv_topl (fun x19 e19 => ?_)
        refine lv_l2i hx hb dX10_open_20 rfl ?_
        refine lv_topi (fun x20 e20 => ?_)
        refine sst G X 5 rfl (i32_in (by omega) (by omega)) dX10_open_21 (fun H locs X => ?_)
        refine lv_lload_n hx hb dX10_open_22 rfl (lv_at hl 2 rfl) ?_
        refine lv_ldc2 (v := 10) hx hb hown (hts _ kl_X10_157) dX10_open_23 ?_
        refine lv_ldiv hx hb dX10_open_26 (by decide) ?_
        refine lv_topl (fun x26 e26 => ?_)
        refine lv_lstore_n (lv' := [(1, .long x26), (3, .int i), (0, .ref (a 0))]) hx hb dX10_open_27 rfl hl (by decide) rfl (fun ls hl => ?_)
        obtain ⟨x28, e28⟩ : ∃ y : Int32, y = i + (1) := ⟨_, rfl⟩
        refine lv_iinc (v := x28) (lv' := [(3, .int x28), (1, .long x26), (0, .ref (a 0))]) hx hb dX10_open_28 hl (k := 1) rfl (by rw [e28]; rfl) (by decide) rfl (fun ls hl => ?_)
        refine lv_goto (tgt := 2) hx hb dX10_open_31 (by decide) ?_
        exact ih2 x28 x26 (sUp Y 5 (upd (Y 5) i.toNatClampNeg x20)) _ _ _ (by rw [i32_i e28 (by have := i32_hi (V 0 3); omega)]; omega) (hA.up (by decide)) (by rw [i32_i e28 (by have := i32_hi (V 0 3); omega)]; omega) X (lv_sub hl [0, 2, 1] rfl)
  exact L2 _ 0 q V _ _ _ (by decide) (sAg.rf) (Nat.lt_succ_self _) X (lv_sub hl [0, 1, 2] rfl)
def q_m_stopped (V : sV) (i : Int32) : Int32 → sV → Prop := fun x V1 => sAg [5, 12, 13, 14] V V1 ∧ (mFr V → x = fStopped i)
set_option maxRecDepth 100000 in
set_option maxHeartbeats 4000000 in
theorem k_m_stopped {l : Launch} {D : va_G} {cI : ClassId} {a : Nat → Nat} (ha : sInj SM a) (V : sV) (i : Int32) (hm : mI V) : sMI l D cI SM a V yX10_stopped cX10_stopped 5 .int 5 [.ref (a 0), .int i] (q_m_stopped V i) := by
  refine sMIof ha (by decide +kernel) (Nat.le_of_ble_eq_true rfl) ?_
  intro p e s m below meth c ls G X hl
  obtain ⟨hx, hb, hml, hown, hts, hlocks, hr, hK⟩ := id G
  have hl : lv_has ls 5 [(0, .ref (a 0)), (1, .int i)] := hl
  refine lv_iload_n hx hb dX10_stopped_0 rfl (lv_at hl 1 rfl) ?_
  refine sZlt (tgt := 14) hx hb (rfl : Int32.toInt i = _) dX10_stopped_1 (by decide) (fun c1 => ?_) (fun c1 => ?_)
  · skip
    refine lv_aload_n hx hb dX10_stopped_14 rfl (lv_at hl 0 rfl) ?_
    refine lv_iconst (v := (-1)) hx hb dX10_stopped_15 (by decide) ?_
    refine scI (ci := 9) (As := [.int (-1)]) (rest := []) G X (k_m_no ha V (-1) (by decide) (by decide)) iy_X10_no ml_X10_68 rfl rfl rfl rfl hl.1 (by decide) (by decide) (Nat.le_of_ble_eq_true rfl) dX10_stopped_16 (fun y16 V16 H locs p16 X => ?_)
    exact srI G X (rfl) dX10_stopped_19 (by exact ⟨sAg.mono p16.1 (by decide), fun hf => by rw [p16.2]; unfold fStopped; first | rw [if_neg (by omega)] | (rw [e10, hf.1] at c11; have h9 : (1 : Int) ≤ i.toInt := c11; rw [if_neg (by omega)])⟩)
  · skip
    refine lv_iload_n hx hb dX10_stopped_4 rfl (lv_at hl 1 rfl) ?_
    refine lv_iconst (v := 1) hx hb dX10_stopped_5 (by decide) ?_
    refine lv_aload_n hx hb dX10_stopped_6 rfl (lv_at hl 0 rfl) ?_
    refine sgI G X 0 3 rfl rfl fl_X10_65 dX10_stopped_7 ?_
    refine lv_ishl hx hb dX10_stopped_10 ?_
    refine lv_topi (fun x10 e10 => ?_)
    refine sIlt (tgt := 20) hx hb (rfl : Int32.toInt i = _) (rfl : Int32.toInt x10 = _) dX10_stopped_11 (by decide) (fun c11 => ?_) (fun c11 => ?_)
    · skip
      refine lv_aload_n hx hb dX10_stopped_20 rfl (lv_at hl 0 rfl) ?_
      refine lv_iload_n hx hb dX10_stopped_21 rfl (lv_at hl 1 rfl) ?_
      refine scL (ci := 9) (As := [.int i]) (rest := []) G X (k_m_stop ha V i (by assumption)) iy_X10_stop ml_X10_159 rfl rfl rfl rfl hl.1 (by decide) (by decide) (Nat.le_of_ble_eq_true rfl) dX10_stopped_22 (fun y22 V22 H locs p22 X => ?_)
      have hm22 : mI V22 := hm.ag ((sAg.mono p22 (by decide)) : sAg [5, 12, 13, 14] V _) (by decide)
      refine lv_lstore_n (lv' := [(2, .long y22), (0, .ref (a 0)), (1, .int i)]) hx hb dX10_stopped_25 rfl hl (by decide) rfl (fun ls hl => ?_)
      refine lv_aload_n hx hb dX10_stopped_26 rfl (lv_at hl 1 rfl) ?_
      refine scI (ci := 9) (As := []) (rest := []) G X (k_m_coal ha V22 (by assumption)) iy_X10_coal ml_X10_163 rfl rfl rfl rfl hl.1 (by decide) (by decide) (Nat.le_of_ble_eq_true rfl) dX10_stopped_27 (fun y27 V27 H locs p27 X => ?_)
      have hm27 : mI V27 := hm.ag (((sAg.mono p22 (by decide)).tr (sAg.mono p27.1 (by decide))) : sAg [5, 12, 13, 14] V _) (by decide)
      refine lv_istore (lv' := [(4, .int y27), (2, .long y22), (0, .ref (a 0)), (1, .int i)]) hx hb dX10_stopped_30 hl (by decide) rfl (fun ls hl => ?_)
      refine lv_aload_n hx hb dX10_stopped_32 rfl (lv_at hl 2 rfl) ?_
      refine lv_lload_n hx hb dX10_stopped_33 rfl (lv_at hl 1 rfl) ?_
      refine scV (ci := 9) (As := [.long y22]) (rest := []) G X (k_m_open ha V27 y22 (by assumption)) iy_X10_open ml_X10_166 rfl rfl rfl rfl hl.1 (by decide) (by decide) (Nat.le_of_ble_eq_true rfl) dX10_stopped_34 (fun V34 H locs p34 X => ?_)
      refine lv_iload hx hb dX10_stopped_37 (lv_at hl 0 rfl) ?_
      exact srI G X (rfl) dX10_stopped_39 (by (have hA22 : sAg [5] V V22 := p22; exact ⟨(((sAg.mono p22 (by decide)).tr (sAg.mono p27.1 (by decide))).tr (sAg.mono p34 (by decide))), fun hf => by rw [p27.2.2.2 (hf.quiet.ag hA22 (by decide)) (by rw [hA22 15 (by decide)]; exact hf.2.2.1)]; rw [e10, hf.1] at c11; have h9 : i.toInt < (1 : Int) := c11; unfold fStopped; rw [if_pos (by omega)]⟩))
    · skip
      refine lv_aload_n hx hb dX10_stopped_14 rfl (lv_at hl 0 rfl) ?_
      refine lv_iconst (v := (-1)) hx hb dX10_stopped_15 (by decide) ?_
      refine scI (ci := 9) (As := [.int (-1)]) (rest := []) G X (k_m_no ha V (-1) (by decide) (by decide)) iy_X10_no ml_X10_68 rfl rfl rfl rfl hl.1 (by decide) (by decide) (Nat.le_of_ble_eq_true rfl) dX10_stopped_16 (fun y16 V16 H locs p16 X => ?_)
      exact srI G X (rfl) dX10_stopped_19 (by exact ⟨sAg.mono p16.1 (by decide), fun hf => by rw [p16.2]; unfold fStopped; first | rw [if_neg (by omega)] | (rw [e10, hf.1] at c11; have h9 : (1 : Int) ≤ i.toInt := c11; rw [if_neg (by omega)])⟩)
