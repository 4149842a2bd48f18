theorem sBne {a b : Int} (h : a ≠ b) : (a == b) = false := by simpa using h
def qShape (x : Int32) (j : Nat) : Prop := j < 6 ∧ ((x.toInt ≠ 100 ∧ x.toInt ≠ 104 ∧ x.toInt ≠ 110 ∧ x.toInt ≠ 119) → j = 4)
/-- a static method that answers one of the texts -/
def sMKR (l : Launch) (D : va_G) (cI : ClassId) (S : List sSh) (a : Nat → Nat) (V : sV) (kk kv : Nat → Nat) (y : MethodName) (cc : ByteArray) (nL : Nat) (d : Nat) (av : List Value) (post : Nat → Prop) : Prop :=
  ∀ sz : Nat, Met l y (wM y cc nL (some (.object "java/lang/String"))) (rmD d) (sPK D cI S a V kk kv sz av) (va_Qr post (fun j b t => b = kk j ∧ va_P D vwCl (sWd cI S a V) t.heap) (sA S a sz)) 0 0 (sA S a sz)
set_option maxRecDepth 100000 in
set_option maxHeartbeats 4000000 in
theorem k_shape {l : Launch} {D : va_G} {cI : ClassId} {kk kv : Nat → Nat} {a : Nat → Nat} (ha : sInj SX a) (V : sV) (x : Int32) : sMKR l D cI SX a V kk kv yX3_shapeBehind cX3_shapeBehind 1 0 [.int x] (qShape x) := by
  intro sz
  refine sBodyK ha (by decide +kernel) (Nat.le_of_ble_eq_true rfl) ?_
  intro p e s m below meth c ls hsz G X hE hl
  subst hsz
  obtain ⟨hx, hb, hml, hown, hts, hlocks, hr, hK⟩ := id G
  have hl : lv_has ls 1 [(0, .int x)] := hl
  have fin : ∀ (j : Nat), qShape x j → ∀ t : State, t.heap = s.heap → s.WarmedH t.vm → va_Qr (qShape x) (fun j b t => b = kk j ∧ va_P D vwCl (sWd cI SX a V) t.heap) (sA SX a s.heap.size) [Value.int x].toArray s (.returned (some (.ref (kk j)))) t :=
    fun j hj t ht hW => ⟨⟨j, kk j, rfl, hj, rfl, by rw [ht]; exact X.2.1⟩, X.2.2.F ht⟩
  refine lv_iload_n hx hb dX3_shapeBehind_0 rfl (lv_at hl 0 rfl) ?_
  by_cases h0 : Int32.toInt x = 100
  · refine lv_lookup (tgt := 47) (off := 46) hx hb dX3_shapeBehind_1 (by decide) (by rw [h0]; rfl) (by decide) ?_
    refine skLdc G hE.2.2.2.2.1 dX3_shapeBehind_47 ?_
    exact W.aret hx hb hr (Or.inl ⟨_, rfl⟩) (Or.inr ⟨_, rfl⟩) (fin 1 ⟨by decide, fun h => absurd h0 h.1⟩) X.2.2.2.2 dX3_shapeBehind_49
  by_cases h1 : Int32.toInt x = 104
  · refine lv_lookup (tgt := 50) (off := 49) hx hb dX3_shapeBehind_1 (by decide) (by rw [h1]; rfl) (by decide) ?_
    refine skLdc G hE.2.2.2.2.2.1 dX3_shapeBehind_50 ?_
    exact W.aret hx hb hr (Or.inl ⟨_, rfl⟩) (Or.inr ⟨_, rfl⟩) (fin 2 ⟨by decide, fun h => absurd h1 h.2.1⟩) X.2.2.2.2 dX3_shapeBehind_52
  by_cases h2 : Int32.toInt x = 110
  · refine lv_lookup (tgt := 44) (off := 43) hx hb dX3_shapeBehind_1 (by decide) (by rw [h2]; rfl) (by decide) ?_
    refine skLdc G hE.2.2.2.1 dX3_shapeBehind_44 ?_
    exact W.aret hx hb hr (Or.inl ⟨_, rfl⟩) (Or.inr ⟨_, rfl⟩) (fin 0 ⟨by decide, fun h => absurd h2 h.2.2.1⟩) X.2.2.2.2 dX3_shapeBehind_46
  by_cases h3 : Int32.toInt x = 119
  · refine lv_lookup (tgt := 53) (off := 52) hx hb dX3_shapeBehind_1 (by decide) (by rw [h3]; rfl) (by decide) ?_
    refine skLdc G hE.2.2.2.2.2.2.1 dX3_shapeBehind_53 ?_
    exact W.aret hx hb hr (Or.inl ⟨_, rfl⟩) (Or.inr ⟨_, rfl⟩) (fin 3 ⟨by decide, fun h => absurd h3 h.2.2.2⟩) X.2.2.2.2 dX3_shapeBehind_55
  refine lv_lookup (tgt := 56) (off := 55) hx hb dX3_shapeBehind_1 (by decide) (by simp [Op.lookupswitch.offset, List.find?, sBne, h0, h1, h2, h3, Ne.symm h0, Ne.symm h1, Ne.symm h2, Ne.symm h3]) (by decide) ?_
  refine skLdc G hE.2.2.2.2.2.2.2.1 dX3_shapeBehind_56 ?_
  exact W.aret hx hb hr (Or.inl ⟨_, rfl⟩) (Or.inr ⟨_, rfl⟩) (fin 4 ⟨by decide, fun _ => rfl⟩) X.2.2.2.2 dX3_shapeBehind_58
section SKR
variable {p : Program} {l : Launch} {e : Env} {s : State} {m : MethodId} {args : Array Value} {below : List Frame} {meth : Method} {c : Code} {H : Heap} {locs : List Loc} {Q : State → Prop}
variable {cc : ByteArray} {pc : Nat} {ls : Array Slot} {rest : List Value} {own : String} {nL : Nat} {ret : Option FieldType} {D : va_G} {cI : ClassId} {S : List sSh} {a : Nat → Nat} {V : sV} {kk kv : Nat → Nat}
theorem skSR {d d' n nL' idx : Nat} {y : MethodName} {cc' : ByteArray} {As : List Value} {x : Int32} {st : List Value}
    (G : sCx p s m args meth c cc own nL ret D cI) (X : sWS D cI S a V s.heap H locs) (hE : kE kk kv (sA S a s.heap.size) s s.heap) (hM : sMKR l D cI S a V kk kv y cc' nL' d' As (qShape x)) (hI : sSY y cc' nL' (some (.object "java/lang/String")) n) (hL : Cond.methodLink own idx y ∈ wT)
    (hst : st = As.reverse ++ rest) (hn : As.length = n) (hls : ls.size = nL) (hd : d' + 1 ≤ d) (hnl : nL' ≤ 13) (hW : (rest.map fun v => v.category).sum ≤ 8) (hdg : decode cc pc = .ok (.invokestatic idx, 3))
    (kk2 : ∀ (j : Nat), j < 6 → ((x.toInt ≠ 100 ∧ x.toInt ≠ 104 ∧ x.toInt ≠ 110 ∧ x.toInt ≠ 119) → j = 4) → ∀ (H1 : Heap) (locs1 : List Loc), sWS D cI S a V s.heap H1 locs1 → W p l e (rmD d) s m args below meth c H1 locs1 0 0 Q (F0 m (pc + 3) ls (.ref (kk j) :: rest))) : W p l e (rmD d) s m args below meth c H locs 0 0 Q (F0 m pc ls st) := by
  obtain ⟨hx, hb, hml, hown, hts, hlocks, hr, hK⟩ := G
  obtain ⟨hi, hP, hS0⟩ := X
  have hG := sS_good hI hL
  obtain ⟨i1, i2, i5, i6, i7, i8⟩ := hI
  subst hst
  refine va_callr (va_runS (nL := nL) (As := As) (rest := rest) ⟨hx, hb, hml, hown, hts⟩ (hM H.size) (va_cwS n hts hG rfl rfl rfl ⟨i6, i7, i8⟩ ⟨hd, by show 8 + (nL' + 11) + 32 * d' ≤ 32 * d; omega⟩) ⟨sPK_blind, fun U hU hWm => ⟨rfl, by rw [hU], by rw [hU]; exact hP, va_K.moved hWm.alike hK, by rw [hU]; exact hE.go hS0 hWm (fun q h => sAsub hS0.1 q h)⟩⟩ rfl hn hls rfl (lv_room hW) hdg ⟨Nat.zero_le _, Nat.zero_le _⟩) hS0 (fun q hq h => sAsub hS0.1 q h) (fun q h => sAsub hS0.1 q h) (fun u ra t H1 locs1 ht hvm hw hB hz1 hk1 hS1 => ?_)
  rw [ht] at hB
  obtain ⟨rfl, hB⟩ := hB
  exact kk2 u hw.1 hw.2 H1 locs1 ⟨hi, hB, hS1⟩
end SKR
def q_passSign (V : sV) : Int32 → sV → Prop := fun x V1 => sAg [46, 47, 48] V V1 ∧ (x.toInt = 0 ∨ x.toInt = 1)
set_option maxRecDepth 100000 in
set_option maxHeartbeats 4000000 in
theorem k_passSign {l : Launch} {D : va_G} {cI : ClassId} {a : Nat → Nat} (ha : sInj SX a) (V : sV) (i : Int32) : sMI l D cI SX a V yX3_passSign cX3_passSign 2 .boolean 2 [.ref (a 46), .int i] (q_passSign V) := by
  refine sMIof ha (by decide +kernel) (Nat.le_of_ble_eq_true rfl) ?_
  intro p e s m below meth c ls G X hl
  obtain ⟨hx, hb, hml, hown, hts, hlocks, hr, hK⟩ := id G
  have hl : lv_has ls 2 [(0, .ref (a 46)), (1, .int i)] := hl
  refine lv_aload_n hx hb dX3_passSign_0 rfl (lv_at hl 0 rfl) ?_
  refine sgR G X 46 0 rfl rfl fl_X3_9 dX3_passSign_1 ?_
  refine sgR G X 2 4 rfl rfl fl_X3_32 dX3_passSign_4 ?_
  refine lv_aload_n hx hb dX3_passSign_7 rfl (lv_at hl 0 rfl) ?_
  refine sgI G X 46 2 rfl rfl fl_X3_24 dX3_passSign_8 ?_
  refine scI (ci := 4) (As := [.int (V 46 2)]) (rest := []) G X (k_rowGet ha V 16 17 80 rfl rfl (by first | decide | assumption) (by first | decide | assumption) (V 46 2)) iy_X4_get ml_X3_63 rfl rfl rfl rfl hl.1 (by decide) (by decide) (Nat.le_of_ble_eq_true rfl) dX3_passSign_11 (fun y11 V11 H locs p11 X => ?_)
  obtain ⟨p11, z11⟩ := p11
  subst V11
  refine lv_iload_n hx hb dX3_passSign_14 rfl (lv_at hl 1 rfl) ?_
  refine sIeq (tgt := 20) hx hb (rfl : Int32.toInt y11 = _) (rfl : Int32.toInt i = _) dX3_passSign_15 (by decide) (fun c15 => ?_) (fun c15 => ?_)
  · skip
    refine lv_aload_n hx hb dX3_passSign_20 rfl (lv_at hl 0 rfl) ?_
    refine lv_dup hx hb dX3_passSign_21 rfl ?_
    refine sgI G X 46 2 rfl rfl fl_X3_24 dX3_passSign_22 ?_
    refine lv_iconst (v := 1) hx hb dX3_passSign_25 (by decide) ?_
    refine lv_iadd hx hb dX3_passSign_26 ?_
    refine lv_topi (fun x26 e26 => ?_)
    refine spI G X 46 2 rfl rfl fp_X3_24 dX3_passSign_27 (fun H locs X => ?_)
    refine lv_iconst (v := 1) hx hb dX3_passSign_30 (by decide) ?_
    exact srI G X (rfl) dX3_passSign_31 (by exact ⟨sAg.rf.up (by decide), Or.inr rfl⟩)
  · skip
    refine lv_iconst (v := 0) hx hb dX3_passSign_18 (by decide) ?_
    exact srI G X (rfl) dX3_passSign_19 (by exact ⟨sAg.rf, Or.inl rfl⟩)
def q_passNumber (V : sV) : Int32 → sV → Prop := fun x V1 => sAg [46, 47, 48] V V1 ∧ (x.toInt = 0 ∨ x.toInt = 1)
set_option maxRecDepth 100000 in
set_option maxHeartbeats 4000000 in
theorem k_passNumber {l : Launch} {D : va_G} {cI : ClassId} {a : Nat → Nat} (ha : sInj SX a) (V : sV) (n : Int32) : sMI l D cI SX a V yX3_passNumber cX3_passNumber 6 .boolean 2 [.ref (a 46), .int n] (q_passNumber V) := by
  refine sMIof ha (by decide +kernel) (Nat.le_of_ble_eq_true rfl) ?_
  intro p e s m below meth c ls G X hl
  obtain ⟨hx, hb, hml, hown, hts, hlocks, hr, hK⟩ := id G
  have hl : lv_has ls 6 [(0, .ref (a 46)), (1, .int n)] := hl
  refine lv_iconst (v := 0) hx hb dX3_passNumber_0 (by decide) ?_
  refine lv_istore_n (lv' := [(2, .int 0), (0, .ref (a 46)), (1, .int n)]) hx hb dX3_passNumber_1 rfl hl (by decide) rfl (fun ls hl => ?_)
  refine lv_iconst (v := 0) hx hb dX3_passNumber_2 (by decide) ?_
  refine lv_istore_n (lv' := [(3, .int 0), (2, .int 0), (0, .ref (a 46)), (1, .int n)]) hx hb dX3_passNumber_3 rfl hl (by decide) rfl (fun ls hl => ?_)
  refine lv_iconst (v := 0) hx hb dX3_passNumber_4 (by decide) ?_
  refine lv_istore (lv' := [(4, .int 0), (3, .int 0), (2, .int 0), (0, .ref (a 46)), (1, .int n)]) hx hb dX3_passNumber_5 hl (by decide) rfl (fun ls hl => ?_)
  have L7 : ∀ (fu7 : Nat) (i : Int32) (u : Int32) (w : Int32) (Y : sV) (H : Heap) (locs : List Loc) (ls : Array Slot), (0 ≤ i.toInt) → (sAg [46, 47, 48] V Y) → ((n.toInt - i.toInt).toNat) < fu7 → sWS D cI SX a Y s.heap H locs → lv_has ls 6 [(4, .int i), (3, .int w), (2, .int u), (0, .ref (a 46)), (1, .int n)] → W p l e (rmD 2) s m ([.ref (a 46), .int n] : List Value).toArray below meth c H locs 0 0 (MQ below (va_Qi (q_passNumber V) (fun V1 t => va_P D vwCl (sWd cI SX a V1) t.heap) (sA SX a s.heap.size)) ([.ref (a 46), .int n] : List Value).toArray s 0 0 (sA SX a s.heap.size)) (F0 m 7 ls []) := by
    intro fu7
    induction fu7 with
    | zero => intro i u w Y H locs ls hi hA hm7; exact absurd hm7 (Nat.not_lt_zero _)
    | succ fu7 ih7 =>
      intro i u w Y H locs ls hi hA hm7 X hl
      refine lv_iload hx hb dX3_passNumber_7 (lv_at hl 0 rfl) ?_
      refine lv_iload_n hx hb dX3_passNumber_9 rfl (lv_at hl 4 rfl) ?_
      refine sIge (tgt := 76) hx hb (rfl : Int32.toInt i = _) (rfl : Int32.toInt n = _) dX3_passNumber_10 (by decide) (fun c10 => ?_) (fun c10 => ?_)
      · skip
        refine lv_aload_n hx hb dX3_passNumber_76 rfl (lv_at hl 3 rfl) ?_
        refine sgR G X 46 1 rfl rfl fl_X3_20 dX3_passNumber_77 ?_
        refine lv_iload_n hx hb dX3_passNumber_80 rfl (lv_at hl 2 rfl) ?_
        refine scV (ci := 4) (As := [.int u]) (rest := []) G X (k_rowAdd ha Y 47 48 6 rfl rfl (by first | decide | assumption) (by first | decide | assumption) u) iy_X4_add ml_X3_111 rfl rfl rfl rfl hl.1 (by decide) (by decide) (Nat.le_of_ble_eq_true rfl) dX3_passNumber_81 (fun V81 H locs p81 X => ?_)
        refine lv_iload_n hx hb dX3_passNumber_84 rfl (lv_at hl 1 rfl) ?_
        refine sZle (tgt := 92) hx hb (rfl : Int32.toInt w = _) dX3_passNumber_85 (by decide) (fun c85 => ?_) (fun c85 => ?_)
        · skip
          refine lv_iconst (v := 0) hx hb dX3_passNumber_92 (by decide) ?_
          exact srI G X (rfl) dX3_passNumber_93 (by exact ⟨hA.tr (sAg.mono p81.1 (by decide)), (by first | exact Or.inl rfl | exact Or.inr rfl)⟩)
        · skip
          refine lv_iconst (v := 1) hx hb dX3_passNumber_88 (by decide) ?_
          refine lv_goto (tgt := 93) hx hb dX3_passNumber_89 (by decide) ?_
          exact srI G X (rfl) dX3_passNumber_93 (by exact ⟨hA.tr (sAg.mono p81.1 (by decide)), (by first | exact Or.inl rfl | exact Or.inr rfl)⟩)
      · skip
        refine lv_aload_n hx hb dX3_passNumber_13 rfl (lv_at hl 3 rfl) ?_
        refine sgR G X 46 0 rfl rfl fl_X3_9 dX3_passNumber_14 ?_
        refine sgR G X 2 4 rfl rfl fl_X3_32 dX3_passNumber_17 ?_
        refine lv_aload_n hx hb dX3_passNumber_20 rfl (lv_at hl 3 rfl) ?_
        refine sgI G X 46 2 rfl rfl fl_X3_24 dX3_passNumber_21 ?_
        refine scI (ci := 4) (As := [.int (Y 46 2)]) (rest := []) G X (k_rowGet ha Y 16 17 80 rfl rfl (by first | decide | assumption) (by first | decide | assumption) (Y 46 2)) iy_X4_get ml_X3_63 rfl rfl rfl rfl hl.1 (by decide) (by decide) (Nat.le_of_ble_eq_true rfl) dX3_passNumber_24 (fun y24 V24 H locs p24 X => ?_)
        obtain ⟨p24, z24⟩ := p24
        subst V24
        refine lv_istore (lv' := [(5, .int y24), (4, .int i), (3, .int w), (2, .int u), (0, .ref (a 46)), (1, .int n)]) hx hb dX3_passNumber_27 hl (by decide) rfl (fun ls hl => ?_)
        refine lv_iload hx hb dX3_passNumber_29 (lv_at hl 0 rfl) ?_
        refine lv_bipush (v := 48) hx hb dX3_passNumber_31 (by decide) ?_
        refine sIlt (tgt := 76) hx hb (rfl : Int32.toInt y24 = _) (by decide : (48 : Int32).toInt = 48) dX3_passNumber_33 (by decide) (fun c33 => ?_) (fun c33 => ?_)
        · skip
          refine lv_aload_n hx hb dX3_passNumber_76 rfl (lv_at hl 4 rfl) ?_
          refine sgR G X 46 1 rfl rfl fl_X3_20 dX3_passNumber_77 ?_
          refine lv_iload_n hx hb dX3_passNumber_80 rfl (lv_at hl 3 rfl) ?_
          refine scV (ci := 4) (As := [.int u]) (rest := []) G X (k_rowAdd ha Y 47 48 6 rfl rfl (by first | decide | assumption) (by first | decide | assumption) u) iy_X4_add ml_X3_111 rfl rfl rfl rfl hl.1 (by decide) (by decide) (Nat.le_of_ble_eq_true rfl) dX3_passNumber_81 (fun V81 H locs p81 X => ?_)
          refine lv_iload_n hx hb dX3_passNumber_84 rfl (lv_at hl 2 rfl) ?_
          refine sZle (tgt := 92) hx hb (rfl : Int32.toInt w = _) dX3_passNumber_85 (by decide) (fun c85 => ?_) (fun c85 => ?_)
          · skip
            refine lv_iconst (v := 0) hx hb dX3_passNumber_92 (by decide) ?_
            exact srI G X (rfl) dX3_passNumber_93 (by exact ⟨hA.tr (sAg.mono p81.1 (by decide)), (by first | exact Or.inl rfl | exact Or.inr rfl)⟩)
          · skip
            refine lv_iconst (v := 1) hx hb dX3_passNumber_88 (by decide) ?_
            refine lv_goto (tgt := 93) hx hb dX3_passNumber_89 (by decide) ?_
            exact srI G X (rfl) dX3_passNumber_93 (by exact ⟨hA.tr (sAg.mono p81.1 (by decide)), (by first | exact Or.inl rfl | exact Or.inr rfl)⟩)
        · skip
          refine lv_iload hx hb dX3_passNumber_36 (lv_at hl 0 rfl) ?_
          refine lv_bipush (v := 57) hx hb dX3_passNumber_38 (by decide) ?_
          refine sIle (tgt := 46) hx hb (rfl : Int32.toInt y24 = _) (by decide : (57 : Int32).toInt = 57) dX3_passNumber_40 (by decide) (fun c40 => ?_) (fun c40 => ?_)
          · skip
            refine lv_bipush (v := 10) hx hb dX3_passNumber_46 (by decide) ?_
            refine lv_iload_n hx hb dX3_passNumber_48 rfl (lv_at hl 3 rfl) ?_
            refine lv_imul hx hb dX3_passNumber_49 ?_
            refine lv_topi (fun x49 e49 => ?_)
            refine lv_iload hx hb dX3_passNumber_50 (lv_at hl 0 rfl) ?_
            refine lv_iadd hx hb dX3_passNumber_52 ?_
            refine lv_topi (fun x52 e52 => ?_)
            refine lv_bipush (v := 48) hx hb dX3_passNumber_53 (by decide) ?_
            refine lv_isub hx hb dX3_passNumber_55 ?_
            refine lv_topi (fun x55 e55 => ?_)
            refine lv_istore_n (lv' := [(2, .int x55), (5, .int y24), (4, .int i), (3, .int w), (0, .ref (a 46)), (1, .int n)]) hx hb dX3_passNumber_56 rfl hl (by decide) rfl (fun ls hl => ?_)
            obtain ⟨x57, e57⟩ : ∃ y : Int32, y = w + (1) := ⟨_, rfl⟩
            refine lv_iinc (v := x57) (lv' := [(3, .int x57), (2, .int x55), (5, .int y24), (4, .int i), (0, .ref (a 46)), (1, .int n)]) hx hb dX3_passNumber_57 hl (k := 3) rfl (by rw [e57]; rfl) (by decide) rfl (fun ls hl => ?_)
            refine lv_aload_n hx hb dX3_passNumber_60 rfl (lv_at hl 4 rfl) ?_
            refine lv_dup hx hb dX3_passNumber_61 rfl ?_
            refine sgI G X 46 2 rfl rfl fl_X3_24 dX3_passNumber_62 ?_
            refine lv_iconst (v := 1) hx hb dX3_passNumber_65 (by decide) ?_
            refine lv_iadd hx hb dX3_passNumber_66 ?_
            refine lv_topi (fun x66 e66 => ?_)
            refine spI G X 46 2 rfl rfl fp_X3_24 dX3_passNumber_67 (fun H locs X => ?_)
            obtain ⟨x70, e70⟩ : ∃ y : Int32, y = i + (1) := ⟨_, rfl⟩
            refine lv_iinc (v := x70) (lv' := [(4, .int x70), (3, .int x57), (2, .int x55), (5, .int y24), (0, .ref (a 46)), (1, .int n)]) hx hb dX3_passNumber_70 hl (k := 3) rfl (by rw [e70]; rfl) (by decide) rfl (fun ls hl => ?_)
            refine lv_goto (tgt := 7) hx hb dX3_passNumber_73 (by decide) ?_
            exact ih7 x70 x55 x57 (sUp Y 46 (upd (Y 46) 2 x66)) _ _ _ (by rw [i32_i e70 (by have := i32_hi n; omega)]; omega) (hA.up (by decide)) (by rw [i32_i e70 (by have := i32_hi n; omega)]; omega) X (lv_sub hl [0, 1, 2, 4, 5] rfl)
          · skip
            refine lv_goto (tgt := 76) hx hb dX3_passNumber_43 (by decide) ?_
            refine lv_aload_n hx hb dX3_passNumber_76 rfl (lv_at hl 4 rfl) ?_
            refine sgR G X 46 1 rfl rfl fl_X3_20 dX3_passNumber_77 ?_
            refine lv_iload_n hx hb dX3_passNumber_80 rfl (lv_at hl 3 rfl) ?_
            refine scV (ci := 4) (As := [.int u]) (rest := []) G X (k_rowAdd ha Y 47 48 6 rfl rfl (by first | decide | assumption) (by first | decide | assumption) u) iy_X4_add ml_X3_111 rfl rfl rfl rfl hl.1 (by decide) (by decide) (Nat.le_of_ble_eq_true rfl) dX3_passNumber_81 (fun V81 H locs p81 X => ?_)
            refine lv_iload_n hx hb dX3_passNumber_84 rfl (lv_at hl 2 rfl) ?_
            refine sZle (tgt := 92) hx hb (rfl : Int32.toInt w = _) dX3_passNumber_85 (by decide) (fun c85 => ?_) (fun c85 => ?_)
            · skip
              refine lv_iconst (v := 0) hx hb dX3_passNumber_92 (by decide) ?_
              exact srI G X (rfl) dX3_passNumber_93 (by exact ⟨hA.tr (sAg.mono p81.1 (by decide)), (by first | exact Or.inl rfl | exact Or.inr rfl)⟩)
            · skip
              refine lv_iconst (v := 1) hx hb dX3_passNumber_88 (by decide) ?_
              refine lv_goto (tgt := 93) hx hb dX3_passNumber_89 (by decide) ?_
              exact srI G X (rfl) dX3_passNumber_93 (by exact ⟨hA.tr (sAg.mono p81.1 (by decide)), (by first | exact Or.inl rfl | exact Or.inr rfl)⟩)
  exact L7 _ 0 0 0 V _ _ _ (by decide) (sAg.rf) (Nat.lt_succ_self _) X (lv_sub hl [0, 1, 2, 3, 4] rfl)
def q_passKind (V : sV) : Int32 → sV → Prop := fun x V1 => sAg [46, 47, 48] V V1 ∧ (x.toInt = 0 ∨ x.toInt = 1)
set_option maxRecDepth 100000 in
set_option maxHeartbeats 4000000 in
theorem k_passKind {l : Launch} {D : va_G} {cI : ClassId} {a : Nat → Nat} {kk kv : Nat → Nat} (ha : sInj SX a) (V : sV)  : sMK l D cI SX a V kk kv yX3_passKind cX3_passKind 3 .boolean 4 [.ref (a 46)] (q_passKind V) := by
  refine sMKof ha (by decide +kernel) (Nat.le_of_ble_eq_true rfl) ?_
  intro p e s m below meth c ls G X hE hl
  obtain ⟨hx, hb, hml, hown, hts, hlocks, hr, hK⟩ := id G
  have hl : lv_has ls 3 [(0, .ref (a 46))] := hl
  refine lv_aload_n hx hb dX3_passKind_0 rfl (lv_at hl 0 rfl) ?_
  refine sgR G X 46 0 rfl rfl fl_X3_9 dX3_passKind_1 ?_
  refine sgR G X 2 4 rfl rfl fl_X3_32 dX3_passKind_4 ?_
  refine lv_aload_n hx hb dX3_passKind_7 rfl (lv_at hl 0 rfl) ?_
  refine sgI G X 46 2 rfl rfl fl_X3_24 dX3_passKind_8 ?_
  refine scI (ci := 4) (As := [.int (V 46 2)]) (rest := []) G X (k_rowGet ha V 16 17 80 rfl rfl (by first | decide | assumption) (by first | decide | assumption) (V 46 2)) iy_X4_get ml_X3_63 rfl rfl rfl rfl hl.1 (by decide) (by decide) (Nat.le_of_ble_eq_true rfl) dX3_passKind_11 (fun y11 V11 H locs p11 X => ?_)
  obtain ⟨p11, z11⟩ := p11
  subst V11
  refine lv_istore_n (lv' := [(1, .int y11), (0, .ref (a 46))]) hx hb dX3_passKind_14 rfl hl (by decide) rfl (fun ls hl => ?_)
  refine lv_iload_n hx hb dX3_passKind_15 rfl (lv_at hl 0 rfl) ?_
  refine sZge (tgt := 23) hx hb (rfl : Int32.toInt y11 = _) dX3_passKind_16 (by decide) (fun c16 => ?_) (fun c16 => ?_)
  · skip
    refine skLdc G hE.2.2.2.2.2.2.2.2.1 dX3_passKind_23 ?_
    refine lv_iload_n hx hb dX3_passKind_25 rfl (lv_at hl 0 rfl) ?_
    refine lv_i2c hx hb dX3_passKind_26 rfl ?_
    refine lv_topi (fun x26 e26 => ?_)
    refine skI (b := (kk 5)) (As := [.int x26]) (rest := []) G X hE (k_kIndexOf (kk := kk) (kv := kv) ha V 5 (by decide : (5 : Nat) < 6) x26) iy_J0_indexOf_0f7a4 ml_X3_116 (skRec X hE (by decide : (5 : Nat) < 6)) rfl rfl hl.1 (by decide) (by decide) (Nat.le_of_ble_eq_true rfl) dX3_passKind_27 (fun y27 V27 H locs p27 X => ?_)
    obtain ⟨p27, z27⟩ := p27
    subst V27
    refine lv_istore_n (lv' := [(2, .int y27), (1, .int y11), (0, .ref (a 46))]) hx hb dX3_passKind_30 rfl hl (by decide) rfl (fun ls hl => ?_)
    refine lv_iload_n hx hb dX3_passKind_31 rfl (lv_at hl 0 rfl) ?_
    refine sZge (tgt := 37) hx hb (rfl : Int32.toInt y27 = _) dX3_passKind_32 (by decide) (fun c32 => ?_) (fun c32 => ?_)
    · skip
      refine lv_aload_n hx hb dX3_passKind_37 rfl (lv_at hl 2 rfl) ?_
      refine sgR G X 46 1 rfl rfl fl_X3_20 dX3_passKind_38 ?_
      refine lv_iload_n hx hb dX3_passKind_41 rfl (lv_at hl 0 rfl) ?_
      refine scV (ci := 4) (As := [.int y27]) (rest := []) G X (k_rowAdd ha V 47 48 6 rfl rfl (by first | decide | assumption) (by first | decide | assumption) y27) iy_X4_add ml_X3_111 rfl rfl rfl rfl hl.1 (by decide) (by decide) (Nat.le_of_ble_eq_true rfl) dX3_passKind_42 (fun V42 H locs p42 X => ?_)
      refine lv_aload_n hx hb dX3_passKind_45 rfl (lv_at hl 2 rfl) ?_
      refine lv_dup hx hb dX3_passKind_46 rfl ?_
      refine sgI G X 46 2 rfl rfl fl_X3_24 dX3_passKind_47 ?_
      refine lv_iconst (v := 1) hx hb dX3_passKind_50 (by decide) ?_
      refine lv_iadd hx hb dX3_passKind_51 ?_
      refine lv_topi (fun x51 e51 => ?_)
      refine spI G X 46 2 rfl rfl fp_X3_24 dX3_passKind_52 (fun H locs X => ?_)
      refine lv_iconst (v := 1) hx hb dX3_passKind_55 (by decide) ?_
      exact srI G X (rfl) dX3_passKind_56 (by exact ⟨(sAg.mono p42.1 (by decide)).up (by decide), Or.inr rfl⟩)
    · skip
      refine lv_iconst (v := 0) hx hb dX3_passKind_35 (by decide) ?_
      exact srI G X (rfl) dX3_passKind_36 (by exact ⟨sAg.rf, Or.inl rfl⟩)
  · skip
    refine lv_iconst (v := (-1)) hx hb dX3_passKind_19 (by decide) ?_
    refine lv_goto (tgt := 30) hx hb dX3_passKind_20 (by decide) ?_
    refine lv_istore_n (lv' := [(2, .int (-1)), (1, .int y11), (0, .ref (a 46))]) hx hb dX3_passKind_30 rfl hl (by decide) rfl (fun ls hl => ?_)
    refine lv_iload_n hx hb dX3_passKind_31 rfl (lv_at hl 0 rfl) ?_
    refine sZge (tgt := 37) hx hb (by decide : ((-1) : Int32).toInt = -1) dX3_passKind_32 (by decide) (fun c32 => ?_) (fun c32 => ?_)
    · skip
      refine lv_aload_n hx hb dX3_passKind_37 rfl (lv_at hl 2 rfl) ?_
      refine sgR G X 46 1 rfl rfl fl_X3_20 dX3_passKind_38 ?_
      refine lv_iload_n hx hb dX3_passKind_41 rfl (lv_at hl 0 rfl) ?_
      refine scV (ci := 4) (As := [.int (-1)]) (rest := []) G X (k_rowAdd ha V 47 48 6 rfl rfl (by first | decide | assumption) (by first | decide | assumption) (-1)) iy_X4_add ml_X3_111 rfl rfl rfl rfl hl.1 (by decide) (by decide) (Nat.le_of_ble_eq_true rfl) dX3_passKind_42 (fun V42 H locs p42 X => ?_)
      refine lv_aload_n hx hb dX3_passKind_45 rfl (lv_at hl 2 rfl) ?_
      refine lv_dup hx hb dX3_passKind_46 rfl ?_
      refine sgI G X 46 2 rfl rfl fl_X3_24 dX3_passKind_47 ?_
      refine lv_iconst (v := 1) hx hb dX3_passKind_50 (by decide) ?_
      refine lv_iadd hx hb dX3_passKind_51 ?_
      refine lv_topi (fun x51 e51 => ?_)
      refine spI G X 46 2 rfl rfl fp_X3_24 dX3_passKind_52 (fun H locs X => ?_)
      refine lv_iconst (v := 1) hx hb dX3_passKind_55 (by decide) ?_
      exact srI G X (rfl) dX3_passKind_56 (by exact ⟨(sAg.mono p42.1 (by decide)).up (by decide), Or.inr rfl⟩)
    · skip
      refine lv_iconst (v := 0) hx hb dX3_passKind_35 (by decide) ?_
      exact srI G X (rfl) dX3_passKind_36 (by exact ⟨sAg.rf, Or.inl rfl⟩)
def q_passPart (V : sV) : Int32 → sV → Prop := fun x V1 => sAg [46, 47, 48] V V1 ∧ (x.toInt = 0 ∨ x.toInt = 1)
set_option maxRecDepth 100000 in
set_option maxHeartbeats 4000000 in
theorem k_passPart {l : Launch} {D : va_G} {cI : ClassId} {a : Nat → Nat} {kk kv : Nat → Nat} (ha : sInj SX a) (V : sV) (i : Int32) : sMK l D cI SX a V kk kv yX3_passPart cX3_passPart 2 .boolean 5 [.ref (a 46), .int i] (q_passPart V) := by
  refine sMKof ha (by decide +kernel) (Nat.le_of_ble_eq_true rfl) ?_
  intro p e s m below meth c ls G X hE hl
  obtain ⟨hx, hb, hml, hown, hts, hlocks, hr, hK⟩ := id G
  have hl : lv_has ls 2 [(0, .ref (a 46)), (1, .int i)] := hl
  refine lv_iload_n hx hb dX3_passPart_0 rfl (lv_at hl 1 rfl) ?_
  by_cases hs1_0 : Int32.toInt i = 35
  · refine lv_lookup (tgt := 42) (off := 41) hx hb dX3_passPart_1 (by decide) (by rw [hs1_0]; rfl) (by decide) ?_
    refine lv_aload_n hx hb dX3_passPart_42 rfl (lv_at hl 0 rfl) ?_
    refine lv_iconst (v := 2) hx hb dX3_passPart_43 (by decide) ?_
    refine scI (ci := 3) (As := [.int 2]) (rest := []) G X (k_passNumber ha V 2) iy_X3_passNumber ml_X3_101 rfl rfl rfl rfl hl.1 (by decide) (by decide) (Nat.le_of_ble_eq_true rfl) dX3_passPart_44 (fun y44 V44 H locs p44 X => ?_)
    exact srI G X (sNar p44.2) dX3_passPart_47 (by exact p44)
  by_cases hs1_1 : Int32.toInt i = 57
  · refine lv_lookup (tgt := 36) (off := 35) hx hb dX3_passPart_1 (by decide) (by rw [hs1_1]; rfl) (by decide) ?_
    refine lv_aload_n hx hb dX3_passPart_36 rfl (lv_at hl 0 rfl) ?_
    refine lv_iconst (v := 1) hx hb dX3_passPart_37 (by decide) ?_
    refine scI (ci := 3) (As := [.int 1]) (rest := []) G X (k_passNumber ha V 1) iy_X3_passNumber ml_X3_101 rfl rfl rfl rfl hl.1 (by decide) (by decide) (Nat.le_of_ble_eq_true rfl) dX3_passPart_38 (fun y38 V38 H locs p38 X => ?_)
    exact srI G X (sNar p38.2) dX3_passPart_41 (by exact p38)
  by_cases hs1_2 : Int32.toInt i = 107
  · refine lv_lookup (tgt := 48) (off := 47) hx hb dX3_passPart_1 (by decide) (by rw [hs1_2]; rfl) (by decide) ?_
    refine lv_aload_n hx hb dX3_passPart_48 rfl (lv_at hl 0 rfl) ?_
    refine skI (b := (a 46)) (As := []) (rest := []) G X hE (k_passKind (kk := kk) (kv := kv) ha V ) iy_X3_passKind ml_X3_105 (swRec G X (ci := 3) rfl rfl) rfl rfl hl.1 (by decide) (by decide) (Nat.le_of_ble_eq_true rfl) dX3_passPart_49 (fun y49 V49 H locs p49 X => ?_)
    exact srI G X (sNar p49.2) dX3_passPart_52 (by exact p49)
  refine lv_lookup (tgt := 53) (off := 52) hx hb dX3_passPart_1 (by decide) (by simp [Op.lookupswitch.offset, List.find?, sBne, hs1_0, hs1_1, hs1_2, Ne.symm hs1_0, Ne.symm hs1_1, Ne.symm hs1_2]) (by decide) ?_
  refine lv_aload_n hx hb dX3_passPart_53 rfl (lv_at hl 0 rfl) ?_
  refine lv_iload_n hx hb dX3_passPart_54 rfl (lv_at hl 1 rfl) ?_
  refine scI (ci := 3) (As := [.int i]) (rest := []) G X (k_passSign ha V i) iy_X3_passSign ml_X3_108 rfl rfl rfl rfl hl.1 (by decide) (by decide) (Nat.le_of_ble_eq_true rfl) dX3_passPart_55 (fun y55 V55 H locs p55 X => ?_)
  exact srI G X (sNar p55.2) dX3_passPart_58 (by exact p55)
def q_passStatement (V : sV) : Int32 → sV → Prop := fun x V1 => sAg [46, 47, 48] V V1 ∧ (x.toInt = 0 ∨ x.toInt = 1) ∧ (V 16 1 = 0 → V 46 2 = 0 → x.toInt = 0 ∧ V1 46 2 = 0)
set_option maxRecDepth 100000 in
set_option maxHeartbeats 4000000 in
theorem k_passStatement {l : Launch} {D : va_G} {cI : ClassId} {a : Nat → Nat} {kk kv : Nat → Nat} (ha : sInj SX a) (V : sV)  : sMK l D cI SX a V kk kv yX3_passStatement cX3_passStatement 3 .boolean 6 [.ref (a 46)] (q_passStatement V) := by
  refine sMKof ha (by decide +kernel) (Nat.le_of_ble_eq_true rfl) ?_
  intro p e s m below meth c ls G X hE hl
  obtain ⟨hx, hb, hml, hown, hts, hlocks, hr, hK⟩ := id G
  have hl : lv_has ls 3 [(0, .ref (a 46))] := hl
  refine lv_aload_n hx hb dX3_passStatement_0 rfl (lv_at hl 0 rfl) ?_
  refine sgR G X 46 1 rfl rfl fl_X3_20 dX3_passStatement_1 ?_
  refine scV (ci := 4) (As := []) (rest := []) G X (k_rowClear ha V 47 48 6 rfl rfl (by first | decide | assumption) (by first | decide | assumption)) iy_X4_clear ml_X3_60 rfl rfl rfl rfl hl.1 (by decide) (by decide) (Nat.le_of_ble_eq_true rfl) dX3_passStatement_4 (fun V4 H locs p4 X => ?_)
  have q4 : V4 = _ := p4
  have hA4 : sAg [46, 47, 48] V V4 := by rw [q4]; exact sAg.rf.up (by decide)
  refine lv_aload_n hx hb dX3_passStatement_7 rfl (lv_at hl 0 rfl) ?_
  refine lv_aload_n hx hb dX3_passStatement_8 rfl (lv_at hl 0 rfl) ?_
  refine sgR G X 46 0 rfl rfl fl_X3_9 dX3_passStatement_9 ?_
  refine sgR G X 2 4 rfl rfl fl_X3_32 dX3_passStatement_12 ?_
  refine lv_aload_n hx hb dX3_passStatement_15 rfl (lv_at hl 0 rfl) ?_
  refine sgI G X 46 2 rfl rfl fl_X3_24 dX3_passStatement_16 ?_
  refine scI (ci := 4) (As := [.int (V4 46 2)]) (rest := [.ref (a 46)]) G X (k_rowGet ha V4 16 17 80 rfl rfl (by first | decide | assumption) (by first | decide | assumption) (V4 46 2)) iy_X4_get ml_X3_63 rfl rfl rfl rfl hl.1 (by decide) (by decide) (Nat.le_of_ble_eq_true rfl) dX3_passStatement_19 (fun y19 V19 H locs p19 X => ?_)
  obtain ⟨p19, z19⟩ := p19
  subst V19
  have hy : V 16 1 = 0 → V 46 2 = 0 → y19.toInt = -1 := fun h1 h2 => by rw [p19.2 (by rw [hA4 16 (by decide), q4, sUp_n _ _ (by decide), h1, h2]; decide)]; rfl
  refine spI G X 46 3 rfl rfl fp_X3_67 dX3_passStatement_22 (fun H locs X => ?_)
  refine lv_aload_n hx hb dX3_passStatement_25 rfl (lv_at hl 0 rfl) ?_
  refine sgI G X 46 3 rfl rfl fl_X3_67 dX3_passStatement_26 ?_
  refine sTop (y := y19) rfl ?_
  refine skSR (As := [.int y19]) (rest := []) G X hE (k_shape (kk := kk) (kv := kv) ha (sUp V4 46 (upd (V4 46) 3 y19)) y19) iy_X3_shapeBehind ml_X3_70 rfl rfl hl.1 (by decide) (by decide) (Nat.le_of_ble_eq_true rfl) dX3_passStatement_29 (fun j29 hj29 hz29 H locs X => ?_)
  refine lv_astore_n (lv' := [(1, .ref (kk j29)), (0, .ref (a 46))]) hx hb dX3_passStatement_32 rfl hl (by decide) rfl (fun ls hl => ?_)
  refine lv_aload_n hx hb dX3_passStatement_33 rfl (lv_at hl 0 rfl) ?_
  refine skI (b := (kk j29)) (As := []) (rest := []) G X hE (k_kIsEmpty (kk := kk) (kv := kv) ha (sUp V4 46 (upd (V4 46) 3 y19)) j29 hj29) iy_J0_isEmpty_aae02 ml_X3_74 (skRec X hE hj29) rfl rfl hl.1 (by decide) (by decide) (Nat.le_of_ble_eq_true rfl) dX3_passStatement_34 (fun y34 V34 H locs p34 X => ?_)
  obtain ⟨p34, z34⟩ := p34
  subst V34
  refine sZeq (tgt := 42) hx hb (rfl : Int32.toInt y34 = _) dX3_passStatement_37 (by decide) (fun c37 => ?_) (fun c37 => ?_)
  · skip
    have hF : V 16 1 = 0 → V 46 2 = 0 → False := fun h1 h2 => by have h3 := hy h1 h2; have h4 := hz29 ⟨by omega, by omega, by omega, by omega⟩; subst h4; have h5 : kLen.getD 4 0 = 0 := rfl; omega
    refine lv_aload_n hx hb dX3_passStatement_42 rfl (lv_at hl 1 rfl) ?_
    refine lv_dup hx hb dX3_passStatement_43 rfl ?_
    refine sgI G X 46 2 rfl rfl fl_X3_24 dX3_passStatement_44 ?_
    refine sTop (y := V4 46 2) rfl ?_
    refine lv_iconst (v := 1) hx hb dX3_passStatement_47 (by decide) ?_
    refine lv_iadd hx hb dX3_passStatement_48 ?_
    refine lv_topi (fun x48 e48 => ?_)
    refine spI G X 46 2 rfl rfl fp_X3_24 dX3_passStatement_49 (fun H locs X => ?_)
    refine lv_iconst (v := 0) hx hb dX3_passStatement_52 (by decide) ?_
    refine lv_istore_n (lv' := [(2, .int 0), (1, .ref (kk j29)), (0, .ref (a 46))]) hx hb dX3_passStatement_53 rfl hl (by decide) rfl (fun ls hl => ?_)
    have L54 : ∀ (fu54 : Nat) (i : Int32) (Y : sV) (H : Heap) (locs : List Loc) (ls : Array Slot), (0 ≤ i.toInt) → (sAg [46, 47, 48] V Y) → (((kLen.getD j29 0 : Nat) - i.toInt).toNat) < fu54 → sWS D cI SX a Y s.heap H locs → lv_has ls 3 [(2, .int i), (1, .ref (kk j29)), (0, .ref (a 46))] → W p l e (rmD 6) s m ([.ref (a 46)] : List Value).toArray below meth c H locs 0 0 (MQ below (va_Qi (q_passStatement V) (fun V1 t => va_P D vwCl (sWd cI SX a V1) t.heap) (sA SX a s.heap.size)) ([.ref (a 46)] : List Value).toArray s 0 0 (sA SX a s.heap.size)) (F0 m 54 ls []) := by
      intro fu54
      induction fu54 with
      | zero => intro i Y H locs ls hi hA hm54; exact absurd hm54 (Nat.not_lt_zero _)
      | succ fu54 ih54 =>
        intro i Y H locs ls hi hA hm54 X hl
        refine lv_iload_n hx hb dX3_passStatement_54 rfl (lv_at hl 0 rfl) ?_
        refine lv_aload_n hx hb dX3_passStatement_55 rfl (lv_at hl 1 rfl) ?_
        refine skI (b := (kk j29)) (As := []) (rest := [.int i]) G X hE (k_kLength (kk := kk) (kv := kv) ha Y j29 hj29) iy_J0_length_8abf5 ml_X3_79 (skRec X hE hj29) rfl rfl hl.1 (by decide) (by decide) (Nat.le_of_ble_eq_true rfl) dX3_passStatement_56 (fun y56 V56 H locs p56 X => ?_)
        obtain ⟨p56, z56⟩ := p56
        subst V56
        refine sIge (tgt := 82) hx hb (rfl : Int32.toInt i = _) (rfl : Int32.toInt y56 = _) dX3_passStatement_59 (by decide) (fun c59 => ?_) (fun c59 => ?_)
        · skip
          rw [p56, nI_toInt (by have := kLen_lt j29 hj29; omega)] at c59
          refine lv_iconst (v := 1) hx hb dX3_passStatement_82 (by decide) ?_
          exact srI G X (rfl) dX3_passStatement_83 (by exact ⟨hA, Or.inr rfl, fun h1 h2 => absurd (hF h1 h2) id⟩)
        · skip
          rw [p56, nI_toInt (by have := kLen_lt j29 hj29; omega)] at c59
          refine lv_aload_n hx hb dX3_passStatement_62 rfl (lv_at hl 2 rfl) ?_
          refine lv_aload_n hx hb dX3_passStatement_63 rfl (lv_at hl 1 rfl) ?_
          refine lv_iload_n hx hb dX3_passStatement_64 rfl (lv_at hl 0 rfl) ?_
          refine skI (b := (kk j29)) (As := [.int i]) (rest := [.ref (a 46)]) G X hE (k_kCharAt (kk := kk) (kv := kv) ha Y j29 hj29 i (by first | assumption | omega) (by first | assumption | omega)) iy_J0_charAt_5068e ml_X3_83 (skRec X hE hj29) rfl rfl hl.1 (by decide) (by decide) (Nat.le_of_ble_eq_true rfl) dX3_passStatement_65 (fun y65 V65 H locs p65 X => ?_)
          obtain ⟨p65, z65⟩ := p65
          subst V65
          refine skI (b := (a 46)) (As := [.int y65]) (rest := []) G X hE (k_passPart (kk := kk) (kv := kv) ha Y y65) iy_X3_passPart ml_X3_87 (swRec G X (ci := 3) rfl rfl) rfl rfl hl.1 (by decide) (by decide) (Nat.le_of_ble_eq_true rfl) dX3_passStatement_68 (fun y68 V68 H locs p68 X => ?_)
          refine sZne (tgt := 76) hx hb (rfl : Int32.toInt y68 = _) dX3_passStatement_71 (by decide) (fun c71 => ?_) (fun c71 => ?_)
          · skip
            obtain ⟨x76, e76⟩ : ∃ y : Int32, y = i + (1) := ⟨_, rfl⟩
            refine lv_iinc (v := x76) (lv' := [(2, .int x76), (1, .ref (kk j29)), (0, .ref (a 46))]) hx hb dX3_passStatement_76 hl (k := 0) rfl (by rw [e76]; rfl) (by decide) rfl (fun ls hl => ?_)
            refine lv_goto (tgt := 54) hx hb dX3_passStatement_79 (by decide) ?_
            exact ih54 x76 V68 _ _ _ (by rw [i32_i e76 (by have := kLen_lt j29 hj29; omega)]; omega) (hA.tr p68.1) (by rw [i32_i e76 (by have := kLen_lt j29 hj29; omega)]; omega) X (lv_sub hl [0, 1, 2] rfl)
          · skip
            refine lv_iconst (v := 0) hx hb dX3_passStatement_74 (by decide) ?_
            exact srI G X (rfl) dX3_passStatement_75 (by exact ⟨hA.tr p68.1, Or.inl rfl, fun h1 h2 => absurd (hF h1 h2) id⟩)
    exact L54 _ 0 (sUp (sUp V4 46 (upd (V4 46) 3 y19)) 46 (upd ((sUp V4 46 (upd (V4 46) 3 y19)) 46) 2 x48)) _ _ _ (by decide) ((hA4.up (by decide)).up (by decide)) (Nat.lt_succ_self _) X (lv_sub hl [0, 1, 2] rfl)
  · skip
    have h46 : V4 46 2 = V 46 2 := by rw [q4, sUp_n _ _ (by decide)]
    refine lv_iconst (v := 0) hx hb dX3_passStatement_40 (by decide) ?_
    exact srI G X (rfl) dX3_passStatement_41 (by exact ⟨hA4.up (by decide), Or.inl rfl, fun h1 h2 => ⟨rfl, by rw [sUp_s]; show V4 46 2 = 0; rw [h46, h2]⟩⟩)
def q_faultOfLetters (V : sV) : Int32 → sV → Prop := fun x V1 => sAg [46, 47, 48] V V1 ∧ (sFr V → x = -1000)
set_option maxRecDepth 100000 in
set_option maxHeartbeats 4000000 in
theorem k_faultOfLetters {l : Launch} {D : va_G} {cI : ClassId} {a : Nat → Nat} {kk kv : Nat → Nat} (ha : sInj SX a) (V : sV)  : sMK l D cI SX a V kk kv yX3_faultOfLetters cX3_faultOfLetters 3 .int 7 [.ref (a 46)] (q_faultOfLetters V) := by
  refine sMKof ha (by decide +kernel) (Nat.le_of_ble_eq_true rfl) ?_
  intro p e s m below meth c ls G X hE hl
  obtain ⟨hx, hb, hml, hown, hts, hlocks, hr, hK⟩ := id G
  have hl : lv_has ls 3 [(0, .ref (a 46))] := hl
  refine lv_aload_n hx hb dX3_faultOfLetters_0 rfl (lv_at hl 0 rfl) ?_
  refine lv_iconst (v := 0) hx hb dX3_faultOfLetters_1 (by decide) ?_
  refine spI G X 46 2 rfl rfl fp_X3_24 dX3_faultOfLetters_2 (fun H locs X => ?_)
  refine lv_aload_n hx hb dX3_faultOfLetters_5 rfl (lv_at hl 0 rfl) ?_
  refine skI (b := (a 46)) (As := []) (rest := []) G X hE (k_passStatement (kk := kk) (kv := kv) ha (sUp V 46 (upd (V 46) 2 0)) ) iy_X3_passStatement ml_X3_28 (swRec G X (ci := 3) rfl rfl) rfl rfl hl.1 (by decide) (by decide) (Nat.le_of_ble_eq_true rfl) dX3_faultOfLetters_6 (fun y6 V6 H locs p6 X => ?_)
  refine lv_istore_n (lv' := [(1, .int y6), (0, .ref (a 46))]) hx hb dX3_faultOfLetters_9 rfl hl (by decide) rfl (fun ls hl => ?_)
  refine lv_iconst (v := 0) hx hb dX3_faultOfLetters_10 (by decide) ?_
  refine lv_istore_n (lv' := [(2, .int 0), (1, .int y6), (0, .ref (a 46))]) hx hb dX3_faultOfLetters_11 rfl hl (by decide) rfl (fun ls hl => ?_)
  have L12 : ∀ (fu12 : Nat) (i : Int32) (f : Int32) (Y : sV) (H : Heap) (locs : List Loc) (ls : Array Slot), (0 ≤ i.toInt) → (sAg [46, 47, 48] V Y) → (sFr V → f.toInt = 0 ∧ Y 46 2 = 0) → ((80 - i.toInt).toNat) < fu12 → sWS D cI SX a Y s.heap H locs → lv_has ls 3 [(2, .int i), (1, .int f), (0, .ref (a 46))] → W p l e (rmD 7) s m ([.ref (a 46)] : List Value).toArray below meth c H locs 0 0 (MQ below (va_Qi (q_faultOfLetters V) (fun V1 t => va_P D vwCl (sWd cI SX a V1) t.heap) (sA SX a s.heap.size)) ([.ref (a 46)] : List Value).toArray s 0 0 (sA SX a s.heap.size)) (F0 m 12 ls []) := by
    intro fu12
    induction fu12 with
    | zero => intro i f Y H locs ls hi hA hv hm12; exact absurd hm12 (Nat.not_lt_zero _)
    | succ fu12 ih12 =>
      intro i f Y H locs ls hi hA hv hm12 X hl
      refine lv_iload_n hx hb dX3_faultOfLetters_12 rfl (lv_at hl 0 rfl) ?_
      refine lv_bipush (v := 80) hx hb dX3_faultOfLetters_13 (by decide) ?_
      refine sIge (tgt := 50) hx hb (rfl : Int32.toInt i = _) (by decide : (80 : Int32).toInt = 80) dX3_faultOfLetters_15 (by decide) (fun c15 => ?_) (fun c15 => ?_)
      · skip
        refine lv_iload_n hx hb dX3_faultOfLetters_50 rfl (lv_at hl 1 rfl) ?_
        refine sZeq (tgt := 58) hx hb (rfl : Int32.toInt f = _) dX3_faultOfLetters_51 (by decide) (fun c51 => ?_) (fun c51 => ?_)
        · skip
          refine lv_sipush (v := (-1000)) hx hb dX3_faultOfLetters_58 (by decide) ?_
          refine lv_aload_n hx hb dX3_faultOfLetters_61 rfl (lv_at hl 2 rfl) ?_
          refine sgI G X 46 2 rfl rfl fl_X3_24 dX3_faultOfLetters_62 ?_
          refine lv_isub hx hb dX3_faultOfLetters_65 ?_
          refine lv_topi (fun x65 e65 => ?_)
          exact srI G X (rfl) dX3_faultOfLetters_66 (by first | exact ⟨hA, fun hf => absurd (hv hf).1 c51⟩ | exact ⟨hA, fun hf => by rw [e65, (hv hf).2]; decide⟩)
        · skip
          refine lv_iconst (v := 0) hx hb dX3_faultOfLetters_54 (by decide) ?_
          refine lv_goto (tgt := 66) hx hb dX3_faultOfLetters_55 (by decide) ?_
          exact srI G X (rfl) dX3_faultOfLetters_66 (by first | exact ⟨hA, fun hf => absurd (hv hf).1 c51⟩ | exact ⟨hA, fun hf => by rw [e65, (hv hf).2]; decide⟩)
      · skip
        refine lv_iload_n hx hb dX3_faultOfLetters_18 rfl (lv_at hl 1 rfl) ?_
        refine sZeq (tgt := 50) hx hb (rfl : Int32.toInt f = _) dX3_faultOfLetters_19 (by decide) (fun c19 => ?_) (fun c19 => ?_)
        · skip
          refine lv_iload_n hx hb dX3_faultOfLetters_50 rfl (lv_at hl 1 rfl) ?_
          refine sZeq (tgt := 58) hx hb (rfl : Int32.toInt f = _) dX3_faultOfLetters_51 (by decide) (fun c51 => ?_) (fun c51 => ?_)
          · skip
            refine lv_sipush (v := (-1000)) hx hb dX3_faultOfLetters_58 (by decide) ?_
            refine lv_aload_n hx hb dX3_faultOfLetters_61 rfl (lv_at hl 2 rfl) ?_
            refine sgI G X 46 2 rfl rfl fl_X3_24 dX3_faultOfLetters_62 ?_
            refine lv_isub hx hb dX3_faultOfLetters_65 ?_
            refine lv_topi (fun x65 e65 => ?_)
            exact srI G X (rfl) dX3_faultOfLetters_66 (by first | exact ⟨hA, fun hf => absurd (hv hf).1 c51⟩ | exact ⟨hA, fun hf => by rw [e65, (hv hf).2]; decide⟩)
          · skip
            refine lv_iconst (v := 0) hx hb dX3_faultOfLetters_54 (by decide) ?_
            refine lv_goto (tgt := 66) hx hb dX3_faultOfLetters_55 (by decide) ?_
            exact srI G X (rfl) dX3_faultOfLetters_66 (by first | exact ⟨hA, fun hf => absurd (hv hf).1 c51⟩ | exact ⟨hA, fun hf => by rw [e65, (hv hf).2]; decide⟩)
        · skip
          refine lv_aload_n hx hb dX3_faultOfLetters_22 rfl (lv_at hl 2 rfl) ?_
          refine sgI G X 46 2 rfl rfl fl_X3_24 dX3_faultOfLetters_23 ?_
          refine lv_aload_n hx hb dX3_faultOfLetters_26 rfl (lv_at hl 2 rfl) ?_
          refine sgR G X 46 0 rfl rfl fl_X3_9 dX3_faultOfLetters_27 ?_
          refine sgR G X 2 4 rfl rfl fl_X3_32 dX3_faultOfLetters_30 ?_
          refine sgI G X 16 1 rfl rfl fl_X3_37 dX3_faultOfLetters_33 ?_
          refine sIge (tgt := 50) hx hb (rfl : Int32.toInt (Y 46 2) = _) (rfl : Int32.toInt (Y 16 1) = _) dX3_faultOfLetters_36 (by decide) (fun c36 => ?_) (fun c36 => ?_)
          · skip
            refine lv_iload_n hx hb dX3_faultOfLetters_50 rfl (lv_at hl 1 rfl) ?_
            refine sZeq (tgt := 58) hx hb (rfl : Int32.toInt f = _) dX3_faultOfLetters_51 (by decide) (fun c51 => ?_) (fun c51 => ?_)
            · skip
              refine lv_sipush (v := (-1000)) hx hb dX3_faultOfLetters_58 (by decide) ?_
              refine lv_aload_n hx hb dX3_faultOfLetters_61 rfl (lv_at hl 2 rfl) ?_
              refine sgI G X 46 2 rfl rfl fl_X3_24 dX3_faultOfLetters_62 ?_
              refine lv_isub hx hb dX3_faultOfLetters_65 ?_
              refine lv_topi (fun x65 e65 => ?_)
              exact srI G X (rfl) dX3_faultOfLetters_66 (by first | exact ⟨hA, fun hf => absurd (hv hf).1 c51⟩ | exact ⟨hA, fun hf => by rw [e65, (hv hf).2]; decide⟩)
            · skip
              refine lv_iconst (v := 0) hx hb dX3_faultOfLetters_54 (by decide) ?_
              refine lv_goto (tgt := 66) hx hb dX3_faultOfLetters_55 (by decide) ?_
              exact srI G X (rfl) dX3_faultOfLetters_66 (by first | exact ⟨hA, fun hf => absurd (hv hf).1 c51⟩ | exact ⟨hA, fun hf => by rw [e65, (hv hf).2]; decide⟩)
          · skip
            refine lv_aload_n hx hb dX3_faultOfLetters_39 rfl (lv_at hl 2 rfl) ?_
            refine skI (b := (a 46)) (As := []) (rest := []) G X hE (k_passStatement (kk := kk) (kv := kv) ha Y ) iy_X3_passStatement ml_X3_28 (swRec G X (ci := 3) rfl rfl) rfl rfl hl.1 (by decide) (by decide) (Nat.le_of_ble_eq_true rfl) dX3_faultOfLetters_40 (fun y40 V40 H locs p40 X => ?_)
            refine lv_istore_n (lv' := [(1, .int y40), (2, .int i), (0, .ref (a 46))]) hx hb dX3_faultOfLetters_43 rfl hl (by decide) rfl (fun ls hl => ?_)
            obtain ⟨x44, e44⟩ : ∃ y : Int32, y = i + (1) := ⟨_, rfl⟩
            refine lv_iinc (v := x44) (lv' := [(2, .int x44), (1, .int y40), (0, .ref (a 46))]) hx hb dX3_faultOfLetters_44 hl (k := 1) rfl (by rw [e44]; rfl) (by decide) rfl (fun ls hl => ?_)
            refine lv_goto (tgt := 12) hx hb dX3_faultOfLetters_47 (by decide) ?_
            exact ih12 x44 y40 V40 _ _ _ (by rw [i32_i e44 (by omega)]; omega) (hA.tr p40.1) (fun hf => absurd (hv hf).1 c19) (by rw [i32_i e44 (by omega)]; omega) X (lv_sub hl [0, 1, 2] rfl)
  exact L12 _ 0 y6 V6 _ _ _ (by decide) ((sAg.rf.up (by decide)).tr p6.1) (fun hf => p6.2.2 (by rw [sUp_n _ _ (by decide)]; exact hf.2.2.2.2.2.1) (by rw [sUp_s]; rfl)) (Nat.lt_succ_self _) X (lv_sub hl [0, 1, 2] rfl)
def q_takeRooms (V : sV) : Int32 → sV → Prop := fun x V1 => sAg [2] V V1 ∧ (x.toInt = 0 ∨ x.toInt = 1)
set_option maxRecDepth 100000 in
set_option maxHeartbeats 4000000 in
theorem k_takeRooms {l : Launch} {D : va_G} {cI : ClassId} {a : Nat → Nat} (ha : sInj SX a) (V : sV) (i : Int32) : sMI l D cI SX a V yX3_takeRooms cX3_takeRooms 2 .boolean 2 [.ref (a 46), .int i] (q_takeRooms V) := by
  refine sMIof ha (by decide +kernel) (Nat.le_of_ble_eq_true rfl) ?_
  intro p e s m below meth c ls G X hl
  obtain ⟨hx, hb, hml, hown, hts, hlocks, hr, hK⟩ := id G
  have hl : lv_has ls 2 [(0, .ref (a 46)), (1, .int i)] := hl
  refine lv_iload_n hx hb dX3_takeRooms_0 rfl (lv_at hl 1 rfl) ?_
  refine lv_iconst (v := 1) hx hb dX3_takeRooms_1 (by decide) ?_
  refine sIlt (tgt := 25) hx hb (rfl : Int32.toInt i = _) (by decide : (1 : Int32).toInt = 1) dX3_takeRooms_2 (by decide) (fun c2 => ?_) (fun c2 => ?_)
  · skip
    refine lv_iconst (v := 0) hx hb dX3_takeRooms_25 (by decide) ?_
    exact srI G X (rfl) dX3_takeRooms_26 (by exact ⟨sAg.rf, Or.inl rfl⟩)
  · skip
    refine lv_iload_n hx hb dX3_takeRooms_5 rfl (lv_at hl 1 rfl) ?_
    refine lv_bipush (v := 6) hx hb dX3_takeRooms_6 (by decide) ?_
    refine sIgt (tgt := 25) hx hb (rfl : Int32.toInt i = _) (by decide : (6 : Int32).toInt = 6) dX3_takeRooms_8 (by decide) (fun c8 => ?_) (fun c8 => ?_)
    · skip
      refine lv_iconst (v := 0) hx hb dX3_takeRooms_25 (by decide) ?_
      exact srI G X (rfl) dX3_takeRooms_26 (by exact ⟨sAg.rf, Or.inl rfl⟩)
    · skip
      refine lv_iload_n hx hb dX3_takeRooms_11 rfl (lv_at hl 1 rfl) ?_
      refine lv_aload_n hx hb dX3_takeRooms_12 rfl (lv_at hl 0 rfl) ?_
      refine sgR G X 46 0 rfl rfl fl_X3_9 dX3_takeRooms_13 ?_
      refine sgR G X 2 1 rfl rfl fl_X3_43 dX3_takeRooms_16 ?_
      refine scI (ci := 2) (As := []) (rest := [.int i]) G X (k_roomsToldOf ha V ) iy_X2_roomsToldOf ml_X3_132 rfl rfl rfl rfl hl.1 (by decide) (by decide) (Nat.le_of_ble_eq_true rfl) dX3_takeRooms_19 (fun y19 V19 H locs p19 X => ?_)
      obtain ⟨p19, z19⟩ := p19
      subst V19
      refine sIge (tgt := 27) hx hb (rfl : Int32.toInt i = _) (rfl : Int32.toInt y19 = _) dX3_takeRooms_22 (by decide) (fun c22 => ?_) (fun c22 => ?_)
      · skip
        refine lv_aload_n hx hb dX3_takeRooms_27 rfl (lv_at hl 0 rfl) ?_
        refine sgR G X 46 0 rfl rfl fl_X3_9 dX3_takeRooms_28 ?_
        refine lv_iload_n hx hb dX3_takeRooms_31 rfl (lv_at hl 1 rfl) ?_
        refine spI G X 2 0 rfl rfl fp_X3_40 dX3_takeRooms_32 (fun H locs X => ?_)
        refine lv_iconst (v := 1) hx hb dX3_takeRooms_35 (by decide) ?_
        exact srI G X (rfl) dX3_takeRooms_36 (by exact ⟨sAg.rf.up (by decide), Or.inr rfl⟩)
      · skip
        refine lv_iconst (v := 0) hx hb dX3_takeRooms_25 (by decide) ?_
        exact srI G X (rfl) dX3_takeRooms_26 (by exact ⟨sAg.rf, Or.inl rfl⟩)
def q_takeDoor (V : sV) : Int32 → sV → Prop := fun x V1 => sAg [3, 4, 5, 6, 7, 8, 9, 10] V V1 ∧ (x.toInt = 0 ∨ x.toInt = 1)
set_option maxRecDepth 100000 in
set_option maxHeartbeats 4000000 in
theorem k_takeDoor {l : Launch} {D : va_G} {cI : ClassId} {a : Nat → Nat} (ha : sInj SX a) (V : sV) (i j n : Int32) : sMI l D cI SX a V yX3_takeDoor cX3_takeDoor 4 .boolean 2 [.ref (a 46), .int i, .int j, .int n] (q_takeDoor V) := by
  refine sMIof ha (by decide +kernel) (Nat.le_of_ble_eq_true rfl) ?_
  intro p e s m below meth c ls G X hl
  obtain ⟨hx, hb, hml, hown, hts, hlocks, hr, hK⟩ := id G
  have hl : lv_has ls 4 [(0, .ref (a 46)), (1, .int i), (2, .int j), (3, .int n)] := hl
  refine lv_iload_n hx hb dX3_takeDoor_0 rfl (lv_at hl 1 rfl) ?_
  refine lv_iload_n hx hb dX3_takeDoor_1 rfl (lv_at hl 2 rfl) ?_
  refine sIeq (tgt := 40) hx hb (rfl : Int32.toInt i = _) (rfl : Int32.toInt j = _) dX3_takeDoor_2 (by decide) (fun c2 => ?_) (fun c2 => ?_)
  · skip
    refine lv_iconst (v := 0) hx hb dX3_takeDoor_40 (by decide) ?_
    exact srI G X (rfl) dX3_takeDoor_41 (by exact ⟨sAg.rf, Or.inl rfl⟩)
  · skip
    refine lv_iload_n hx hb dX3_takeDoor_5 rfl (lv_at hl 1 rfl) ?_
    refine lv_aload_n hx hb dX3_takeDoor_6 rfl (lv_at hl 0 rfl) ?_
    refine sgR G X 46 0 rfl rfl fl_X3_9 dX3_takeDoor_7 ?_
    refine sgI G X 2 0 rfl rfl fl_X3_40 dX3_takeDoor_10 ?_
    refine sIge (tgt := 40) hx hb (rfl : Int32.toInt i = _) (rfl : Int32.toInt (V 2 0) = _) dX3_takeDoor_13 (by decide) (fun c13 => ?_) (fun c13 => ?_)
    · skip
      refine lv_iconst (v := 0) hx hb dX3_takeDoor_40 (by decide) ?_
      exact srI G X (rfl) dX3_takeDoor_41 (by exact ⟨sAg.rf, Or.inl rfl⟩)
    · skip
      refine lv_iload_n hx hb dX3_takeDoor_16 rfl (lv_at hl 2 rfl) ?_
      refine lv_aload_n hx hb dX3_takeDoor_17 rfl (lv_at hl 0 rfl) ?_
      refine sgR G X 46 0 rfl rfl fl_X3_9 dX3_takeDoor_18 ?_
      refine sgI G X 2 0 rfl rfl fl_X3_40 dX3_takeDoor_21 ?_
      refine sIge (tgt := 40) hx hb (rfl : Int32.toInt j = _) (rfl : Int32.toInt (V 2 0) = _) dX3_takeDoor_24 (by decide) (fun c24 => ?_) (fun c24 => ?_)
      · skip
        refine lv_iconst (v := 0) hx hb dX3_takeDoor_40 (by decide) ?_
        exact srI G X (rfl) dX3_takeDoor_41 (by exact ⟨sAg.rf, Or.inl rfl⟩)
      · skip
        refine lv_aload_n hx hb dX3_takeDoor_27 rfl (lv_at hl 0 rfl) ?_
        refine sgR G X 46 0 rfl rfl fl_X3_9 dX3_takeDoor_28 ?_
        refine sgR G X 2 1 rfl rfl fl_X3_43 dX3_takeDoor_31 ?_
        refine scI (ci := 2) (As := []) (rest := []) G X (k_oFull ha V ) iy_X2_isFull ml_X3_135 rfl rfl rfl rfl hl.1 (by decide) (by decide) (Nat.le_of_ble_eq_true rfl) dX3_takeDoor_34 (fun y34 V34 H locs p34 X => ?_)
        obtain ⟨p34, z34⟩ := p34
        subst V34
        refine sZeq (tgt := 42) hx hb (rfl : Int32.toInt y34 = _) dX3_takeDoor_37 (by decide) (fun c37 => ?_) (fun c37 => ?_)
        · skip
          refine lv_aload_n hx hb dX3_takeDoor_42 rfl (lv_at hl 0 rfl) ?_
          refine sgR G X 46 0 rfl rfl fl_X3_9 dX3_takeDoor_43 ?_
          refine sgR G X 2 1 rfl rfl fl_X3_43 dX3_takeDoor_46 ?_
          refine lv_iload_n hx hb dX3_takeDoor_49 rfl (lv_at hl 1 rfl) ?_
          refine lv_iload_n hx hb dX3_takeDoor_50 rfl (lv_at hl 2 rfl) ?_
          refine lv_bipush (v := 7) hx hb dX3_takeDoor_51 (by decide) ?_
          refine lv_iload_n hx hb dX3_takeDoor_53 rfl (lv_at hl 3 rfl) ?_
          refine lv_iconst (v := 0) hx hb dX3_takeDoor_54 (by decide) ?_
          refine lv_iconst (v := 0) hx hb dX3_takeDoor_55 (by decide) ?_
          refine lv_iconst (v := 0) hx hb dX3_takeDoor_56 (by decide) ?_
          refine scV (ci := 2) (As := [.int i, .int j, .int 7, .int n, .int 0, .int 0, .int 0]) (rest := []) G X (k_oAdd ha V i j 7 n 0 0 0) iy_X2_add ml_X3_138 rfl rfl rfl rfl hl.1 (by decide) (by decide) (Nat.le_of_ble_eq_true rfl) dX3_takeDoor_57 (fun V57 H locs p57 X => ?_)
          refine lv_iconst (v := 1) hx hb dX3_takeDoor_60 (by decide) ?_
          exact srI G X (rfl) dX3_takeDoor_61 (by exact ⟨p57.1, Or.inr rfl⟩)
        · skip
          refine lv_iconst (v := 0) hx hb dX3_takeDoor_40 (by decide) ?_
          exact srI G X (rfl) dX3_takeDoor_41 (by exact ⟨sAg.rf, Or.inl rfl⟩)
def q_takeHole (V : sV) : Int32 → sV → Prop := fun x V1 => sAg [3, 4, 5, 6, 7, 8, 9, 10] V V1 ∧ (x.toInt = 0 ∨ x.toInt = 1)
set_option maxRecDepth 100000 in
set_option maxHeartbeats 4000000 in
theorem k_takeHole {l : Launch} {D : va_G} {cI : ClassId} {a : Nat → Nat} (ha : sInj SX a) (V : sV)  : sMI l D cI SX a V yX3_takeHole cX3_takeHole 3 .boolean 2 [.ref (a 46)] (q_takeHole V) := by
  refine sMIof ha (by decide +kernel) (Nat.le_of_ble_eq_true rfl) ?_
  intro p e s m below meth c ls G X hl
  obtain ⟨hx, hb, hml, hown, hts, hlocks, hr, hK⟩ := id G
  have hl : lv_has ls 3 [(0, .ref (a 46))] := hl
  refine lv_aload_n hx hb dX3_takeHole_0 rfl (lv_at hl 0 rfl) ?_
  refine sgR G X 46 1 rfl rfl fl_X3_20 dX3_takeHole_1 ?_
  refine lv_iconst (v := 0) hx hb dX3_takeHole_4 (by decide) ?_
  refine scI (ci := 4) (As := [.int 0]) (rest := []) G X (k_rowGet ha V 47 48 6 rfl rfl (by first | decide | assumption) (by first | decide | assumption) 0) iy_X4_get ml_X3_63 rfl rfl rfl rfl hl.1 (by decide) (by decide) (Nat.le_of_ble_eq_true rfl) dX3_takeHole_5 (fun y5 V5 H locs p5 X => ?_)
  obtain ⟨p5, z5⟩ := p5
  subst V5
  refine lv_istore_n (lv' := [(1, .int y5), (0, .ref (a 46))]) hx hb dX3_takeHole_8 rfl hl (by decide) rfl (fun ls hl => ?_)
  refine lv_aload_n hx hb dX3_takeHole_9 rfl (lv_at hl 1 rfl) ?_
  refine sgR G X 46 1 rfl rfl fl_X3_20 dX3_takeHole_10 ?_
  refine lv_iconst (v := 4) hx hb dX3_takeHole_13 (by decide) ?_
  refine scI (ci := 4) (As := [.int 4]) (rest := []) G X (k_rowGet ha V 47 48 6 rfl rfl (by first | decide | assumption) (by first | decide | assumption) 4) iy_X4_get ml_X3_63 rfl rfl rfl rfl hl.1 (by decide) (by decide) (Nat.le_of_ble_eq_true rfl) dX3_takeHole_14 (fun y14 V14 H locs p14 X => ?_)
  obtain ⟨p14, z14⟩ := p14
  subst V14
  refine lv_istore_n (lv' := [(2, .int y14), (1, .int y5), (0, .ref (a 46))]) hx hb dX3_takeHole_17 rfl hl (by decide) rfl (fun ls hl => ?_)
  refine lv_iload_n hx hb dX3_takeHole_18 rfl (lv_at hl 1 rfl) ?_
  refine lv_aload_n hx hb dX3_takeHole_19 rfl (lv_at hl 2 rfl) ?_
  refine sgR G X 46 0 rfl rfl fl_X3_9 dX3_takeHole_20 ?_
  refine sgI G X 2 0 rfl rfl fl_X3_40 dX3_takeHole_23 ?_
  refine sIge (tgt := 47) hx hb (rfl : Int32.toInt y5 = _) (rfl : Int32.toInt (V 2 0) = _) dX3_takeHole_26 (by decide) (fun c26 => ?_) (fun c26 => ?_)
  · skip
    refine lv_iconst (v := 0) hx hb dX3_takeHole_47 (by decide) ?_
    exact srI G X (rfl) dX3_takeHole_48 (by exact ⟨sAg.rf, Or.inl rfl⟩)
  · skip
    refine lv_iload_n hx hb dX3_takeHole_29 rfl (lv_at hl 0 rfl) ?_
    refine lv_iconst (v := 3) hx hb dX3_takeHole_30 (by decide) ?_
    refine sIgt (tgt := 47) hx hb (rfl : Int32.toInt y14 = _) (by decide : (3 : Int32).toInt = 3) dX3_takeHole_31 (by decide) (fun c31 => ?_) (fun c31 => ?_)
    · skip
      refine lv_iconst (v := 0) hx hb dX3_takeHole_47 (by decide) ?_
      exact srI G X (rfl) dX3_takeHole_48 (by exact ⟨sAg.rf, Or.inl rfl⟩)
    · skip
      refine lv_aload_n hx hb dX3_takeHole_34 rfl (lv_at hl 2 rfl) ?_
      refine sgR G X 46 0 rfl rfl fl_X3_9 dX3_takeHole_35 ?_
      refine sgR G X 2 1 rfl rfl fl_X3_43 dX3_takeHole_38 ?_
      refine scI (ci := 2) (As := []) (rest := []) G X (k_oFull ha V ) iy_X2_isFull ml_X3_135 rfl rfl rfl rfl hl.1 (by decide) (by decide) (Nat.le_of_ble_eq_true rfl) dX3_takeHole_41 (fun y41 V41 H locs p41 X => ?_)
      obtain ⟨p41, z41⟩ := p41
      subst V41
      refine sZeq (tgt := 49) hx hb (rfl : Int32.toInt y41 = _) dX3_takeHole_44 (by decide) (fun c44 => ?_) (fun c44 => ?_)
      · skip
        refine lv_aload_n hx hb dX3_takeHole_49 rfl (lv_at hl 2 rfl) ?_
        refine sgR G X 46 0 rfl rfl fl_X3_9 dX3_takeHole_50 ?_
        refine sgR G X 2 1 rfl rfl fl_X3_43 dX3_takeHole_53 ?_
        refine lv_iload_n hx hb dX3_takeHole_56 rfl (lv_at hl 1 rfl) ?_
        refine lv_bipush (v := (-9)) hx hb dX3_takeHole_57 (by decide) ?_
        refine lv_aload_n hx hb dX3_takeHole_59 rfl (lv_at hl 2 rfl) ?_
        refine sgR G X 46 1 rfl rfl fl_X3_20 dX3_takeHole_60 ?_
        refine lv_iconst (v := 1) hx hb dX3_takeHole_63 (by decide) ?_
        refine scI (ci := 4) (As := [.int 1]) (rest := [.int (-9), .int y5, .ref (a 3)]) G X (k_rowGet ha V 47 48 6 rfl rfl (by first | decide | assumption) (by first | decide | assumption) 1) iy_X4_get ml_X3_63 rfl rfl rfl rfl hl.1 (by decide) (by decide) (Nat.le_of_ble_eq_true rfl) dX3_takeHole_64 (fun y64 V64 H locs p64 X => ?_)
        obtain ⟨p64, z64⟩ := p64
        subst V64
        refine lv_aload_n hx hb dX3_takeHole_67 rfl (lv_at hl 2 rfl) ?_
        refine sgR G X 46 1 rfl rfl fl_X3_20 dX3_takeHole_68 ?_
        refine lv_iconst (v := 2) hx hb dX3_takeHole_71 (by decide) ?_
        refine scI (ci := 4) (As := [.int 2]) (rest := [.int y64, .int (-9), .int y5, .ref (a 3)]) G X (k_rowGet ha V 47 48 6 rfl rfl (by first | decide | assumption) (by first | decide | assumption) 2) iy_X4_get ml_X3_63 rfl rfl rfl rfl hl.1 (by decide) (by decide) (Nat.le_of_ble_eq_true rfl) dX3_takeHole_72 (fun y72 V72 H locs p72 X => ?_)
        obtain ⟨p72, z72⟩ := p72
        subst V72
        refine lv_aload_n hx hb dX3_takeHole_75 rfl (lv_at hl 2 rfl) ?_
        refine sgR G X 46 1 rfl rfl fl_X3_20 dX3_takeHole_76 ?_
        refine lv_iconst (v := 3) hx hb dX3_takeHole_79 (by decide) ?_
        refine scI (ci := 4) (As := [.int 3]) (rest := [.int y72, .int y64, .int (-9), .int y5, .ref (a 3)]) G X (k_rowGet ha V 47 48 6 rfl rfl (by first | decide | assumption) (by first | decide | assumption) 3) iy_X4_get ml_X3_63 rfl rfl rfl rfl hl.1 (by decide) (by decide) (Nat.le_of_ble_eq_true rfl) dX3_takeHole_80 (fun y80 V80 H locs p80 X => ?_)
        obtain ⟨p80, z80⟩ := p80
        subst V80
        refine lv_iload_n hx hb dX3_takeHole_83 rfl (lv_at hl 0 rfl) ?_
        refine lv_aload_n hx hb dX3_takeHole_84 rfl (lv_at hl 2 rfl) ?_
        refine sgR G X 46 1 rfl rfl fl_X3_20 dX3_takeHole_85 ?_
        refine lv_iconst (v := 5) hx hb dX3_takeHole_88 (by decide) ?_
        refine scI (ci := 4) (As := [.int 5]) (rest := [.int y14, .int y80, .int y72, .int y64, .int (-9), .int y5, .ref (a 3)]) G X (k_rowGet ha V 47 48 6 rfl rfl (by first | decide | assumption) (by first | decide | assumption) 5) iy_X4_get ml_X3_63 rfl rfl rfl rfl hl.1 (by decide) (by decide) (Nat.le_of_ble_eq_true rfl) dX3_takeHole_89 (fun y89 V89 H locs p89 X => ?_)
        obtain ⟨p89, z89⟩ := p89
        subst V89
        refine scV (ci := 2) (As := [.int y5, .int (-9), .int y64, .int y72, .int y80, .int y14, .int y89]) (rest := []) G X (k_oAdd ha V y5 (-9) y64 y72 y80 y14 y89) iy_X2_add ml_X3_138 rfl rfl rfl rfl hl.1 (by decide) (by decide) (Nat.le_of_ble_eq_true rfl) dX3_takeHole_92 (fun V92 H locs p92 X => ?_)
        refine lv_iconst (v := 1) hx hb dX3_takeHole_95 (by decide) ?_
        exact srI G X (rfl) dX3_takeHole_96 (by exact ⟨p92.1, Or.inr rfl⟩)
      · skip
        refine lv_iconst (v := 0) hx hb dX3_takeHole_47 (by decide) ?_
        exact srI G X (rfl) dX3_takeHole_48 (by exact ⟨sAg.rf, Or.inl rfl⟩)
def q_takeWeather (V : sV) : Int32 → sV → Prop := fun x V1 => sAg [11, 12, 13, 14] V V1 ∧ (x.toInt = 0 ∨ x.toInt = 1)
set_option maxRecDepth 100000 in
set_option maxHeartbeats 4000000 in
theorem k_takeWeather {l : Launch} {D : va_G} {cI : ClassId} {a : Nat → Nat} (ha : sInj SX a) (V : sV) (i j n : Int32) : sMI l D cI SX a V yX3_takeWeather cX3_takeWeather 4 .boolean 2 [.ref (a 46), .int i, .int j, .int n] (q_takeWeather V) := by
  refine sMIof ha (by decide +kernel) (Nat.le_of_ble_eq_true rfl) ?_
  intro p e s m below meth c ls G X hl
  obtain ⟨hx, hb, hml, hown, hts, hlocks, hr, hK⟩ := id G
  have hl : lv_has ls 4 [(0, .ref (a 46)), (1, .int i), (2, .int j), (3, .int n)] := hl
  refine lv_iload_n hx hb dX3_takeWeather_0 rfl (lv_at hl 1 rfl) ?_
  refine lv_bipush (v := 40) hx hb dX3_takeWeather_1 (by decide) ?_
  refine sIgt (tgt := 30) hx hb (rfl : Int32.toInt i = _) (by decide : (40 : Int32).toInt = 40) dX3_takeWeather_3 (by decide) (fun c3 => ?_) (fun c3 => ?_)
  · skip
    refine lv_iconst (v := 0) hx hb dX3_takeWeather_30 (by decide) ?_
    exact srI G X (rfl) dX3_takeWeather_31 (by exact ⟨sAg.rf, Or.inl rfl⟩)
  · skip
    refine lv_iload_n hx hb dX3_takeWeather_6 rfl (lv_at hl 2 rfl) ?_
    refine lv_bipush (v := 20) hx hb dX3_takeWeather_7 (by decide) ?_
    refine sIgt (tgt := 30) hx hb (rfl : Int32.toInt j = _) (by decide : (20 : Int32).toInt = 20) dX3_takeWeather_9 (by decide) (fun c9 => ?_) (fun c9 => ?_)
    · skip
      refine lv_iconst (v := 0) hx hb dX3_takeWeather_30 (by decide) ?_
      exact srI G X (rfl) dX3_takeWeather_31 (by exact ⟨sAg.rf, Or.inl rfl⟩)
    · skip
      refine lv_iload_n hx hb dX3_takeWeather_12 rfl (lv_at hl 3 rfl) ?_
      refine lv_iconst (v := 3) hx hb dX3_takeWeather_13 (by decide) ?_
      refine sIgt (tgt := 30) hx hb (rfl : Int32.toInt n = _) (by decide : (3 : Int32).toInt = 3) dX3_takeWeather_14 (by decide) (fun c14 => ?_) (fun c14 => ?_)
      · skip
        refine lv_iconst (v := 0) hx hb dX3_takeWeather_30 (by decide) ?_
        exact srI G X (rfl) dX3_takeWeather_31 (by exact ⟨sAg.rf, Or.inl rfl⟩)
      · skip
        refine lv_aload_n hx hb dX3_takeWeather_17 rfl (lv_at hl 0 rfl) ?_
        refine sgR G X 46 0 rfl rfl fl_X3_9 dX3_takeWeather_18 ?_
        refine sgR G X 2 2 rfl rfl fl_X3_50 dX3_takeWeather_21 ?_
        refine scI (ci := 7) (As := []) (rest := []) G X (k_wFull ha V 11 12 13 14 rfl rfl rfl rfl) iy_X8_isFull ml_X3_141 rfl rfl rfl rfl hl.1 (by decide) (by decide) (Nat.le_of_ble_eq_true rfl) dX3_takeWeather_24 (fun y24 V24 H locs p24 X => ?_)
        obtain ⟨p24, z24⟩ := p24
        subst V24
        refine sZeq (tgt := 32) hx hb (rfl : Int32.toInt y24 = _) dX3_takeWeather_27 (by decide) (fun c27 => ?_) (fun c27 => ?_)
        · skip
          refine lv_aload_n hx hb dX3_takeWeather_32 rfl (lv_at hl 0 rfl) ?_
          refine sgR G X 46 0 rfl rfl fl_X3_9 dX3_takeWeather_33 ?_
          refine sgR G X 2 2 rfl rfl fl_X3_50 dX3_takeWeather_36 ?_
          refine lv_iload_n hx hb dX3_takeWeather_39 rfl (lv_at hl 1 rfl) ?_
          refine lv_iload_n hx hb dX3_takeWeather_40 rfl (lv_at hl 2 rfl) ?_
          refine lv_iload_n hx hb dX3_takeWeather_41 rfl (lv_at hl 3 rfl) ?_
          refine scV (ci := 7) (As := [.int i, .int j, .int n]) (rest := []) G X (k_wAdd ha V 11 12 13 14 rfl rfl rfl rfl i j n) iy_X8_add ml_X3_142 rfl rfl rfl rfl hl.1 (by decide) (by decide) (Nat.le_of_ble_eq_true rfl) dX3_takeWeather_42 (fun V42 H locs p42 X => ?_)
          refine lv_iconst (v := 1) hx hb dX3_takeWeather_45 (by decide) ?_
          exact srI G X (rfl) dX3_takeWeather_46 (by exact ⟨p42, Or.inr rfl⟩)
        · skip
          refine lv_iconst (v := 0) hx hb dX3_takeWeather_30 (by decide) ?_
          exact srI G X (rfl) dX3_takeWeather_31 (by exact ⟨sAg.rf, Or.inl rfl⟩)
def q_takeStatement (V : sV) : Int32 → sV → Prop := fun x V1 => sAg [2, 3, 4, 5, 6, 7, 8, 9, 10, 11, 12, 13, 14] V V1 ∧ (x.toInt = 0 ∨ x.toInt = 1)
set_option maxRecDepth 100000 in
set_option maxHeartbeats 4000000 in
theorem k_takeStatement {l : Launch} {D : va_G} {cI : ClassId} {a : Nat → Nat} (ha : sInj SX a) (V : sV)  : sMI l D cI SX a V yX3_takeStatement cX3_takeStatement 1 .boolean 3 [.ref (a 46)] (q_takeStatement V) := by
  refine sMIof ha (by decide +kernel) (Nat.le_of_ble_eq_true rfl) ?_
  intro p e s m below meth c ls G X hl
  obtain ⟨hx, hb, hml, hown, hts, hlocks, hr, hK⟩ := id G
  have hl : lv_has ls 1 [(0, .ref (a 46))] := hl
  refine lv_aload_n hx hb dX3_takeStatement_0 rfl (lv_at hl 0 rfl) ?_
  refine sgI G X 46 3 rfl rfl fl_X3_67 dX3_takeStatement_1 ?_
  by_cases hs4_0 : Int32.toInt (V 46 3) = 100
  · refine lv_lookup (tgt := 53) (off := 49) hx hb dX3_takeStatement_4 (by decide) (by rw [hs4_0]; rfl) (by decide) ?_
    refine lv_aload_n hx hb dX3_takeStatement_53 rfl (lv_at hl 0 rfl) ?_
    refine lv_aload_n hx hb dX3_takeStatement_54 rfl (lv_at hl 0 rfl) ?_
    refine sgR G X 46 1 rfl rfl fl_X3_20 dX3_takeStatement_55 ?_
    refine lv_iconst (v := 0) hx hb dX3_takeStatement_58 (by decide) ?_
    refine scI (ci := 4) (As := [.int 0]) (rest := [.ref (a 46)]) G X (k_rowGet ha V 47 48 6 rfl rfl (by first | decide | assumption) (by first | decide | assumption) 0) iy_X4_get ml_X3_63 rfl rfl rfl rfl hl.1 (by decide) (by decide) (Nat.le_of_ble_eq_true rfl) dX3_takeStatement_59 (fun y59 V59 H locs p59 X => ?_)
    obtain ⟨p59, z59⟩ := p59
    subst V59
    refine lv_aload_n hx hb dX3_takeStatement_62 rfl (lv_at hl 0 rfl) ?_
    refine sgR G X 46 1 rfl rfl fl_X3_20 dX3_takeStatement_63 ?_
    refine lv_iconst (v := 1) hx hb dX3_takeStatement_66 (by decide) ?_
    refine scI (ci := 4) (As := [.int 1]) (rest := [.int y59, .ref (a 46)]) G X (k_rowGet ha V 47 48 6 rfl rfl (by first | decide | assumption) (by first | decide | assumption) 1) iy_X4_get ml_X3_63 rfl rfl rfl rfl hl.1 (by decide) (by decide) (Nat.le_of_ble_eq_true rfl) dX3_takeStatement_67 (fun y67 V67 H locs p67 X => ?_)
    obtain ⟨p67, z67⟩ := p67
    subst V67
    refine lv_aload_n hx hb dX3_takeStatement_70 rfl (lv_at hl 0 rfl) ?_
    refine sgR G X 46 1 rfl rfl fl_X3_20 dX3_takeStatement_71 ?_
    refine lv_iconst (v := 2) hx hb dX3_takeStatement_74 (by decide) ?_
    refine scI (ci := 4) (As := [.int 2]) (rest := [.int y67, .int y59, .ref (a 46)]) G X (k_rowGet ha V 47 48 6 rfl rfl (by first | decide | assumption) (by first | decide | assumption) 2) iy_X4_get ml_X3_63 rfl rfl rfl rfl hl.1 (by decide) (by decide) (Nat.le_of_ble_eq_true rfl) dX3_takeStatement_75 (fun y75 V75 H locs p75 X => ?_)
    obtain ⟨p75, z75⟩ := p75
    subst V75
    refine scI (ci := 3) (As := [.int y59, .int y67, .int y75]) (rest := []) G X (k_takeDoor ha V y59 y67 y75) iy_X3_takeDoor ml_X3_122 rfl rfl rfl rfl hl.1 (by decide) (by decide) (Nat.le_of_ble_eq_true rfl) dX3_takeStatement_78 (fun y78 V78 H locs p78 X => ?_)
    exact srI G X (sNar p78.2) dX3_takeStatement_81 (by exact ⟨sAg.mono p78.1 (by decide), p78.2⟩)
  by_cases hs4_1 : Int32.toInt (V 46 3) = 104
  · refine lv_lookup (tgt := 82) (off := 78) hx hb dX3_takeStatement_4 (by decide) (by rw [hs4_1]; rfl) (by decide) ?_
    refine lv_aload_n hx hb dX3_takeStatement_82 rfl (lv_at hl 0 rfl) ?_
    refine scI (ci := 3) (As := []) (rest := []) G X (k_takeHole ha V ) iy_X3_takeHole ml_X3_126 rfl rfl rfl rfl hl.1 (by decide) (by decide) (Nat.le_of_ble_eq_true rfl) dX3_takeStatement_83 (fun y83 V83 H locs p83 X => ?_)
    exact srI G X (sNar p83.2) dX3_takeStatement_86 (by exact ⟨sAg.mono p83.1 (by decide), p83.2⟩)
  by_cases hs4_2 : Int32.toInt (V 46 3) = 110
  · refine lv_lookup (tgt := 40) (off := 36) hx hb dX3_takeStatement_4 (by decide) (by rw [hs4_2]; rfl) (by decide) ?_
    refine lv_aload_n hx hb dX3_takeStatement_40 rfl (lv_at hl 0 rfl) ?_
    refine lv_aload_n hx hb dX3_takeStatement_41 rfl (lv_at hl 0 rfl) ?_
    refine sgR G X 46 1 rfl rfl fl_X3_20 dX3_takeStatement_42 ?_
    refine lv_iconst (v := 0) hx hb dX3_takeStatement_45 (by decide) ?_
    refine scI (ci := 4) (As := [.int 0]) (rest := [.ref (a 46)]) G X (k_rowGet ha V 47 48 6 rfl rfl (by first | decide | assumption) (by first | decide | assumption) 0) iy_X4_get ml_X3_63 rfl rfl rfl rfl hl.1 (by decide) (by decide) (Nat.le_of_ble_eq_true rfl) dX3_takeStatement_46 (fun y46 V46 H locs p46 X => ?_)
    obtain ⟨p46, z46⟩ := p46
    subst V46
    refine scI (ci := 3) (As := [.int y46]) (rest := []) G X (k_takeRooms ha V y46) iy_X3_takeRooms ml_X3_119 rfl rfl rfl rfl hl.1 (by decide) (by decide) (Nat.le_of_ble_eq_true rfl) dX3_takeStatement_49 (fun y49 V49 H locs p49 X => ?_)
    exact srI G X (sNar p49.2) dX3_takeStatement_52 (by exact ⟨sAg.mono p49.1 (by decide), p49.2⟩)
  refine lv_lookup (tgt := 87) (off := 83) hx hb dX3_takeStatement_4 (by decide) (by simp [Op.lookupswitch.offset, List.find?, sBne, hs4_0, hs4_1, hs4_2, Ne.symm hs4_0, Ne.symm hs4_1, Ne.symm hs4_2]) (by decide) ?_
  refine lv_aload_n hx hb dX3_takeStatement_87 rfl (lv_at hl 0 rfl) ?_
  refine lv_aload_n hx hb dX3_takeStatement_88 rfl (lv_at hl 0 rfl) ?_
  refine sgR G X 46 1 rfl rfl fl_X3_20 dX3_takeStatement_89 ?_
  refine lv_iconst (v := 0) hx hb dX3_takeStatement_92 (by decide) ?_
  refine scI (ci := 4) (As := [.int 0]) (rest := [.ref (a 46)]) G X (k_rowGet ha V 47 48 6 rfl rfl (by first | decide | assumption) (by first | decide | assumption) 0) iy_X4_get ml_X3_63 rfl rfl rfl rfl hl.1 (by decide) (by decide) (Nat.le_of_ble_eq_true rfl) dX3_takeStatement_93 (fun y93 V93 H locs p93 X => ?_)
  obtain ⟨p93, z93⟩ := p93
  subst V93
  refine lv_aload_n hx hb dX3_takeStatement_96 rfl (lv_at hl 0 rfl) ?_
  refine sgR G X 46 1 rfl rfl fl_X3_20 dX3_takeStatement_97 ?_
  refine lv_iconst (v := 1) hx hb dX3_takeStatement_100 (by decide) ?_
  refine scI (ci := 4) (As := [.int 1]) (rest := [.int y93, .ref (a 46)]) G X (k_rowGet ha V 47 48 6 rfl rfl (by first | decide | assumption) (by first | decide | assumption) 1) iy_X4_get ml_X3_63 rfl rfl rfl rfl hl.1 (by decide) (by decide) (Nat.le_of_ble_eq_true rfl) dX3_takeStatement_101 (fun y101 V101 H locs p101 X => ?_)
  obtain ⟨p101, z101⟩ := p101
  subst V101
  refine lv_aload_n hx hb dX3_takeStatement_104 rfl (lv_at hl 0 rfl) ?_
  refine sgR G X 46 1 rfl rfl fl_X3_20 dX3_takeStatement_105 ?_
  refine lv_iconst (v := 2) hx hb dX3_takeStatement_108 (by decide) ?_
  refine scI (ci := 4) (As := [.int 2]) (rest := [.int y101, .int y93, .ref (a 46)]) G X (k_rowGet ha V 47 48 6 rfl rfl (by first | decide | assumption) (by first | decide | assumption) 2) iy_X4_get ml_X3_63 rfl rfl rfl rfl hl.1 (by decide) (by decide) (Nat.le_of_ble_eq_true rfl) dX3_takeStatement_109 (fun y109 V109 H locs p109 X => ?_)
  obtain ⟨p109, z109⟩ := p109
  subst V109
  refine scI (ci := 3) (As := [.int y93, .int y101, .int y109]) (rest := []) G X (k_takeWeather ha V y93 y101 y109) iy_X3_takeWeather ml_X3_129 rfl rfl rfl rfl hl.1 (by decide) (by decide) (Nat.le_of_ble_eq_true rfl) dX3_takeStatement_112 (fun y112 V112 H locs p112 X => ?_)
  exact srI G X (sNar p112.2) dX3_takeStatement_115 (by exact ⟨sAg.mono p112.1 (by decide), p112.2⟩)
def q_takeStatements (V : sV) : Int32 → sV → Prop := fun x V1 => sAg [2, 3, 4, 5, 6, 7, 8, 9, 10, 11, 12, 13, 14, 46, 47, 48] V V1
set_option maxRecDepth 100000 in
set_option maxHeartbeats 4000000 in
theorem k_takeStatements {l : Launch} {D : va_G} {cI : ClassId} {a : Nat → Nat} {kk kv : Nat → Nat} (ha : sInj SX a) (V : sV)  : sMK l D cI SX a V kk kv yX3_takeStatements cX3_takeStatements 7 .int 7 [.ref (a 46)] (q_takeStatements V) := by
  refine sMKof ha (by decide +kernel) (Nat.le_of_ble_eq_true rfl) ?_
  intro p e s m below meth c ls G X hE hl
  obtain ⟨hx, hb, hml, hown, hts, hlocks, hr, hK⟩ := id G
  have hl : lv_has ls 7 [(0, .ref (a 46))] := hl
  refine lv_aload_n hx hb dX3_takeStatements_0 rfl (lv_at hl 0 rfl) ?_
  refine sgR G X 46 0 rfl rfl fl_X3_9 dX3_takeStatements_1 ?_
  refine sgI G X 2 0 rfl rfl fl_X3_40 dX3_takeStatements_4 ?_
  refine lv_istore_n (lv' := [(1, .int (V 2 0)), (0, .ref (a 46))]) hx hb dX3_takeStatements_7 rfl hl (by decide) rfl (fun ls hl => ?_)
  refine lv_aload_n hx hb dX3_takeStatements_8 rfl (lv_at hl 1 rfl) ?_
  refine sgR G X 46 0 rfl rfl fl_X3_9 dX3_takeStatements_9 ?_
  refine sgR G X 2 1 rfl rfl fl_X3_43 dX3_takeStatements_12 ?_
  refine sgI G X 3 7 rfl rfl fl_X3_47 dX3_takeStatements_15 ?_
  refine lv_istore_n (lv' := [(2, .int (V 3 7)), (1, .int (V 2 0)), (0, .ref (a 46))]) hx hb dX3_takeStatements_18 rfl hl (by decide) rfl (fun ls hl => ?_)
  refine lv_aload_n hx hb dX3_takeStatements_19 rfl (lv_at hl 2 rfl) ?_
  refine sgR G X 46 0 rfl rfl fl_X3_9 dX3_takeStatements_20 ?_
  refine sgR G X 2 2 rfl rfl fl_X3_50 dX3_takeStatements_23 ?_
  refine sgI G X 11 3 rfl rfl fl_X3_54 dX3_takeStatements_26 ?_
  refine lv_istore_n (lv' := [(3, .int (V 11 3)), (2, .int (V 3 7)), (1, .int (V 2 0)), (0, .ref (a 46))]) hx hb dX3_takeStatements_29 rfl hl (by decide) rfl (fun ls hl => ?_)
  refine lv_iconst (v := 0) hx hb dX3_takeStatements_30 (by decide) ?_
  refine lv_istore (lv' := [(4, .int 0), (3, .int (V 11 3)), (2, .int (V 3 7)), (1, .int (V 2 0)), (0, .ref (a 46))]) hx hb dX3_takeStatements_31 hl (by decide) rfl (fun ls hl => ?_)
  refine lv_aload_n hx hb dX3_takeStatements_33 rfl (lv_at hl 4 rfl) ?_
  refine lv_iconst (v := 0) hx hb dX3_takeStatements_34 (by decide) ?_
  refine spI G X 46 2 rfl rfl fp_X3_24 dX3_takeStatements_35 (fun H locs X => ?_)
  refine lv_iconst (v := 0) hx hb dX3_takeStatements_38 (by decide) ?_
  refine lv_istore (lv' := [(5, .int 0), (4, .int 0), (3, .int (V 11 3)), (2, .int (V 3 7)), (1, .int (V 2 0)), (0, .ref (a 46))]) hx hb dX3_takeStatements_39 hl (by decide) rfl (fun ls hl => ?_)
  have L41 : ∀ (fu41 : Nat) (i : Int32) (f : Int32) (Y : sV) (H : Heap) (locs : List Loc) (ls : Array Slot), (0 ≤ i.toInt) → (sAg [2, 3, 4, 5, 6, 7, 8, 9, 10, 11, 12, 13, 14, 46, 47, 48] V Y) → ((80 - i.toInt).toNat) < fu41 → sWS D cI SX a Y s.heap H locs → lv_has ls 7 [(5, .int i), (4, .int f), (3, .int (V 11 3)), (2, .int (V 3 7)), (1, .int (V 2 0)), (0, .ref (a 46))] → W p l e (rmD 7) s m ([.ref (a 46)] : List Value).toArray below meth c H locs 0 0 (MQ below (va_Qi (q_takeStatements V) (fun V1 t => va_P D vwCl (sWd cI SX a V1) t.heap) (sA SX a s.heap.size)) ([.ref (a 46)] : List Value).toArray s 0 0 (sA SX a s.heap.size)) (F0 m 41 ls []) := by
    intro fu41
    induction fu41 with
    | zero => intro i f Y H locs ls hi hA hm41; exact absurd hm41 (Nat.not_lt_zero _)
    | succ fu41 ih41 =>
      intro i f Y H locs ls hi hA hm41 X hl
      refine lv_iload hx hb dX3_takeStatements_41 (lv_at hl 0 rfl) ?_
      refine lv_bipush (v := 80) hx hb dX3_takeStatements_43 (by decide) ?_
      refine sIge (tgt := 131) hx hb (rfl : Int32.toInt i = _) (by decide : (80 : Int32).toInt = 80) dX3_takeStatements_45 (by decide) (fun c45 => ?_) (fun c45 => ?_)
      · skip
        refine lv_iload hx hb dX3_takeStatements_131 (lv_at hl 1 rfl) ?_
        exact srI G X (rfl) dX3_takeStatements_133 (by exact hA)
      · skip
        refine lv_aload_n hx hb dX3_takeStatements_48 rfl (lv_at hl 5 rfl) ?_
        refine sgI G X 46 2 rfl rfl fl_X3_24 dX3_takeStatements_49 ?_
        refine lv_aload_n hx hb dX3_takeStatements_52 rfl (lv_at hl 5 rfl) ?_
        refine sgR G X 46 0 rfl rfl fl_X3_9 dX3_takeStatements_53 ?_
        refine sgR G X 2 4 rfl rfl fl_X3_32 dX3_takeStatements_56 ?_
        refine sgI G X 16 1 rfl rfl fl_X3_37 dX3_takeStatements_59 ?_
        refine sIge (tgt := 131) hx hb (rfl : Int32.toInt (Y 46 2) = _) (rfl : Int32.toInt (Y 16 1) = _) dX3_takeStatements_62 (by decide) (fun c62 => ?_) (fun c62 => ?_)
        · skip
          refine lv_iload hx hb dX3_takeStatements_131 (lv_at hl 1 rfl) ?_
          exact srI G X (rfl) dX3_takeStatements_133 (by exact hA)
        · skip
          refine lv_aload_n hx hb dX3_takeStatements_65 rfl (lv_at hl 5 rfl) ?_
          refine sgI G X 46 2 rfl rfl fl_X3_24 dX3_takeStatements_66 ?_
          refine lv_istore (lv' := [(6, .int (Y 46 2)), (5, .int i), (4, .int f), (3, .int (V 11 3)), (2, .int (V 3 7)), (1, .int (V 2 0)), (0, .ref (a 46))]) hx hb dX3_takeStatements_69 hl (by decide) rfl (fun ls hl => ?_)
          refine lv_aload_n hx hb dX3_takeStatements_71 rfl (lv_at hl 6 rfl) ?_
          refine skI (b := (a 46)) (As := []) (rest := []) G X hE (k_passStatement (kk := kk) (kv := kv) ha Y ) iy_X3_passStatement ml_X3_28 (swRec G X (ci := 3) rfl rfl) rfl rfl hl.1 (by decide) (by decide) (Nat.le_of_ble_eq_true rfl) dX3_takeStatements_72 (fun y72 V72 H locs p72 X => ?_)
          refine sZeq (tgt := 85) hx hb (rfl : Int32.toInt y72 = _) dX3_takeStatements_75 (by decide) (fun c75 => ?_) (fun c75 => ?_)
          · skip
            refine lv_aload_n hx hb dX3_takeStatements_85 rfl (lv_at hl 6 rfl) ?_
            refine sgR G X 46 0 rfl rfl fl_X3_9 dX3_takeStatements_86 ?_
            refine lv_iload_n hx hb dX3_takeStatements_89 rfl (lv_at hl 5 rfl) ?_
            refine spI G X 2 0 rfl rfl fp_X3_40 dX3_takeStatements_90 (fun H locs X => ?_)
            refine lv_aload_n hx hb dX3_takeStatements_93 rfl (lv_at hl 6 rfl) ?_
            refine sgR G X 46 0 rfl rfl fl_X3_9 dX3_takeStatements_94 ?_
            refine sgR G X 2 1 rfl rfl fl_X3_43 dX3_takeStatements_97 ?_
            refine lv_iload_n hx hb dX3_takeStatements_100 rfl (lv_at hl 4 rfl) ?_
            refine spI G X 3 7 rfl rfl fp_X3_47 dX3_takeStatements_101 (fun H locs X => ?_)
            refine lv_aload_n hx hb dX3_takeStatements_104 rfl (lv_at hl 6 rfl) ?_
            refine sgR G X 46 0 rfl rfl fl_X3_9 dX3_takeStatements_105 ?_
            refine sgR G X 2 2 rfl rfl fl_X3_50 dX3_takeStatements_108 ?_
            refine lv_iload_n hx hb dX3_takeStatements_111 rfl (lv_at hl 3 rfl) ?_
            refine spI G X 11 3 rfl rfl fp_X3_54 dX3_takeStatements_112 (fun H locs X => ?_)
            refine lv_sipush (v := (-2000)) hx hb dX3_takeStatements_115 (by decide) ?_
            refine lv_iload hx hb dX3_takeStatements_118 (lv_at hl 0 rfl) ?_
            refine lv_isub hx hb dX3_takeStatements_120 ?_
            refine lv_topi (fun x120 e120 => ?_)
            exact srI G X (rfl) dX3_takeStatements_121 (by first | exact ((((hA.tr (sAg.mono p72.1 (by decide))).tr (sAg.mono p79.1 (by decide))).up (by decide)).up (by decide)).up (by decide) | exact (((hA.tr (sAg.mono p72.1 (by decide))).up (by decide)).up (by decide)).up (by decide))
          · skip
            refine lv_aload_n hx hb dX3_takeStatements_78 rfl (lv_at hl 6 rfl) ?_
            refine scI (ci := 3) (As := []) (rest := []) G X (k_takeStatement ha V72 ) iy_X3_takeStatement ml_X3_57 rfl rfl rfl rfl hl.1 (by decide) (by decide) (Nat.le_of_ble_eq_true rfl) dX3_takeStatements_79 (fun y79 V79 H locs p79 X => ?_)
            refine sZne (tgt := 122) hx hb (rfl : Int32.toInt y79 = _) dX3_takeStatements_82 (by decide) (fun c82 => ?_) (fun c82 => ?_)
            · skip
              obtain ⟨x122, e122⟩ : ∃ y : Int32, y = f + (1) := ⟨_, rfl⟩
              refine lv_iinc (v := x122) (lv' := [(4, .int x122), (6, .int (Y 46 2)), (5, .int i), (3, .int (V 11 3)), (2, .int (V 3 7)), (1, .int (V 2 0)), (0, .ref (a 46))]) hx hb dX3_takeStatements_122 hl (k := 2) rfl (by rw [e122]; rfl) (by decide) rfl (fun ls hl => ?_)
              obtain ⟨x125, e125⟩ : ∃ y : Int32, y = i + (1) := ⟨_, rfl⟩
              refine lv_iinc (v := x125) (lv' := [(5, .int x125), (4, .int x122), (6, .int (Y 46 2)), (3, .int (V 11 3)), (2, .int (V 3 7)), (1, .int (V 2 0)), (0, .ref (a 46))]) hx hb dX3_takeStatements_125 hl (k := 2) rfl (by rw [e125]; rfl) (by decide) rfl (fun ls hl => ?_)
              refine lv_goto (tgt := 41) hx hb dX3_takeStatements_128 (by decide) ?_
              exact ih41 x125 x122 V79 _ _ _ (by rw [i32_i e125 (by omega)]; omega) ((hA.tr (sAg.mono p72.1 (by decide))).tr (sAg.mono p79.1 (by decide))) (by rw [i32_i e125 (by omega)]; omega) X (lv_sub hl [0, 1, 3, 4, 5, 6] rfl)
            · skip
              refine lv_aload_n hx hb dX3_takeStatements_85 rfl (lv_at hl 6 rfl) ?_
              refine sgR G X 46 0 rfl rfl fl_X3_9 dX3_takeStatements_86 ?_
              refine lv_iload_n hx hb dX3_takeStatements_89 rfl (lv_at hl 5 rfl) ?_
              refine spI G X 2 0 rfl rfl fp_X3_40 dX3_takeStatements_90 (fun H locs X => ?_)
              refine lv_aload_n hx hb dX3_takeStatements_93 rfl (lv_at hl 6 rfl) ?_
              refine sgR G X 46 0 rfl rfl fl_X3_9 dX3_takeStatements_94 ?_
              refine sgR G X 2 1 rfl rfl fl_X3_43 dX3_takeStatements_97 ?_
              refine lv_iload_n hx hb dX3_takeStatements_100 rfl (lv_at hl 4 rfl) ?_
              refine spI G X 3 7 rfl rfl fp_X3_47 dX3_takeStatements_101 (fun H locs X => ?_)
              refine lv_aload_n hx hb dX3_takeStatements_104 rfl (lv_at hl 6 rfl) ?_
              refine sgR G X 46 0 rfl rfl fl_X3_9 dX3_takeStatements_105 ?_
              refine sgR G X 2 2 rfl rfl fl_X3_50 dX3_takeStatements_108 ?_
              refine lv_iload_n hx hb dX3_takeStatements_111 rfl (lv_at hl 3 rfl) ?_
              refine spI G X 11 3 rfl rfl fp_X3_54 dX3_takeStatements_112 (fun H locs X => ?_)
              refine lv_sipush (v := (-2000)) hx hb dX3_takeStatements_115 (by decide) ?_
              refine lv_iload hx hb dX3_takeStatements_118 (lv_at hl 0 rfl) ?_
              refine lv_isub hx hb dX3_takeStatements_120 ?_
              refine lv_topi (fun x120 e120 => ?_)
              exact srI G X (rfl) dX3_takeStatements_121 (by first | exact ((((hA.tr (sAg.mono p72.1 (by decide))).tr (sAg.mono p79.1 (by decide))).up (by decide)).up (by decide)).up (by decide) | exact (((hA.tr (sAg.mono p72.1 (by decide))).up (by decide)).up (by decide)).up (by decide))
  exact L41 _ 0 0 (sUp V 46 (upd (V 46) 2 0)) _ _ _ (by decide) (sAg.rf.up (by decide)) (Nat.lt_succ_self _) X (lv_sub hl [0, 1, 2, 3, 4, 5] rfl)
def q_house (V : sV) : Int32 → sV → Prop := fun x V1 => sAg [2, 3, 4, 5, 6, 7, 8, 9, 10, 11, 12, 13, 14, 16, 46, 47, 48] V V1 ∧ (sFr V → x = -1000)
set_option maxRecDepth 100000 in
set_option maxHeartbeats 4000000 in
theorem k_house {l : Launch} {D : va_G} {cI : ClassId} {a : Nat → Nat} {kk kv : Nat → Nat} (ha : sInj SX a) (V : sV)  : sMK l D cI SX a V kk kv yX9_house cX9_house 3 .int 8 [.ref (a 0)] (q_house V) := by
  refine sMKof ha (by decide +kernel) (Nat.le_of_ble_eq_true rfl) ?_
  intro p e s m below meth c ls G X hE hl
  obtain ⟨hx, hb, hml, hown, hts, hlocks, hr, hK⟩ := id G
  have hl : lv_has ls 3 [(0, .ref (a 0))] := hl
  refine lv_aload_n hx hb dX9_house_0 rfl (lv_at hl 0 rfl) ?_
  refine sgR G X 0 4 rfl rfl fl_X9_35 dX9_house_1 ?_
  refine skI (b := (a 46)) (As := []) (rest := []) G X hE (k_faultOfLetters (kk := kk) (kv := kv) ha V ) iy_X3_faultOfLetters ml_X9_79 (swRec G X (ci := 3) rfl rfl) rfl rfl hl.1 (by decide) (by decide) (Nat.le_of_ble_eq_true rfl) dX9_house_4 (fun y4 V4 H locs p4 X => ?_)
  refine lv_istore_n (lv' := [(1, .int y4), (0, .ref (a 0))]) hx hb dX9_house_7 rfl hl (by decide) rfl (fun ls hl => ?_)
  refine lv_iload_n hx hb dX9_house_8 rfl (lv_at hl 0 rfl) ?_
  refine sZge (tgt := 16) hx hb (rfl : Int32.toInt y4 = _) dX9_house_9 (by decide) (fun c9 => ?_) (fun c9 => ?_)
  · skip
    refine lv_aload_n hx hb dX9_house_16 rfl (lv_at hl 1 rfl) ?_
    refine sgR G X 0 4 rfl rfl fl_X9_35 dX9_house_17 ?_
    refine skI (b := (a 46)) (As := []) (rest := []) G X hE (k_takeStatements (kk := kk) (kv := kv) ha V4 ) iy_X3_takeStatements ml_X9_83 (swRec G X (ci := 3) rfl rfl) rfl rfl hl.1 (by decide) (by decide) (Nat.le_of_ble_eq_true rfl) dX9_house_20 (fun y20 V20 H locs p20 X => ?_)
    refine lv_istore_n (lv' := [(2, .int y20), (1, .int y4), (0, .ref (a 0))]) hx hb dX9_house_23 rfl hl (by decide) rfl (fun ls hl => ?_)
    refine lv_aload_n hx hb dX9_house_24 rfl (lv_at hl 2 rfl) ?_
    refine sgR G X 0 0 rfl rfl fl_X9_10 dX9_house_25 ?_
    refine sgR G X 2 4 rfl rfl fl_X9_61 dX9_house_28 ?_
    refine scV (ci := 4) (As := []) (rest := []) G X (k_rowClear ha V20 16 17 80 rfl rfl (by first | decide | assumption) (by first | decide | assumption)) iy_X4_clear ml_X9_86 rfl rfl rfl rfl hl.1 (by decide) (by decide) (Nat.le_of_ble_eq_true rfl) dX9_house_31 (fun V31 H locs p31 X => ?_)
    refine lv_iload_n hx hb dX9_house_34 rfl (lv_at hl 0 rfl) ?_
    exact srI G X (rfl) dX9_house_35 (by first | exact ⟨(sAg.mono p4.1 (by decide)).tr (by rw [show V31 = _ from p31]; exact sAg.rf.up (by decide)), p4.2⟩ | exact ⟨((sAg.mono p4.1 (by decide)).tr (sAg.mono p20 (by decide))).tr (by rw [show V31 = _ from p31]; exact sAg.rf.up (by decide)), fun hf => by exfalso; rw [p4.2 hf] at c9; exact absurd c9 (by decide)⟩)
  · skip
    refine lv_iload_n hx hb dX9_house_12 rfl (lv_at hl 0 rfl) ?_
    refine lv_goto (tgt := 23) hx hb dX9_house_13 (by decide) ?_
    refine lv_istore_n (lv' := [(2, .int y4), (1, .int y4), (0, .ref (a 0))]) hx hb dX9_house_23 rfl hl (by decide) rfl (fun ls hl => ?_)
    refine lv_aload_n hx hb dX9_house_24 rfl (lv_at hl 2 rfl) ?_
    refine sgR G X 0 0 rfl rfl fl_X9_10 dX9_house_25 ?_
    refine sgR G X 2 4 rfl rfl fl_X9_61 dX9_house_28 ?_
    refine scV (ci := 4) (As := []) (rest := []) G X (k_rowClear ha V4 16 17 80 rfl rfl (by first | decide | assumption) (by first | decide | assumption)) iy_X4_clear ml_X9_86 rfl rfl rfl rfl hl.1 (by decide) (by decide) (Nat.le_of_ble_eq_true rfl) dX9_house_31 (fun V31 H locs p31 X => ?_)
    refine lv_iload_n hx hb dX9_house_34 rfl (lv_at hl 0 rfl) ?_
    exact srI G X (rfl) dX9_house_35 (by first | exact ⟨(sAg.mono p4.1 (by decide)).tr (by rw [show V31 = _ from p31]; exact sAg.rf.up (by decide)), p4.2⟩ | exact ⟨((sAg.mono p4.1 (by decide)).tr (sAg.mono p20 (by decide))).tr (by rw [show V31 = _ from p31]; exact sAg.rf.up (by decide)), fun hf => by exfalso; rw [p4.2 hf] at c9; exact absurd c9 (by decide)⟩)
