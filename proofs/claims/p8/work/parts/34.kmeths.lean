theorem sShr0 {n : Nat} (h : n < 2147483648) : nI n >>> ((0 : Int32) &&& 31) = nI n := by
  apply Int32.toInt_inj.mp
  rw [pk_shr (nI n) ((0 : Int32) &&& 31) 0 (by decide)]
  exact Int.shiftRight_zero _
set_option maxRecDepth 100000 in
set_option maxHeartbeats 4000000 in
theorem k_kPcheck {l : Launch} {D : va_G} {cI : ClassId} {S : List sSh} {a : Nat → Nat} {kk kv : Nat → Nat} (ha : sInj S a) (V : sV) (j n : Int32) (v : Value) (hv : v = .null ∨ ∃ t : Nat, v = .ref t) (h1 : 0 ≤ j.toInt) (h2 : j.toInt < n.toInt) : sMK l D cI S a V kk kv yJ3_checkIndex_8e157 cJ3_checkIndex_8e157 3 .int 0 [.int j, .int n, v] (fun x V1 => x = j ∧ V1 = V) := by
  have hav : (lg_sl [.int j, .int n, v]).length ≤ 3 := by rcases hv with rfl | ⟨t, rfl⟩ <;> exact Nat.le_of_ble_eq_true rfl
  refine sMKof ha (by decide +kernel) hav ?_
  intro p e s m below meth c ls G X hE hl
  obtain ⟨hx, hb, hml, hown, hts, hlocks, hr, hK⟩ := id G
  have hl : lv_has ls 3 [(0, .int j), (1, .int n)] := lv_sub hl [0, 1] rfl
  refine lv_iload_n hx hb dJ3_checkIndex_8e157_0 rfl (lv_at hl 0 rfl) ?_
  refine sZlt (tgt := 9) hx hb (rfl : Int32.toInt j = _) dJ3_checkIndex_8e157_1 (by decide) (fun c1 => absurd c1 (by omega)) (fun c1 => ?_)
  refine lv_iload_n hx hb dJ3_checkIndex_8e157_4 rfl (lv_at hl 0 rfl) ?_
  refine lv_iload_n hx hb dJ3_checkIndex_8e157_5 rfl (lv_at hl 1 rfl) ?_
  refine sIlt (tgt := 16) hx hb (rfl : Int32.toInt j = _) (rfl : Int32.toInt n = _) dJ3_checkIndex_8e157_6 (by decide) (fun c6 => ?_) (fun c6 => absurd c6 (by omega))
  refine lv_iload_n hx hb dJ3_checkIndex_8e157_16 rfl (lv_at hl 0 rfl) ?_
  exact srI G X (rfl) dJ3_checkIndex_8e157_17 ⟨rfl, rfl⟩
def q_kCoder (V : sV) : Int32 → sV → Prop := fun x V1 => x = 0 ∧ V1 = V
set_option maxRecDepth 100000 in
set_option maxHeartbeats 4000000 in
theorem k_kCoder {l : Launch} {D : va_G} {cI : ClassId} {S : List sSh} {a : Nat → Nat} {kk kv : Nat → Nat} (ha : sInj S a) (V : sV) (i : Nat) (hi : i < 6) : sMK l D cI S a V kk kv yJ0_coder_7d493 cJ0_coder_7d493 1 .byte 0 [.ref (kk i)] (q_kCoder V) := by
  refine sMKof ha (by decide +kernel) (Nat.le_of_ble_eq_true rfl) ?_
  intro p e s m below meth c ls G X hE hl
  obtain ⟨hx, hb, hml, hown, hts, hlocks, hr, hK⟩ := id G
  have hl : lv_has ls 1 [(0, .ref (kk i))] := hl
  refine skCS G X hE fk_J0_38 dJ0_coder_7d493_0 ?_
  refine sZeq (tgt := 13) hx hb (by decide : (1 : Int32).toInt = 1) dJ0_coder_7d493_3 (by decide) (fun c3 => ?_) (fun c3 => ?_)
  · skip
    exact absurd c3 (by decide)
  · skip
    refine lv_aload_n hx hb dJ0_coder_7d493_6 rfl (lv_at hl 0 rfl) ?_
    refine skCod G X hE (i := i) hi fk_J0_15 dJ0_coder_7d493_7 ?_
    refine lv_goto (tgt := 14) hx hb dJ0_coder_7d493_10 (by decide) ?_
    exact srI G X (rfl) dJ0_coder_7d493_14 (by exact ⟨rfl, rfl⟩)
def q_kLatin (V : sV) : Int32 → sV → Prop := fun x V1 => x = 1 ∧ V1 = V
set_option maxRecDepth 100000 in
set_option maxHeartbeats 4000000 in
theorem k_kLatin {l : Launch} {D : va_G} {cI : ClassId} {S : List sSh} {a : Nat → Nat} {kk kv : Nat → Nat} (ha : sInj S a) (V : sV) (i : Nat) (hi : i < 6) : sMK l D cI S a V kk kv yJ0_isLatin1_aae02 cJ0_isLatin1_aae02 1 .boolean 0 [.ref (kk i)] (q_kLatin V) := by
  refine sMKof ha (by decide +kernel) (Nat.le_of_ble_eq_true rfl) ?_
  intro p e s m below meth c ls G X hE hl
  obtain ⟨hx, hb, hml, hown, hts, hlocks, hr, hK⟩ := id G
  have hl : lv_has ls 1 [(0, .ref (kk i))] := hl
  refine skCS G X hE fk_J0_38 dJ0_isLatin1_aae02_0 ?_
  refine sZeq (tgt := 17) hx hb (by decide : (1 : Int32).toInt = 1) dJ0_isLatin1_aae02_3 (by decide) (fun c3 => ?_) (fun c3 => ?_)
  · skip
    exact absurd c3 (by decide)
  · skip
    refine lv_aload_n hx hb dJ0_isLatin1_aae02_6 rfl (lv_at hl 0 rfl) ?_
    refine skCod G X hE (i := i) hi fk_J0_15 dJ0_isLatin1_aae02_7 ?_
    refine sZne (tgt := 17) hx hb (by decide : (0 : Int32).toInt = 0) dJ0_isLatin1_aae02_10 (by decide) (fun c10 => ?_) (fun c10 => ?_)
    · skip
      exact absurd rfl c10
    · skip
      refine lv_iconst (v := 1) hx hb dJ0_isLatin1_aae02_13 (by decide) ?_
      refine lv_goto (tgt := 18) hx hb dJ0_isLatin1_aae02_14 (by decide) ?_
      exact srI G X (rfl) dJ0_isLatin1_aae02_18 (by exact ⟨rfl, rfl⟩)
def q_kLength (V : sV) (i : Nat) : Int32 → sV → Prop := fun x V1 => x = nI (kLen.getD i 0) ∧ V1 = V
set_option maxRecDepth 100000 in
set_option maxHeartbeats 4000000 in
theorem k_kLength {l : Launch} {D : va_G} {cI : ClassId} {S : List sSh} {a : Nat → Nat} {kk kv : Nat → Nat} (ha : sInj S a) (V : sV) (i : Nat) (hi : i < 6) : sMK l D cI S a V kk kv yJ0_length_8abf5 cJ0_length_8abf5 1 .int 1 [.ref (kk i)] (q_kLength V i) := by
  refine sMKof ha (by decide +kernel) (Nat.le_of_ble_eq_true rfl) ?_
  intro p e s m below meth c ls G X hE hl
  obtain ⟨hx, hb, hml, hown, hts, hlocks, hr, hK⟩ := id G
  have hl : lv_has ls 1 [(0, .ref (kk i))] := hl
  refine lv_aload_n hx hb dJ0_length_8abf5_0 rfl (lv_at hl 0 rfl) ?_
  refine skVal G X hE (i := i) hi fk_J0_9 dJ0_length_8abf5_1 ?_
  refine skLen G X hE (i := i) hi dJ0_length_8abf5_4 ?_
  refine lv_aload_n hx hb dJ0_length_8abf5_5 rfl (lv_at hl 0 rfl) ?_
  refine skI (b := (kk i)) (As := []) (rest := [.int (nI (kLen.getD i 0))]) G X hE (k_kCoder (kk := kk) (kv := kv) ha V i hi) iy_J0_coder_7d493 ml_J0_335 (skRec X hE hi) rfl rfl hl.1 (by decide) (by decide) (Nat.le_of_ble_eq_true rfl) dJ0_length_8abf5_6 (fun y6 V6 H locs p6 X => ?_)
  obtain ⟨p6, z6⟩ := p6
  subst V6
  refine lv_ishr hx hb dJ0_length_8abf5_9 ?_
  refine lv_topi (fun x9 e9 => ?_)
  exact srI G X (rfl) dJ0_length_8abf5_10 (by exact ⟨by rw [e9, p6]; exact sShr0 (by have := kLen_lt i hi; omega), rfl⟩)
def q_kIsEmpty (V : sV) (i : Nat) : Int32 → sV → Prop := fun x V1 => ((x.toInt = 1 ∧ kLen.getD i 0 = 0) ∨ (x.toInt = 0 ∧ kLen.getD i 0 ≠ 0)) ∧ V1 = V
set_option maxRecDepth 100000 in
set_option maxHeartbeats 4000000 in
theorem k_kIsEmpty {l : Launch} {D : va_G} {cI : ClassId} {S : List sSh} {a : Nat → Nat} {kk kv : Nat → Nat} (ha : sInj S a) (V : sV) (i : Nat) (hi : i < 6) : sMK l D cI S a V kk kv yJ0_isEmpty_aae02 cJ0_isEmpty_aae02 1 .boolean 0 [.ref (kk i)] (q_kIsEmpty V i) := by
  refine sMKof ha (by decide +kernel) (Nat.le_of_ble_eq_true rfl) ?_
  intro p e s m below meth c ls G X hE hl
  obtain ⟨hx, hb, hml, hown, hts, hlocks, hr, hK⟩ := id G
  have hl : lv_has ls 1 [(0, .ref (kk i))] := hl
  refine lv_aload_n hx hb dJ0_isEmpty_aae02_0 rfl (lv_at hl 0 rfl) ?_
  refine skVal G X hE (i := i) hi fk_J0_9 dJ0_isEmpty_aae02_1 ?_
  refine skLen G X hE (i := i) hi dJ0_isEmpty_aae02_4 ?_
  refine sZne (tgt := 12) hx hb (rfl : Int32.toInt (nI (kLen.getD i 0)) = _) dJ0_isEmpty_aae02_5 (by decide) (fun c5 => ?_) (fun c5 => ?_)
  · skip
    rw [nI_toInt (by have := kLen_lt i hi; omega)] at c5
    refine lv_iconst (v := 0) hx hb dJ0_isEmpty_aae02_12 (by decide) ?_
    exact srI G X (rfl) dJ0_isEmpty_aae02_13 (by first | exact ⟨Or.inl ⟨rfl, by omega⟩, rfl⟩ | exact ⟨Or.inr ⟨rfl, by omega⟩, rfl⟩)
  · skip
    rw [nI_toInt (by have := kLen_lt i hi; omega)] at c5
    refine lv_iconst (v := 1) hx hb dJ0_isEmpty_aae02_8 (by decide) ?_
    refine lv_goto (tgt := 13) hx hb dJ0_isEmpty_aae02_9 (by decide) ?_
    exact srI G X (rfl) dJ0_isEmpty_aae02_13 (by first | exact ⟨Or.inl ⟨rfl, by omega⟩, rfl⟩ | exact ⟨Or.inr ⟨rfl, by omega⟩, rfl⟩)
def q_kCheck (V : sV) : sV → Prop := fun V1 => V1 = V
set_option maxRecDepth 100000 in
set_option maxHeartbeats 4000000 in
theorem k_kCheck {l : Launch} {D : va_G} {cI : ClassId} {S : List sSh} {a : Nat → Nat} {kk kv : Nat → Nat} (ha : sInj S a) (V : sV) (j n : Int32) (h1 : 0 ≤ j.toInt) (h2 : j.toInt < n.toInt) : sMKV l D cI S a V kk kv yJ0_checkIndex_df160 cJ0_checkIndex_df160 2 1 [.int j, .int n] (q_kCheck V) := by
  refine sMKVof ha (by decide +kernel) (Nat.le_of_ble_eq_true rfl) ?_
  intro p e s m below meth c ls G X hE hl
  obtain ⟨hx, hb, hml, hown, hts, hlocks, hr, hK⟩ := id G
  have hl : lv_has ls 2 [(0, .int j), (1, .int n)] := hl
  refine lv_iload_n hx hb dJ0_checkIndex_df160_0 rfl (lv_at hl 0 rfl) ?_
  refine lv_iload_n hx hb dJ0_checkIndex_df160_1 rfl (lv_at hl 1 rfl) ?_
  refine skFm G X hE fk_J0_1053 dJ0_checkIndex_df160_2 (fun v hv => ?_)
  refine skSI (As := [.int j, .int n, v]) (rest := []) G X hE (k_kPcheck (kk := kk) (kv := kv) ha V j n v hv (by omega) (by omega)) iy_J3_checkIndex_8e157 ml_J0_1059 rfl rfl hl.1 (by decide) (by decide) (Nat.le_of_ble_eq_true rfl) dJ0_checkIndex_df160_5 (fun y5 V5 H locs p5 X => ?_)
  obtain ⟨p5, z5⟩ := p5
  subst V5
  refine lv_pop hx hb dJ0_checkIndex_df160_8 rfl ?_
  exact srV G X dJ0_checkIndex_df160_9 (by rfl)
def q_kL1CharAt (V : sV) : Int32 → sV → Prop := fun x V1 => (narrow .char (.int x) = .int x) ∧ V1 = V
set_option maxRecDepth 100000 in
set_option maxHeartbeats 4000000 in
theorem k_kL1CharAt {l : Launch} {D : va_G} {cI : ClassId} {S : List sSh} {a : Nat → Nat} {kk kv : Nat → Nat} (ha : sInj S a) (V : sV) (i : Nat) (hi : i < 6) (j : Int32) (h1 : 0 ≤ j.toInt) (h2 : j.toInt < (kLen.getD i 0 : Nat)) : sMK l D cI S a V kk kv yJ1_charAt_3b067 cJ1_charAt_3b067 2 .char 2 [.ref (kv i), .int j] (q_kL1CharAt V) := by
  refine sMKof ha (by decide +kernel) (Nat.le_of_ble_eq_true rfl) ?_
  intro p e s m below meth c ls G X hE hl
  obtain ⟨hx, hb, hml, hown, hts, hlocks, hr, hK⟩ := id G
  have hl : lv_has ls 2 [(0, .ref (kv i)), (1, .int j)] := hl
  have hlen : (nI (kLen.getD i 0)).toInt = (kLen.getD i 0 : Nat) := nI_toInt (by have := kLen_lt i hi; omega)
  refine lv_iload_n hx hb dJ1_charAt_3b067_0 rfl (lv_at hl 1 rfl) ?_
  refine lv_aload_n hx hb dJ1_charAt_3b067_1 rfl (lv_at hl 0 rfl) ?_
  refine skLen G X hE (i := i) hi dJ1_charAt_3b067_2 ?_
  refine skSV (As := [.int j, .int (nI (kLen.getD i 0))]) (rest := []) G X hE (k_kCheck (kk := kk) (kv := kv) ha V j (nI (kLen.getD i 0)) (by first | assumption | omega) (by first | assumption | omega)) iy_J0_checkIndex_df160 ml_J1_9 rfl rfl hl.1 (by decide) (by decide) (Nat.le_of_ble_eq_true rfl) dJ1_charAt_3b067_3 (fun V3 H locs p3 X => ?_)
  have z3 : V3 = V := p3
  subst V3
  refine lv_aload_n hx hb dJ1_charAt_3b067_6 rfl (lv_at hl 0 rfl) ?_
  refine lv_iload_n hx hb dJ1_charAt_3b067_7 rfl (lv_at hl 1 rfl) ?_
  refine skLd G X hE (i := i) hi (i32_in h1 h2) dJ1_charAt_3b067_8 (fun x8 => ?_)
  refine lv_sipush (v := 255) hx hb dJ1_charAt_3b067_9 (by decide) ?_
  refine lv_iand hx hb dJ1_charAt_3b067_12 ?_
  refine lv_topi (fun x12 e12 => ?_)
  refine lv_i2c hx hb dJ1_charAt_3b067_13 rfl ?_
  refine lv_topi (fun x13 e13 => ?_)
  exact srI G X (by rw [e13]; exact pk_nc _) dJ1_charAt_3b067_14 (by exact ⟨by rw [e13]; exact pk_nc _, rfl⟩)
def q_kCharAt (V : sV) : Int32 → sV → Prop := fun x V1 => (narrow .char (.int x) = .int x) ∧ V1 = V
set_option maxRecDepth 100000 in
set_option maxHeartbeats 4000000 in
theorem k_kCharAt {l : Launch} {D : va_G} {cI : ClassId} {S : List sSh} {a : Nat → Nat} {kk kv : Nat → Nat} (ha : sInj S a) (V : sV) (i : Nat) (hi : i < 6) (j : Int32) (h1 : 0 ≤ j.toInt) (h2 : j.toInt < (kLen.getD i 0 : Nat)) : sMK l D cI S a V kk kv yJ0_charAt_5068e cJ0_charAt_5068e 2 .char 3 [.ref (kk i), .int j] (q_kCharAt V) := by
  refine sMKof ha (by decide +kernel) (Nat.le_of_ble_eq_true rfl) ?_
  intro p e s m below meth c ls G X hE hl
  obtain ⟨hx, hb, hml, hown, hts, hlocks, hr, hK⟩ := id G
  have hl : lv_has ls 2 [(0, .ref (kk i)), (1, .int j)] := hl
  refine lv_aload_n hx hb dJ0_charAt_5068e_0 rfl (lv_at hl 0 rfl) ?_
  refine skI (b := (kk i)) (As := []) (rest := []) G X hE (k_kLatin (kk := kk) (kv := kv) ha V i hi) iy_J0_isLatin1_aae02 ml_J0_492 (skRec X hE hi) rfl rfl hl.1 (by decide) (by decide) (Nat.le_of_ble_eq_true rfl) dJ0_charAt_5068e_1 (fun y1 V1 H locs p1 X => ?_)
  obtain ⟨p1, z1⟩ := p1
  subst V1
  refine sZeq (tgt := 16) hx hb (rfl : Int32.toInt y1 = _) dJ0_charAt_5068e_4 (by decide) (fun c4 => ?_) (fun c4 => ?_)
  · skip
    exact absurd c4 (by rw [p1]; decide)
  · skip
    refine lv_aload_n hx hb dJ0_charAt_5068e_7 rfl (lv_at hl 0 rfl) ?_
    refine skVal G X hE (i := i) hi fk_J0_9 dJ0_charAt_5068e_8 ?_
    refine lv_iload_n hx hb dJ0_charAt_5068e_11 rfl (lv_at hl 1 rfl) ?_
    refine skSI (As := [.ref (kv i), .int j]) (rest := []) G X hE (k_kL1CharAt (kk := kk) (kv := kv) ha V i hi j (by first | assumption | omega) (by first | assumption | omega)) iy_J1_charAt_3b067 ml_J0_495 rfl rfl hl.1 (by decide) (by decide) (Nat.le_of_ble_eq_true rfl) dJ0_charAt_5068e_12 (fun y12 V12 H locs p12 X => ?_)
    obtain ⟨p12, z12⟩ := p12
    subst V12
    exact srI G X (p12) dJ0_charAt_5068e_15 (by exact ⟨p12, rfl⟩)
def q_kCanEnc (V : sV) : Int32 → sV → Prop := fun x V1 => (x.toInt = 0 ∨ x.toInt = 1) ∧ V1 = V
set_option maxRecDepth 100000 in
set_option maxHeartbeats 4000000 in
theorem k_kCanEnc {l : Launch} {D : va_G} {cI : ClassId} {S : List sSh} {a : Nat → Nat} {kk kv : Nat → Nat} (ha : sInj S a) (V : sV) (j : Int32) : sMK l D cI S a V kk kv yJ1_canEncode_9a6ad cJ1_canEncode_9a6ad 1 .boolean 0 [.int j] (q_kCanEnc V) := by
  refine sMKof ha (by decide +kernel) (Nat.le_of_ble_eq_true rfl) ?_
  intro p e s m below meth c ls G X hE hl
  obtain ⟨hx, hb, hml, hown, hts, hlocks, hr, hK⟩ := id G
  have hl : lv_has ls 1 [(0, .int j)] := hl
  refine lv_iload_n hx hb dJ1_canEncode_9a6ad_0 rfl (lv_at hl 0 rfl) ?_
  refine sZlt (tgt := 15) hx hb (rfl : Int32.toInt j = _) dJ1_canEncode_9a6ad_1 (by decide) (fun c1 => ?_) (fun c1 => ?_)
  · skip
    refine lv_iconst (v := 0) hx hb dJ1_canEncode_9a6ad_15 (by decide) ?_
    exact srI G X (rfl) dJ1_canEncode_9a6ad_16 (by first | exact ⟨Or.inr rfl, rfl⟩ | exact ⟨Or.inl rfl, rfl⟩)
  · skip
    refine lv_iload_n hx hb dJ1_canEncode_9a6ad_4 rfl (lv_at hl 0 rfl) ?_
    refine lv_sipush (v := 255) hx hb dJ1_canEncode_9a6ad_5 (by decide) ?_
    refine sIgt (tgt := 15) hx hb (rfl : Int32.toInt j = _) (by decide : (255 : Int32).toInt = 255) dJ1_canEncode_9a6ad_8 (by decide) (fun c8 => ?_) (fun c8 => ?_)
    · skip
      refine lv_iconst (v := 0) hx hb dJ1_canEncode_9a6ad_15 (by decide) ?_
      exact srI G X (rfl) dJ1_canEncode_9a6ad_16 (by first | exact ⟨Or.inr rfl, rfl⟩ | exact ⟨Or.inl rfl, rfl⟩)
    · skip
      refine lv_iconst (v := 1) hx hb dJ1_canEncode_9a6ad_11 (by decide) ?_
      refine lv_goto (tgt := 16) hx hb dJ1_canEncode_9a6ad_12 (by decide) ?_
      exact srI G X (rfl) dJ1_canEncode_9a6ad_16 (by first | exact ⟨Or.inr rfl, rfl⟩ | exact ⟨Or.inl rfl, rfl⟩)
def q_kIxChar (V : sV) (i : Nat) : Int32 → sV → Prop := fun x V1 => (-1 ≤ x.toInt ∧ x.toInt < (kLen.getD i 0 : Nat)) ∧ V1 = V
set_option maxRecDepth 100000 in
set_option maxHeartbeats 4000000 in
theorem k_kIxChar {l : Launch} {D : va_G} {cI : ClassId} {S : List sSh} {a : Nat → Nat} {kk kv : Nat → Nat} (ha : sInj S a) (V : sV) (i : Nat) (hi : i < 6) (j b n : Int32) (h1 : 0 ≤ b.toInt) (h2 : n.toInt ≤ (kLen.getD i 0 : Nat)) : sMK l D cI S a V kk kv yJ1_indexOfChar_4cfef cJ1_indexOfChar_4cfef 6 .int 0 [.ref (kv i), .int j, .int b, .int n] (q_kIxChar V i) := by
  refine sMKof ha (by decide +kernel) (Nat.le_of_ble_eq_true rfl) ?_
  intro p e s m below meth c ls G X hE hl
  obtain ⟨hx, hb, hml, hown, hts, hlocks, hr, hK⟩ := id G
  have hl : lv_has ls 6 [(0, .ref (kv i)), (1, .int j), (2, .int b), (3, .int n)] := hl
  have h8 := kLen_lt i hi
  refine lv_iload_n hx hb dJ1_indexOfChar_4cfef_0 rfl (lv_at hl 1 rfl) ?_
  refine lv_i2b hx hb dJ1_indexOfChar_4cfef_1 rfl ?_
  refine lv_topi (fun x1 e1 => ?_)
  refine lv_istore (lv' := [(4, .int x1), (0, .ref (kv i)), (1, .int j), (2, .int b), (3, .int n)]) hx hb dJ1_indexOfChar_4cfef_2 hl (by decide) rfl (fun ls hl => ?_)
  refine lv_iload_n hx hb dJ1_indexOfChar_4cfef_4 rfl (lv_at hl 3 rfl) ?_
  refine lv_istore (lv' := [(5, .int b), (4, .int x1), (0, .ref (kv i)), (1, .int j), (2, .int b), (3, .int n)]) hx hb dJ1_indexOfChar_4cfef_5 hl (by decide) rfl (fun ls hl => ?_)
  have L7 : ∀ (fu7 : Nat) (q : Int32) (H : Heap) (locs : List Loc) (ls : Array Slot), (0 ≤ q.toInt) → ((n.toInt - q.toInt).toNat) < fu7 → sWS D cI S a V s.heap H locs → lv_has ls 6 [(5, .int q), (4, .int x1), (0, .ref (kv i)), (1, .int j), (2, .int b), (3, .int n)] → W p l e (rmD 0) s m ([.ref (kv i), .int j, .int b, .int n] : List Value).toArray below meth c H locs 0 0 (MQ below (va_Qi (q_kIxChar V i) (fun V1 t => va_P D vwCl (sWd cI S a V1) t.heap) (sA S a s.heap.size)) ([.ref (kv i), .int j, .int b, .int n] : List Value).toArray s 0 0 (sA S a s.heap.size)) (F0 m 7 ls []) := by
    intro fu7
    induction fu7 with
    | zero => intro q H locs ls hq hm7; exact absurd hm7 (Nat.not_lt_zero _)
    | succ fu7 ih7 =>
      intro q H locs ls hq hm7 X hl
      refine lv_iload hx hb dJ1_indexOfChar_4cfef_7 (lv_at hl 0 rfl) ?_
      refine lv_iload_n hx hb dJ1_indexOfChar_4cfef_9 rfl (lv_at hl 5 rfl) ?_
      refine sIge (tgt := 31) hx hb (rfl : Int32.toInt q = _) (rfl : Int32.toInt n = _) dJ1_indexOfChar_4cfef_10 (by decide) (fun c10 => ?_) (fun c10 => ?_)
      · skip
        refine lv_iconst (v := (-1)) hx hb dJ1_indexOfChar_4cfef_31 (by decide) ?_
        exact srI G X (rfl) dJ1_indexOfChar_4cfef_32 (by exact ⟨⟨by decide, by show (-1 : Int) < _; omega⟩, rfl⟩)
      · skip
        refine lv_aload_n hx hb dJ1_indexOfChar_4cfef_13 rfl (lv_at hl 2 rfl) ?_
        refine lv_iload hx hb dJ1_indexOfChar_4cfef_14 (lv_at hl 0 rfl) ?_
        refine skLd G X hE (i := i) hi (i32_in hq (by omega)) dJ1_indexOfChar_4cfef_16 (fun x16 => ?_)
        refine lv_iload hx hb dJ1_indexOfChar_4cfef_17 (lv_at hl 1 rfl) ?_
        refine sIne (tgt := 25) hx hb (rfl : Int32.toInt x16 = _) (rfl : Int32.toInt x1 = _) dJ1_indexOfChar_4cfef_19 (by decide) (fun c19 => ?_) (fun c19 => ?_)
        · skip
          obtain ⟨x25, e25⟩ : ∃ y : Int32, y = q + (1) := ⟨_, rfl⟩
          refine lv_iinc (v := x25) (lv' := [(5, .int x25), (4, .int x1), (0, .ref (kv i)), (1, .int j), (2, .int b), (3, .int n)]) hx hb dJ1_indexOfChar_4cfef_25 hl (k := 0) rfl (by rw [e25]; rfl) (by decide) rfl (fun ls hl => ?_)
          refine lv_goto (tgt := 7) hx hb dJ1_indexOfChar_4cfef_28 (by decide) ?_
          exact ih7 x25 _ _ _ (by rw [i32_i e25 (by have := i32_hi n; omega)]; omega) (by rw [i32_i e25 (by have := i32_hi n; omega)]; omega) X (lv_sub hl [0, 1, 2, 3, 4, 5] rfl)
        · skip
          refine lv_iload hx hb dJ1_indexOfChar_4cfef_22 (lv_at hl 0 rfl) ?_
          exact srI G X (rfl) dJ1_indexOfChar_4cfef_24 (by exact ⟨⟨by omega, by omega⟩, rfl⟩)
  exact L7 _ b _ _ _ (h1) (Nat.lt_succ_self _) X (lv_sub hl [0, 1, 2, 3, 4, 5] rfl)
def q_kL1IndexOf (V : sV) (i : Nat) : Int32 → sV → Prop := fun x V1 => (-1 ≤ x.toInt ∧ x.toInt < (kLen.getD i 0 : Nat)) ∧ V1 = V
set_option maxRecDepth 100000 in
set_option maxHeartbeats 4000000 in
theorem k_kL1IndexOf {l : Launch} {D : va_G} {cI : ClassId} {S : List sSh} {a : Nat → Nat} {kk kv : Nat → Nat} (ha : sInj S a) (V : sV) (i : Nat) (hi : i < 6) (j b n : Int32) : sMK l D cI S a V kk kv yJ1_indexOf_4cfef cJ1_indexOf_4cfef 4 .int 1 [.ref (kv i), .int j, .int b, .int n] (q_kL1IndexOf V i) := by
  refine sMKof ha (by decide +kernel) (Nat.le_of_ble_eq_true rfl) ?_
  intro p e s m below meth c ls G X hE hl
  obtain ⟨hx, hb, hml, hown, hts, hlocks, hr, hK⟩ := id G
  have hl : lv_has ls 4 [(0, .ref (kv i)), (1, .int j), (2, .int b), (3, .int n)] := hl
  have hlen : (nI (kLen.getD i 0)).toInt = (kLen.getD i 0 : Nat) := nI_toInt (by have := kLen_lt i hi; omega)
  refine lv_iload_n hx hb dJ1_indexOf_4cfef_0 rfl (lv_at hl 1 rfl) ?_
  refine skSI (As := [.int j]) (rest := []) G X hE (k_kCanEnc (kk := kk) (kv := kv) ha V j) iy_J1_canEncode_9a6ad ml_J1_88 rfl rfl hl.1 (by decide) (by decide) (Nat.le_of_ble_eq_true rfl) dJ1_indexOf_4cfef_1 (fun y1 V1 H locs p1 X => ?_)
  obtain ⟨p1, z1⟩ := p1
  subst V1
  refine sZne (tgt := 9) hx hb (rfl : Int32.toInt y1 = _) dJ1_indexOf_4cfef_4 (by decide) (fun c4 => ?_) (fun c4 => ?_)
  · skip
    refine lv_iload_n hx hb dJ1_indexOf_4cfef_9 rfl (lv_at hl 2 rfl) ?_
    refine lv_iconst (v := 0) hx hb dJ1_indexOf_4cfef_10 (by decide) ?_
    refine sMax hx hb hml hl.1 hown hts mm_J1_92 (by decide) (Nat.le_of_ble_eq_true rfl) dJ1_indexOf_4cfef_11 (fun x11 e11 => ?_)
    refine lv_istore_n (lv' := [(2, .int x11), (0, .ref (kv i)), (1, .int j), (3, .int n)]) hx hb dJ1_indexOf_4cfef_14 rfl hl (by decide) rfl (fun ls hl => ?_)
    refine lv_iload_n hx hb dJ1_indexOf_4cfef_15 rfl (lv_at hl 3 rfl) ?_
    refine lv_aload_n hx hb dJ1_indexOf_4cfef_16 rfl (lv_at hl 1 rfl) ?_
    refine skLen G X hE (i := i) hi dJ1_indexOf_4cfef_17 ?_
    refine sMin hx hb hml hl.1 hown hts mm_J1_38 (by decide) (Nat.le_of_ble_eq_true rfl) dJ1_indexOf_4cfef_18 (fun x18 e18 => ?_)
    refine lv_istore_n (lv' := [(3, .int x18), (2, .int x11), (0, .ref (kv i)), (1, .int j)]) hx hb dJ1_indexOf_4cfef_21 rfl hl (by decide) rfl (fun ls hl => ?_)
    have hz : (0 : Int32).toInt = 0 := by decide
    refine lv_iload_n hx hb dJ1_indexOf_4cfef_22 rfl (lv_at hl 1 rfl) ?_
    refine lv_iload_n hx hb dJ1_indexOf_4cfef_23 rfl (lv_at hl 0 rfl) ?_
    refine sIlt (tgt := 29) hx hb (rfl : Int32.toInt x11 = _) (rfl : Int32.toInt x18 = _) dJ1_indexOf_4cfef_24 (by decide) (fun c24 => ?_) (fun c24 => ?_)
    · skip
      refine lv_aload_n hx hb dJ1_indexOf_4cfef_29 rfl (lv_at hl 2 rfl) ?_
      refine lv_iload_n hx hb dJ1_indexOf_4cfef_30 rfl (lv_at hl 3 rfl) ?_
      refine lv_iload_n hx hb dJ1_indexOf_4cfef_31 rfl (lv_at hl 1 rfl) ?_
      refine lv_iload_n hx hb dJ1_indexOf_4cfef_32 rfl (lv_at hl 0 rfl) ?_
      refine skSI (As := [.ref (kv i), .int j, .int x11, .int x18]) (rest := []) G X hE (k_kIxChar (kk := kk) (kv := kv) ha V i hi j x11 x18 (by omega) (by omega)) iy_J1_indexOfChar_4cfef ml_J1_95 rfl rfl hl.1 (by decide) (by decide) (Nat.le_of_ble_eq_true rfl) dJ1_indexOf_4cfef_33 (fun y33 V33 H locs p33 X => ?_)
      obtain ⟨p33, z33⟩ := p33
      subst V33
      exact srI G X (rfl) dJ1_indexOf_4cfef_36 (by exact ⟨p33, rfl⟩)
    · skip
      refine lv_iconst (v := (-1)) hx hb dJ1_indexOf_4cfef_27 (by decide) ?_
      exact srI G X (rfl) dJ1_indexOf_4cfef_28 (by exact ⟨⟨by decide, by show (-1 : Int) < _; omega⟩, rfl⟩)
  · skip
    refine lv_iconst (v := (-1)) hx hb dJ1_indexOf_4cfef_7 (by decide) ?_
    exact srI G X (rfl) dJ1_indexOf_4cfef_8 (by exact ⟨⟨by decide, by show (-1 : Int) < _; omega⟩, rfl⟩)
def q_kIndexOf2 (V : sV) (i : Nat) : Int32 → sV → Prop := fun x V1 => (-1 ≤ x.toInt ∧ x.toInt < (kLen.getD i 0 : Nat)) ∧ V1 = V
set_option maxRecDepth 100000 in
set_option maxHeartbeats 4000000 in
theorem k_kIndexOf2 {l : Launch} {D : va_G} {cI : ClassId} {S : List sSh} {a : Nat → Nat} {kk kv : Nat → Nat} (ha : sInj S a) (V : sV) (i : Nat) (hi : i < 6) (j b : Int32) : sMK l D cI S a V kk kv yJ0_indexOf_7cf53 cJ0_indexOf_7cf53 3 .int 2 [.ref (kk i), .int j, .int b] (q_kIndexOf2 V i) := by
  refine sMKof ha (by decide +kernel) (Nat.le_of_ble_eq_true rfl) ?_
  intro p e s m below meth c ls G X hE hl
  obtain ⟨hx, hb, hml, hown, hts, hlocks, hr, hK⟩ := id G
  have hl : lv_has ls 3 [(0, .ref (kk i)), (1, .int j), (2, .int b)] := hl
  refine lv_aload_n hx hb dJ0_indexOf_7cf53_0 rfl (lv_at hl 0 rfl) ?_
  refine skI (b := (kk i)) (As := []) (rest := []) G X hE (k_kLatin (kk := kk) (kv := kv) ha V i hi) iy_J0_isLatin1_aae02 ml_J0_492 (skRec X hE hi) rfl rfl hl.1 (by decide) (by decide) (Nat.le_of_ble_eq_true rfl) dJ0_indexOf_7cf53_1 (fun y1 V1 H locs p1 X => ?_)
  obtain ⟨p1, z1⟩ := p1
  subst V1
  refine sZeq (tgt := 23) hx hb (rfl : Int32.toInt y1 = _) dJ0_indexOf_7cf53_4 (by decide) (fun c4 => ?_) (fun c4 => ?_)
  · skip
    exact absurd c4 (by rw [p1]; decide)
  · skip
    refine lv_aload_n hx hb dJ0_indexOf_7cf53_7 rfl (lv_at hl 0 rfl) ?_
    refine skVal G X hE (i := i) hi fk_J0_9 dJ0_indexOf_7cf53_8 ?_
    refine lv_iload_n hx hb dJ0_indexOf_7cf53_11 rfl (lv_at hl 1 rfl) ?_
    refine lv_iload_n hx hb dJ0_indexOf_7cf53_12 rfl (lv_at hl 2 rfl) ?_
    refine lv_aload_n hx hb dJ0_indexOf_7cf53_13 rfl (lv_at hl 0 rfl) ?_
    refine skI (b := (kk i)) (As := []) (rest := [.int b, .int j, .ref (kv i)]) G X hE (k_kLength (kk := kk) (kv := kv) ha V i hi) iy_J0_length_8abf5 ml_J0_505 (skRec X hE hi) rfl rfl hl.1 (by decide) (by decide) (Nat.le_of_ble_eq_true rfl) dJ0_indexOf_7cf53_14 (fun y14 V14 H locs p14 X => ?_)
    obtain ⟨p14, z14⟩ := p14
    subst V14
    refine skSI (As := [.ref (kv i), .int j, .int b, .int y14]) (rest := []) G X hE (k_kL1IndexOf (kk := kk) (kv := kv) ha V i hi j b y14) iy_J1_indexOf_4cfef ml_J0_637 rfl rfl hl.1 (by decide) (by decide) (Nat.le_of_ble_eq_true rfl) dJ0_indexOf_7cf53_17 (fun y17 V17 H locs p17 X => ?_)
    obtain ⟨p17, z17⟩ := p17
    subst V17
    refine lv_goto (tgt := 36) hx hb dJ0_indexOf_7cf53_20 (by decide) ?_
    exact srI G X (rfl) dJ0_indexOf_7cf53_36 (by exact ⟨p17, rfl⟩)
def q_kIndexOf (V : sV) (i : Nat) : Int32 → sV → Prop := fun x V1 => (-1 ≤ x.toInt ∧ x.toInt < (kLen.getD i 0 : Nat)) ∧ V1 = V
set_option maxRecDepth 100000 in
set_option maxHeartbeats 4000000 in
theorem k_kIndexOf {l : Launch} {D : va_G} {cI : ClassId} {S : List sSh} {a : Nat → Nat} {kk kv : Nat → Nat} (ha : sInj S a) (V : sV) (i : Nat) (hi : i < 6) (j : Int32) : sMK l D cI S a V kk kv yJ0_indexOf_0f7a4 cJ0_indexOf_0f7a4 2 .int 3 [.ref (kk i), .int j] (q_kIndexOf V i) := by
  refine sMKof ha (by decide +kernel) (Nat.le_of_ble_eq_true rfl) ?_
  intro p e s m below meth c ls G X hE hl
  obtain ⟨hx, hb, hml, hown, hts, hlocks, hr, hK⟩ := id G
  have hl : lv_has ls 2 [(0, .ref (kk i)), (1, .int j)] := hl
  refine lv_aload_n hx hb dJ0_indexOf_0f7a4_0 rfl (lv_at hl 0 rfl) ?_
  refine lv_iload_n hx hb dJ0_indexOf_0f7a4_1 rfl (lv_at hl 1 rfl) ?_
  refine lv_iconst (v := 0) hx hb dJ0_indexOf_0f7a4_2 (by decide) ?_
  refine skI (b := (kk i)) (As := [.int j, .int 0]) (rest := []) G X hE (k_kIndexOf2 (kk := kk) (kv := kv) ha V i hi j 0) iy_J0_indexOf_7cf53 ml_J0_633 (skRec X hE hi) rfl rfl hl.1 (by decide) (by decide) (Nat.le_of_ble_eq_true rfl) dJ0_indexOf_0f7a4_3 (fun y3 V3 H locs p3 X => ?_)
  obtain ⟨p3, z3⟩ := p3
  subst V3
  exact srI G X (rfl) dJ0_indexOf_0f7a4_6 (by exact ⟨p3, rfl⟩)
