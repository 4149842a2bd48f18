def SX : List sSh := [.inr (8, [some 2, some 20, none, some 38, some 46, some 49, some 50, some 1]), .inl 7, .inr (6, [none, some 3, some 11, some 15, some 16, some 18]), .inr (2, [some 4, some 5, some 6, some 7, some 8, some 9, some 10, none]), .inl 10, .inl 10, .inl 10, .inl 10, .inl 10, .inl 10, .inl 10, .inr (7, [some 12, some 13, some 14, none]), .inl 4, .inl 4, .inl 4, .inr (0, [none, none, none, none]), .inr (4, [some 17, none]), .inl 80, .inr (4, [some 19, none]), .inl 10, .inr (6, [none, some 21, some 29, some 33, some 34, some 36]), .inr (2, [some 22, some 23, some 24, some 25, some 26, some 27, some 28, none]), .inl 10, .inl 10, .inl 10, .inl 10, .inl 10, .inl 10, .inl 10, .inr (7, [some 30, some 31, some 32, none]), .inl 4, .inl 4, .inl 4, .inr (0, [none, none, none, none]), .inr (4, [some 35, none]), .inl 80, .inr (4, [some 37, none]), .inl 10, .inr (1, [some 2, some 39, some 40, some 41, some 42, some 43, some 44, some 45]), .inl 10, .inl 10, .inl 10, .inl 10, .inl 6, .inl 6, .inl 1201, .inr (3, [some 2, some 47, none, none]), .inr (4, [some 48, none]), .inl 6, .inr (5, [none]), .inr (0, [none, none, none, none])]
theorem sUp_id {V : sV} {k : Nat} : sUp V k (V k) = V := by
  funext i
  by_cases h : i = k
  · subst h; exact sUp_s _ _ _
  · exact sUp_n _ _ h
theorem sUp_up {V : sV} {k : Nat} {f g : Nat → Int32} : sUp (sUp V k f) k g = sUp V k g := by
  funext i
  by_cases h : i = k
  · subst h; rw [sUp_s, sUp_s]
  · rw [sUp_n _ _ h, sUp_n _ _ h, sUp_n _ _ h]
theorem sNar {x : Int32} (h : x.toInt = 0 ∨ x.toInt = 1) : narrow .boolean (.int x) = .int x := by
  rcases h with h | h
  · have e : x = 0 := Int32.toInt_inj.mp h
    subst e; rfl
  · have e : x = 1 := Int32.toInt_inj.mp h
    subst e; rfl
theorem i32_i {x i : Int32} (e : x = i + 1) (h : i.toInt < 2147483647) : x.toInt = i.toInt + 1 := by
  have h3 := i32_lo i
  rw [e]
  exact i32_add (by show _ ≤ i.toInt + 1; omega) (by show i.toInt + 1 < _; omega)
theorem dJ6_compare_7cf53_0 : decode cJ6_compare_7cf53 0 = .ok (.iload_n 0, 1) := by decide +kernel
theorem dJ6_compare_7cf53_1 : decode cJ6_compare_7cf53 1 = .ok (.iload_n 1, 1) := by decide +kernel
theorem dJ6_compare_7cf53_2 : decode cJ6_compare_7cf53 2 = .ok (.if_icmp .ge 7, 3) := by decide +kernel
theorem dJ6_compare_7cf53_5 : decode cJ6_compare_7cf53 5 = .ok (.iconst (-1), 1) := by decide +kernel
theorem dJ6_compare_7cf53_6 : decode cJ6_compare_7cf53 6 = .ok (.goto 13, 3) := by decide +kernel
theorem dJ6_compare_7cf53_9 : decode cJ6_compare_7cf53 9 = .ok (.iload_n 0, 1) := by decide +kernel
theorem dJ6_compare_7cf53_10 : decode cJ6_compare_7cf53 10 = .ok (.iload_n 1, 1) := by decide +kernel
theorem dJ6_compare_7cf53_11 : decode cJ6_compare_7cf53 11 = .ok (.if_icmp .ne 7, 3) := by decide +kernel
theorem dJ6_compare_7cf53_14 : decode cJ6_compare_7cf53 14 = .ok (.iconst 0, 1) := by decide +kernel
theorem dJ6_compare_7cf53_15 : decode cJ6_compare_7cf53 15 = .ok (.goto 4, 3) := by decide +kernel
theorem dJ6_compare_7cf53_18 : decode cJ6_compare_7cf53 18 = .ok (.iconst 1, 1) := by decide +kernel
theorem dJ6_compare_7cf53_19 : decode cJ6_compare_7cf53 19 = .ok (.ireturn, 1) := by decide +kernel
theorem dJ6_bitCount_0f7a4_0 : decode cJ6_bitCount_0f7a4 0 = .ok (.iload_n 0, 1) := by decide +kernel
theorem dJ6_bitCount_0f7a4_1 : decode cJ6_bitCount_0f7a4 1 = .ok (.iload_n 0, 1) := by decide +kernel
theorem dJ6_bitCount_0f7a4_2 : decode cJ6_bitCount_0f7a4 2 = .ok (.iconst 1, 1) := by decide +kernel
theorem dJ6_bitCount_0f7a4_3 : decode cJ6_bitCount_0f7a4 3 = .ok (.iushr, 1) := by decide +kernel
theorem dJ6_bitCount_0f7a4_4 : decode cJ6_bitCount_0f7a4 4 = .ok (.ldc_w 265, 3) := by decide +kernel
theorem dJ6_bitCount_0f7a4_7 : decode cJ6_bitCount_0f7a4 7 = .ok (.iand, 1) := by decide +kernel
theorem dJ6_bitCount_0f7a4_8 : decode cJ6_bitCount_0f7a4 8 = .ok (.isub, 1) := by decide +kernel
theorem dJ6_bitCount_0f7a4_9 : decode cJ6_bitCount_0f7a4 9 = .ok (.istore_n 0, 1) := by decide +kernel
theorem dJ6_bitCount_0f7a4_10 : decode cJ6_bitCount_0f7a4 10 = .ok (.iload_n 0, 1) := by decide +kernel
theorem dJ6_bitCount_0f7a4_11 : decode cJ6_bitCount_0f7a4 11 = .ok (.ldc_w 266, 3) := by decide +kernel
theorem dJ6_bitCount_0f7a4_14 : decode cJ6_bitCount_0f7a4 14 = .ok (.iand, 1) := by decide +kernel
theorem dJ6_bitCount_0f7a4_15 : decode cJ6_bitCount_0f7a4 15 = .ok (.iload_n 0, 1) := by decide +kernel
theorem dJ6_bitCount_0f7a4_16 : decode cJ6_bitCount_0f7a4 16 = .ok (.iconst 2, 1) := by decide +kernel
theorem dJ6_bitCount_0f7a4_17 : decode cJ6_bitCount_0f7a4 17 = .ok (.iushr, 1) := by decide +kernel
theorem dJ6_bitCount_0f7a4_18 : decode cJ6_bitCount_0f7a4 18 = .ok (.ldc_w 266, 3) := by decide +kernel
theorem dJ6_bitCount_0f7a4_21 : decode cJ6_bitCount_0f7a4 21 = .ok (.iand, 1) := by decide +kernel
theorem dJ6_bitCount_0f7a4_22 : decode cJ6_bitCount_0f7a4 22 = .ok (.iadd, 1) := by decide +kernel
theorem dJ6_bitCount_0f7a4_23 : decode cJ6_bitCount_0f7a4 23 = .ok (.istore_n 0, 1) := by decide +kernel
theorem dJ6_bitCount_0f7a4_24 : decode cJ6_bitCount_0f7a4 24 = .ok (.iload_n 0, 1) := by decide +kernel
theorem dJ6_bitCount_0f7a4_25 : decode cJ6_bitCount_0f7a4 25 = .ok (.iload_n 0, 1) := by decide +kernel
theorem dJ6_bitCount_0f7a4_26 : decode cJ6_bitCount_0f7a4 26 = .ok (.iconst 4, 1) := by decide +kernel
theorem dJ6_bitCount_0f7a4_27 : decode cJ6_bitCount_0f7a4 27 = .ok (.iushr, 1) := by decide +kernel
theorem dJ6_bitCount_0f7a4_28 : decode cJ6_bitCount_0f7a4 28 = .ok (.iadd, 1) := by decide +kernel
theorem dJ6_bitCount_0f7a4_29 : decode cJ6_bitCount_0f7a4 29 = .ok (.ldc_w 267, 3) := by decide +kernel
theorem dJ6_bitCount_0f7a4_32 : decode cJ6_bitCount_0f7a4 32 = .ok (.iand, 1) := by decide +kernel
theorem dJ6_bitCount_0f7a4_33 : decode cJ6_bitCount_0f7a4 33 = .ok (.istore_n 0, 1) := by decide +kernel
theorem dJ6_bitCount_0f7a4_34 : decode cJ6_bitCount_0f7a4 34 = .ok (.iload_n 0, 1) := by decide +kernel
theorem dJ6_bitCount_0f7a4_35 : decode cJ6_bitCount_0f7a4 35 = .ok (.iload_n 0, 1) := by decide +kernel
theorem dJ6_bitCount_0f7a4_36 : decode cJ6_bitCount_0f7a4 36 = .ok (.bipush 8, 2) := by decide +kernel
theorem dJ6_bitCount_0f7a4_38 : decode cJ6_bitCount_0f7a4 38 = .ok (.iushr, 1) := by decide +kernel
theorem dJ6_bitCount_0f7a4_39 : decode cJ6_bitCount_0f7a4 39 = .ok (.iadd, 1) := by decide +kernel
theorem dJ6_bitCount_0f7a4_40 : decode cJ6_bitCount_0f7a4 40 = .ok (.istore_n 0, 1) := by decide +kernel
theorem dJ6_bitCount_0f7a4_41 : decode cJ6_bitCount_0f7a4 41 = .ok (.iload_n 0, 1) := by decide +kernel
theorem dJ6_bitCount_0f7a4_42 : decode cJ6_bitCount_0f7a4 42 = .ok (.iload_n 0, 1) := by decide +kernel
theorem dJ6_bitCount_0f7a4_43 : decode cJ6_bitCount_0f7a4 43 = .ok (.bipush 16, 2) := by decide +kernel
theorem dJ6_bitCount_0f7a4_45 : decode cJ6_bitCount_0f7a4 45 = .ok (.iushr, 1) := by decide +kernel
theorem dJ6_bitCount_0f7a4_46 : decode cJ6_bitCount_0f7a4 46 = .ok (.iadd, 1) := by decide +kernel
theorem dJ6_bitCount_0f7a4_47 : decode cJ6_bitCount_0f7a4 47 = .ok (.istore_n 0, 1) := by decide +kernel
theorem dJ6_bitCount_0f7a4_48 : decode cJ6_bitCount_0f7a4 48 = .ok (.iload_n 0, 1) := by decide +kernel
theorem dJ6_bitCount_0f7a4_49 : decode cJ6_bitCount_0f7a4 49 = .ok (.bipush 63, 2) := by decide +kernel
theorem dJ6_bitCount_0f7a4_51 : decode cJ6_bitCount_0f7a4 51 = .ok (.iand, 1) := by decide +kernel
theorem dJ6_bitCount_0f7a4_52 : decode cJ6_bitCount_0f7a4 52 = .ok (.ireturn, 1) := by decide +kernel
def q_at (V : sV) (k n : Nat) (i : Int32) : Int32 → sV → Prop := fun r V1 => r = rAt n (V k) i ∧ V1 = V
set_option maxRecDepth 100000 in
set_option maxHeartbeats 4000000 in
theorem k_at {l : Launch} {D : va_G} {cI : ClassId} {a : Nat → Nat} (ha : sInj SX a) (V : sV) (k n : Nat) (hk : SX[k]? = some (.inl n)) (hn : n < 2147483648) (i : Int32) : sMI l D cI SX a V yX5_at cX5_at 2 .int 0 [.ref (a k), .int i] (q_at V k n i) := by
  refine sMIof ha (by decide +kernel) (Nat.le_of_ble_eq_true rfl) ?_
  intro p e s m below meth c ls G X hl
  obtain ⟨hx, hb, hml, hown, hts, hlocks, hr, hK⟩ := id G
  have hl : lv_has ls 2 [(0, .ref (a k)), (1, .int i)] := hl
  refine lv_iload_n hx hb dX5_at_0 rfl (lv_at hl 1 rfl) ?_
  refine sZlt (tgt := 16) hx hb (rfl : Int32.toInt i = _) dX5_at_1 (by decide) (fun c1 => ?_) (fun c1 => ?_)
  · skip
    refine lv_iconst (v := 0) hx hb dX5_at_16 (by decide) ?_
    exact srI G X (rfl) dX5_at_17 (by first | exact ⟨by rw [e12, rAt_in c1 c7], rfl⟩ | exact ⟨(rAt_out (Or.inr c7)).symm, rfl⟩ | exact ⟨(rAt_out (Or.inl c1)).symm, rfl⟩)
  · skip
    refine lv_iload_n hx hb dX5_at_4 rfl (lv_at hl 1 rfl) ?_
    refine lv_aload_n hx hb dX5_at_5 rfl (lv_at hl 0 rfl) ?_
    refine sln G X k hk dX5_at_6 ?_
    refine sIge (tgt := 16) hx hb (rfl : Int32.toInt i = _) (rfl : Int32.toInt (nI n) = _) dX5_at_7 (by decide) (fun c7 => ?_) (fun c7 => ?_)
    · skip
      rw [nI_toInt hn] at c7
      refine lv_iconst (v := 0) hx hb dX5_at_16 (by decide) ?_
      exact srI G X (rfl) dX5_at_17 (by first | exact ⟨by rw [e12, rAt_in c1 c7], rfl⟩ | exact ⟨(rAt_out (Or.inr c7)).symm, rfl⟩ | exact ⟨(rAt_out (Or.inl c1)).symm, rfl⟩)
    · skip
      rw [nI_toInt hn] at c7
      refine lv_aload_n hx hb dX5_at_10 rfl (lv_at hl 0 rfl) ?_
      refine lv_iload_n hx hb dX5_at_11 rfl (lv_at hl 1 rfl) ?_
      refine sld G X k hk (i32_in c1 c7) dX5_at_12 ?_
      refine lv_topi (fun x12 e12 => ?_)
      refine lv_goto (tgt := 17) hx hb dX5_at_13 (by decide) ?_
      exact srI G X (rfl) dX5_at_17 (by first | exact ⟨by rw [e12, rAt_in c1 c7], rfl⟩ | exact ⟨(rAt_out (Or.inr c7)).symm, rfl⟩ | exact ⟨(rAt_out (Or.inl c1)).symm, rfl⟩)
def q_put (V : sV) (k n : Nat) (i v : Int32) : sV → Prop := fun V1 => V1 = sUp V k (rPut n (V k) i v)
set_option maxRecDepth 100000 in
set_option maxHeartbeats 4000000 in
theorem k_put {l : Launch} {D : va_G} {cI : ClassId} {a : Nat → Nat} (ha : sInj SX a) (V : sV) (k n : Nat) (hk : SX[k]? = some (.inl n)) (hn : n < 2147483648) (i v : Int32) : sMV l D cI SX a V yX5_put cX5_put 3 0 [.ref (a k), .int i, .int v] (q_put V k n i v) := by
  refine sMVof ha (by decide +kernel) (Nat.le_of_ble_eq_true rfl) ?_
  intro p e s m below meth c ls G X hl
  obtain ⟨hx, hb, hml, hown, hts, hlocks, hr, hK⟩ := id G
  have hl : lv_has ls 3 [(0, .ref (a k)), (1, .int i), (2, .int v)] := hl
  refine lv_iload_n hx hb dX5_put_0 rfl (lv_at hl 1 rfl) ?_
  refine sZlt (tgt := 14) hx hb (rfl : Int32.toInt i = _) dX5_put_1 (by decide) (fun c1 => ?_) (fun c1 => ?_)
  · skip
    exact srV G X dX5_put_14 (by first | exact (by show _ = _; rw [rPut_in c1 c7]) | exact (by show _ = _; rw [rPut_out (Or.inr c7), sUp_id]) | exact (by show _ = _; rw [rPut_out (Or.inl c1), sUp_id]))
  · skip
    refine lv_iload_n hx hb dX5_put_4 rfl (lv_at hl 1 rfl) ?_
    refine lv_aload_n hx hb dX5_put_5 rfl (lv_at hl 0 rfl) ?_
    refine sln G X k hk dX5_put_6 ?_
    refine sIge (tgt := 14) hx hb (rfl : Int32.toInt i = _) (rfl : Int32.toInt (nI n) = _) dX5_put_7 (by decide) (fun c7 => ?_) (fun c7 => ?_)
    · skip
      rw [nI_toInt hn] at c7
      exact srV G X dX5_put_14 (by first | exact (by show _ = _; rw [rPut_in c1 c7]) | exact (by show _ = _; rw [rPut_out (Or.inr c7), sUp_id]) | exact (by show _ = _; rw [rPut_out (Or.inl c1), sUp_id]))
    · skip
      rw [nI_toInt hn] at c7
      refine lv_aload_n hx hb dX5_put_10 rfl (lv_at hl 0 rfl) ?_
      refine lv_iload_n hx hb dX5_put_11 rfl (lv_at hl 1 rfl) ?_
      refine lv_iload_n hx hb dX5_put_12 rfl (lv_at hl 2 rfl) ?_
      refine sst G X k hk (i32_in c1 c7) dX5_put_13 (fun H locs X => ?_)
      exact srV G X dX5_put_14 (by first | exact (by show _ = _; rw [rPut_in c1 c7]) | exact (by show _ = _; rw [rPut_out (Or.inr c7), sUp_id]) | exact (by show _ = _; rw [rPut_out (Or.inl c1), sUp_id]))
def q_copy (V : sV) (k t n : Nat) : sV → Prop := fun V1 => ∃ f : Nat → Int32, V1 = sUp V t f ∧ ∀ j, j < n → f j = V k j
set_option maxRecDepth 100000 in
set_option maxHeartbeats 4000000 in
theorem k_copy {l : Launch} {D : va_G} {cI : ClassId} {a : Nat → Nat} (ha : sInj SX a) (V : sV) (k t n : Nat) (hk : SX[k]? = some (.inl n)) (ht : SX[t]? = some (.inl n)) (hn : n < 2147483648) (hkt : k ≠ t) : sMV l D cI SX a V yX5_copy cX5_copy 3 0 [.ref (a k), .ref (a t)] (q_copy V k t n) := by
  refine sMVof ha (by decide +kernel) (Nat.le_of_ble_eq_true rfl) ?_
  intro p e s m below meth c ls G X hl
  obtain ⟨hx, hb, hml, hown, hts, hlocks, hr, hK⟩ := id G
  have hl : lv_has ls 3 [(0, .ref (a k)), (1, .ref (a t))] := hl
  refine lv_iconst (v := 0) hx hb dX5_copy_0 (by decide) ?_
  refine lv_istore_n (lv' := [(2, .int 0), (0, .ref (a k)), (1, .ref (a t))]) hx hb dX5_copy_1 rfl hl (by decide) rfl (fun ls hl => ?_)
  have L2 : ∀ (fu : Nat) (i : Int32) (f : Nat → Int32) (H : Heap) (locs : List Loc) (ls : Array Slot), (0 ≤ i.toInt) → (i.toInt ≤ n) → (∀ j : Nat, (j : Int) < i.toInt → f j = V k j) → (((n : Int) - i.toInt).toNat) < fu → sWS D cI SX a (sUp V t f) s.heap H locs → lv_has ls 3 [(2, .int i), (0, .ref (a k)), (1, .ref (a t))] → W p l e (rmD 0) s m ([.ref (a k), .ref (a t)] : List Value).toArray below meth c H locs 0 0 (MQ below (va_Qv (q_copy V k t n) (fun V1 t => va_P D vwCl (sWd cI SX a V1) t.heap) (sA SX a s.heap.size)) ([.ref (a k), .ref (a t)] : List Value).toArray s 0 0 (sA SX a s.heap.size)) (F0 m 2 ls []) := by
    intro fu
    induction fu with
    | zero => intro i f H locs ls h1 h2 h3 hm; exact absurd hm (Nat.not_lt_zero _)
    | succ fu ih2 =>
      intro i f H locs ls h1 h2 h3 hm X hl
      refine lv_iload_n hx hb dX5_copy_2 rfl (lv_at hl 0 rfl) ?_
      refine lv_aload_n hx hb dX5_copy_3 rfl (lv_at hl 1 rfl) ?_
      refine sln G X k hk dX5_copy_4 ?_
      refine sIge (tgt := 26) hx hb (rfl : Int32.toInt i = _) (rfl : Int32.toInt (nI n) = _) dX5_copy_5 (by decide) (fun c5 => ?_) (fun c5 => ?_)
      · skip
        rw [nI_toInt hn] at c5
        exact srV G X dX5_copy_26 (by exact ⟨f, rfl, fun j hj => h3 j (by omega)⟩)
      · skip
        rw [nI_toInt hn] at c5
        refine lv_iload_n hx hb dX5_copy_8 rfl (lv_at hl 0 rfl) ?_
        refine lv_aload_n hx hb dX5_copy_9 rfl (lv_at hl 2 rfl) ?_
        refine sln G X t ht dX5_copy_10 ?_
        refine sIge (tgt := 26) hx hb (rfl : Int32.toInt i = _) (rfl : Int32.toInt (nI n) = _) dX5_copy_11 (by decide) (fun c11 => ?_) (fun c11 => ?_)
        · skip
          rw [nI_toInt hn] at c11
          exact srV G X dX5_copy_26 (by exact ⟨f, rfl, fun j hj => h3 j (by omega)⟩)
        · skip
          rw [nI_toInt hn] at c11
          refine lv_aload_n hx hb dX5_copy_14 rfl (lv_at hl 2 rfl) ?_
          refine lv_iload_n hx hb dX5_copy_15 rfl (lv_at hl 0 rfl) ?_
          refine lv_aload_n hx hb dX5_copy_16 rfl (lv_at hl 1 rfl) ?_
          refine lv_iload_n hx hb dX5_copy_17 rfl (lv_at hl 0 rfl) ?_
          refine sld G X k hk (i32_in h1 c5) dX5_copy_18 ?_
          refine lv_topi (fun x18 e18 => ?_)
          refine sst G X t ht (i32_in h1 c5) dX5_copy_19 (fun H locs X => ?_)
          obtain ⟨x20, e20⟩ : ∃ y : Int32, y = i + (1) := ⟨_, rfl⟩
          refine lv_iinc (v := x20) (lv' := [(2, .int x20), (0, .ref (a k)), (1, .ref (a t))]) hx hb dX5_copy_20 hl (k := 0) rfl (by rw [e20]; rfl) (by decide) rfl (fun ls hl => ?_)
          have ei := i32_inc (x := i) (b := nI n) (by rw [nI_toInt hn]; exact c5)
          rw [show i + (1) = i + 1 from rfl] at e20
          refine lv_goto (tgt := 2) hx hb dX5_copy_23 (by decide) ?_
          exact ih2 x20 (upd f i.toNatClampNeg x18) _ _ _ (by rw [e20, ei]; omega) (by rw [e20, ei]; omega) (fun j hj => by
          have hj : (j : Int) < i.toInt + 1 := by rw [e20, ei] at hj; exact hj
          show (if j = i.toNatClampNeg then x18 else f j) = V k j
          by_cases hji : j = i.toNatClampNeg
          · rw [if_pos hji, e18, sUp_n _ _ hkt, hji]
          · rw [if_neg hji]; exact h3 j (by have := i32_cl h1; omega)) (by rw [e20, ei]; omega) (by rw [sUp_s, sUp_up] at X; exact X) (lv_sub hl [0, 1, 2] rfl)
  exact L2 _ 0 (V t) _ _ _ (by decide) (by show (0 : Int) ≤ n; omega) (fun j hj => absurd hj (by show ¬ ((j : Int) < 0); omega)) (Nat.lt_succ_self _) (by rw [sUp_id]; exact X) (lv_sub hl [0, 1, 2] rfl)
def q_compare (V : sV) (i j : Int32) : Int32 → sV → Prop := fun x V1 => (i.toInt = j.toInt → x = 0) ∧ V1 = V
set_option maxRecDepth 100000 in
set_option maxHeartbeats 4000000 in
theorem k_compare {l : Launch} {D : va_G} {cI : ClassId} {S : List sSh} {a : Nat → Nat} (ha : sInj S a) (V : sV) (i j : Int32) : sMI l D cI S a V yJ6_compare_7cf53 cJ6_compare_7cf53 2 .int 0 [.int i, .int j] (q_compare V i j) := by
  refine sMIof ha (by decide +kernel) (Nat.le_of_ble_eq_true rfl) ?_
  intro p e s m below meth c ls G X hl
  obtain ⟨hx, hb, hml, hown, hts, hlocks, hr, hK⟩ := id G
  have hl : lv_has ls 2 [(0, .int i), (1, .int j)] := hl
  refine lv_iload_n hx hb dJ6_compare_7cf53_0 rfl (lv_at hl 0 rfl) ?_
  refine lv_iload_n hx hb dJ6_compare_7cf53_1 rfl (lv_at hl 1 rfl) ?_
  refine sIge (tgt := 9) hx hb (rfl : Int32.toInt i = _) (rfl : Int32.toInt j = _) dJ6_compare_7cf53_2 (by decide) (fun c2 => ?_) (fun c2 => ?_)
  · skip
    refine lv_iload_n hx hb dJ6_compare_7cf53_9 rfl (lv_at hl 0 rfl) ?_
    refine lv_iload_n hx hb dJ6_compare_7cf53_10 rfl (lv_at hl 1 rfl) ?_
    refine sIne (tgt := 18) hx hb (rfl : Int32.toInt i = _) (rfl : Int32.toInt j = _) dJ6_compare_7cf53_11 (by decide) (fun c11 => ?_) (fun c11 => ?_)
    · skip
      refine lv_iconst (v := 1) hx hb dJ6_compare_7cf53_18 (by decide) ?_
      exact srI G X (rfl) dJ6_compare_7cf53_19 (by exact ⟨fun h => by first | rfl | (exfalso; omega), rfl⟩)
    · skip
      refine lv_iconst (v := 0) hx hb dJ6_compare_7cf53_14 (by decide) ?_
      refine lv_goto (tgt := 19) hx hb dJ6_compare_7cf53_15 (by decide) ?_
      exact srI G X (rfl) dJ6_compare_7cf53_19 (by exact ⟨fun h => by first | rfl | (exfalso; omega), rfl⟩)
  · skip
    refine lv_iconst (v := (-1)) hx hb dJ6_compare_7cf53_5 (by decide) ?_
    refine lv_goto (tgt := 19) hx hb dJ6_compare_7cf53_6 (by decide) ?_
    exact srI G X (rfl) dJ6_compare_7cf53_19 (by exact ⟨fun h => by first | rfl | (exfalso; omega), rfl⟩)
def q_bitCount (V : sV) (i : Int32) : Int32 → sV → Prop := fun x V1 => (i = 0 → x = 0) ∧ V1 = V
set_option maxRecDepth 100000 in
set_option maxHeartbeats 4000000 in
theorem k_bitCount {l : Launch} {D : va_G} {cI : ClassId} {S : List sSh} {a : Nat → Nat} (ha : sInj S a) (V : sV) (i : Int32) : sMI l D cI S a V yJ6_bitCount_0f7a4 cJ6_bitCount_0f7a4 1 .int 0 [.int i] (q_bitCount V i) := by
  refine sMIof ha (by decide +kernel) (Nat.le_of_ble_eq_true rfl) ?_
  intro p e s m below meth c ls G X hl
  obtain ⟨hx, hb, hml, hown, hts, hlocks, hr, hK⟩ := id G
  have hl : lv_has ls 1 [(0, .int i)] := hl
  refine lv_iload_n hx hb dJ6_bitCount_0f7a4_0 rfl (lv_at hl 0 rfl) ?_
  refine lv_iload_n hx hb dJ6_bitCount_0f7a4_1 rfl (lv_at hl 0 rfl) ?_
  refine lv_iconst (v := 1) hx hb dJ6_bitCount_0f7a4_2 (by decide) ?_
  refine lv_iushr hx hb dJ6_bitCount_0f7a4_3 rfl ?_
  refine lv_topi (fun x3 e3 => ?_)
  refine lv_ldcw hx hb hown (hts _ kc_J6_265) dJ6_bitCount_0f7a4_4 ?_
  refine lv_iand hx hb dJ6_bitCount_0f7a4_7 ?_
  refine lv_topi (fun x7 e7 => ?_)
  refine lv_isub hx hb dJ6_bitCount_0f7a4_8 ?_
  refine lv_topi (fun x8 e8 => ?_)
  refine lv_istore_n (lv' := [(0, .int x8)]) hx hb dJ6_bitCount_0f7a4_9 rfl hl (by decide) rfl (fun ls hl => ?_)
  refine lv_iload_n hx hb dJ6_bitCount_0f7a4_10 rfl (lv_at hl 0 rfl) ?_
  refine lv_ldcw hx hb hown (hts _ kc_J6_266) dJ6_bitCount_0f7a4_11 ?_
  refine lv_iand hx hb dJ6_bitCount_0f7a4_14 ?_
  refine lv_topi (fun x14 e14 => ?_)
  refine lv_iload_n hx hb dJ6_bitCount_0f7a4_15 rfl (lv_at hl 0 rfl) ?_
  refine lv_iconst (v := 2) hx hb dJ6_bitCount_0f7a4_16 (by decide) ?_
  refine lv_iushr hx hb dJ6_bitCount_0f7a4_17 rfl ?_
  refine lv_topi (fun x17 e17 => ?_)
  refine lv_ldcw hx hb hown (hts _ kc_J6_266) dJ6_bitCount_0f7a4_18 ?_
  refine lv_iand hx hb dJ6_bitCount_0f7a4_21 ?_
  refine lv_topi (fun x21 e21 => ?_)
  refine lv_iadd hx hb dJ6_bitCount_0f7a4_22 ?_
  refine lv_topi (fun x22 e22 => ?_)
  refine lv_istore_n (lv' := [(0, .int x22)]) hx hb dJ6_bitCount_0f7a4_23 rfl hl (by decide) rfl (fun ls hl => ?_)
  refine lv_iload_n hx hb dJ6_bitCount_0f7a4_24 rfl (lv_at hl 0 rfl) ?_
  refine lv_iload_n hx hb dJ6_bitCount_0f7a4_25 rfl (lv_at hl 0 rfl) ?_
  refine lv_iconst (v := 4) hx hb dJ6_bitCount_0f7a4_26 (by decide) ?_
  refine lv_iushr hx hb dJ6_bitCount_0f7a4_27 rfl ?_
  refine lv_topi (fun x27 e27 => ?_)
  refine lv_iadd hx hb dJ6_bitCount_0f7a4_28 ?_
  refine lv_topi (fun x28 e28 => ?_)
  refine lv_ldcw hx hb hown (hts _ kc_J6_267) dJ6_bitCount_0f7a4_29 ?_
  refine lv_iand hx hb dJ6_bitCount_0f7a4_32 ?_
  refine lv_topi (fun x32 e32 => ?_)
  refine lv_istore_n (lv' := [(0, .int x32)]) hx hb dJ6_bitCount_0f7a4_33 rfl hl (by decide) rfl (fun ls hl => ?_)
  refine lv_iload_n hx hb dJ6_bitCount_0f7a4_34 rfl (lv_at hl 0 rfl) ?_
  refine lv_iload_n hx hb dJ6_bitCount_0f7a4_35 rfl (lv_at hl 0 rfl) ?_
  refine lv_bipush (v := 8) hx hb dJ6_bitCount_0f7a4_36 (by decide) ?_
  refine lv_iushr hx hb dJ6_bitCount_0f7a4_38 rfl ?_
  refine lv_topi (fun x38 e38 => ?_)
  refine lv_iadd hx hb dJ6_bitCount_0f7a4_39 ?_
  refine lv_topi (fun x39 e39 => ?_)
  refine lv_istore_n (lv' := [(0, .int x39)]) hx hb dJ6_bitCount_0f7a4_40 rfl hl (by decide) rfl (fun ls hl => ?_)
  refine lv_iload_n hx hb dJ6_bitCount_0f7a4_41 rfl (lv_at hl 0 rfl) ?_
  refine lv_iload_n hx hb dJ6_bitCount_0f7a4_42 rfl (lv_at hl 0 rfl) ?_
  refine lv_bipush (v := 16) hx hb dJ6_bitCount_0f7a4_43 (by decide) ?_
  refine lv_iushr hx hb dJ6_bitCount_0f7a4_45 rfl ?_
  refine lv_topi (fun x45 e45 => ?_)
  refine lv_iadd hx hb dJ6_bitCount_0f7a4_46 ?_
  refine lv_topi (fun x46 e46 => ?_)
  refine lv_istore_n (lv' := [(0, .int x46)]) hx hb dJ6_bitCount_0f7a4_47 rfl hl (by decide) rfl (fun ls hl => ?_)
  refine lv_iload_n hx hb dJ6_bitCount_0f7a4_48 rfl (lv_at hl 0 rfl) ?_
  refine lv_bipush (v := 63) hx hb dJ6_bitCount_0f7a4_49 (by decide) ?_
  refine lv_iand hx hb dJ6_bitCount_0f7a4_51 ?_
  refine lv_topi (fun x51 e51 => ?_)
  exact srI G X (rfl) dJ6_bitCount_0f7a4_52 (by exact ⟨fun h => by subst h; simp only [*]; decide, rfl⟩)
def q_rowFull (V : sV) (r n : Nat) : Int32 → sV → Prop := fun x V1 => ((x.toInt = 1 ∧ (n : Int) ≤ (V r 1).toInt) ∨ (x.toInt = 0 ∧ (V r 1).toInt < n)) ∧ V1 = V
set_option maxRecDepth 100000 in
set_option maxHeartbeats 4000000 in
theorem k_rowFull {l : Launch} {D : va_G} {cI : ClassId} {a : Nat → Nat} (ha : sInj SX a) (V : sV) (r r1 n : Nat) (hr0 : SX[r]? = some (.inr (4, [some r1, none]))) (h1 : SX[r1]? = some (.inl n)) (hn : n < 2147483648) (hrr : r ≠ r1) : sMI l D cI SX a V yX4_isFull cX4_isFull 1 .boolean 0 [.ref (a r)] (q_rowFull V r n) := by
  refine sMIof ha (by decide +kernel) (Nat.le_of_ble_eq_true rfl) ?_
  intro p e s m below meth c ls G X hl
  obtain ⟨hx, hb, hml, hown, hts, hlocks, hr, hK⟩ := id G
  have hl : lv_has ls 1 [(0, .ref (a r))] := hl
  refine lv_aload_n hx hb dX4_isFull_0 rfl (lv_at hl 0 rfl) ?_
  refine sgI G X r 1 hr0 rfl fl_X4_19 dX4_isFull_1 ?_
  refine lv_aload_n hx hb dX4_isFull_4 rfl (lv_at hl 0 rfl) ?_
  refine sgR G X r 0 hr0 rfl fl_X4_13 dX4_isFull_5 ?_
  refine sln G X r1 h1 dX4_isFull_8 ?_
  refine sIlt (tgt := 16) hx hb (rfl : Int32.toInt (V r 1) = _) (rfl : Int32.toInt (nI n) = _) dX4_isFull_9 (by decide) (fun c9 => ?_) (fun c9 => ?_)
  · skip
    rw [nI_toInt hn] at c9
    refine lv_iconst (v := 0) hx hb dX4_isFull_16 (by decide) ?_
    exact srI G X (rfl) dX4_isFull_17 (by first | exact ⟨Or.inl ⟨rfl, c9⟩, rfl⟩ | exact ⟨Or.inr ⟨rfl, c9⟩, rfl⟩)
  · skip
    rw [nI_toInt hn] at c9
    refine lv_iconst (v := 1) hx hb dX4_isFull_12 (by decide) ?_
    refine lv_goto (tgt := 17) hx hb dX4_isFull_13 (by decide) ?_
    exact srI G X (rfl) dX4_isFull_17 (by first | exact ⟨Or.inl ⟨rfl, c9⟩, rfl⟩ | exact ⟨Or.inr ⟨rfl, c9⟩, rfl⟩)
def q_rowAdd (V : sV) (r r1 n : Nat) : sV → Prop := fun V1 => sAg [r, r1] V V1 ∧ ((V r 1).toInt < n → V1 r 1 = V r 1 + 1)
set_option maxRecDepth 100000 in
set_option maxHeartbeats 4000000 in
theorem k_rowAdd {l : Launch} {D : va_G} {cI : ClassId} {a : Nat → Nat} (ha : sInj SX a) (V : sV) (r r1 n : Nat) (hr0 : SX[r]? = some (.inr (4, [some r1, none]))) (h1 : SX[r1]? = some (.inl n)) (hn : n < 2147483648) (hrr : r ≠ r1) (v : Int32) : sMV l D cI SX a V yX4_add cX4_add 2 1 [.ref (a r), .int v] (q_rowAdd V r r1 n) := by
  refine sMVof ha (by decide +kernel) (Nat.le_of_ble_eq_true rfl) ?_
  intro p e s m below meth c ls G X hl
  obtain ⟨hx, hb, hml, hown, hts, hlocks, hr, hK⟩ := id G
  have hl : lv_has ls 2 [(0, .ref (a r)), (1, .int v)] := hl
  refine lv_aload_n hx hb dX4_add_0 rfl (lv_at hl 0 rfl) ?_
  refine scI (ci := 4) (As := []) (rest := []) G X (k_rowFull ha V r r1 n hr0 h1 (by first | decide | assumption) (by first | decide | assumption)) iy_X4_isFull ml_X4_23 rfl hr0 rfl rfl hl.1 (by decide) (by decide) (Nat.le_of_ble_eq_true rfl) dX4_add_1 (fun y1 V1 H locs p1 X => ?_)
  obtain ⟨p1, z1⟩ := p1
  subst V1
  refine sZne (tgt := 29) hx hb (rfl : Int32.toInt y1 = _) dX4_add_4 (by decide) (fun c4 => ?_) (fun c4 => ?_)
  · skip
    exact srV G X dX4_add_29 (by first | exact ⟨sAg.rf, fun h => by omega⟩ | exact ⟨by rw [show V16 = _ from p16]; exact (sAg.rf.up (by simp)).up (by simp), fun h => by rw [sUp_s, er]; show x25 = _; rw [e25, er]⟩)
  · skip
    refine lv_aload_n hx hb dX4_add_7 rfl (lv_at hl 0 rfl) ?_
    refine sgR G X r 0 hr0 rfl fl_X4_13 dX4_add_8 ?_
    refine lv_aload_n hx hb dX4_add_11 rfl (lv_at hl 0 rfl) ?_
    refine sgI G X r 1 hr0 rfl fl_X4_19 dX4_add_12 ?_
    refine lv_iload_n hx hb dX4_add_15 rfl (lv_at hl 1 rfl) ?_
    refine scSV (As := [.ref (a r1), .int (V r 1), .int v]) (rest := []) G X (k_put ha V r1 n h1 (by first | decide | assumption) (V r 1) v) iy_X5_put ml_X4_27 rfl rfl hl.1 (by decide) (by decide) (Nat.le_of_ble_eq_true rfl) dX4_add_16 (fun V16 H locs p16 X => ?_)
    have er : V16 r = V r := by rw [p16]; exact sUp_n _ _ hrr
    refine lv_aload_n hx hb dX4_add_19 rfl (lv_at hl 0 rfl) ?_
    refine lv_dup hx hb dX4_add_20 rfl ?_
    refine sgI G X r 1 hr0 rfl fl_X4_19 dX4_add_21 ?_
    refine lv_iconst (v := 1) hx hb dX4_add_24 (by decide) ?_
    refine lv_iadd hx hb dX4_add_25 ?_
    refine lv_topi (fun x25 e25 => ?_)
    refine spI G X r 1 hr0 rfl fp_X4_19 dX4_add_26 (fun H locs X => ?_)
    exact srV G X dX4_add_29 (by first | exact ⟨sAg.rf, fun h => by omega⟩ | exact ⟨by rw [show V16 = _ from p16]; exact (sAg.rf.up (by simp)).up (by simp), fun h => by rw [sUp_s, er]; show x25 = _; rw [e25, er]⟩)
def q_rowGet (V : sV) (r r1 n : Nat) (i : Int32) : Int32 → sV → Prop := fun x V1 => ((i.toInt < (V r 1).toInt → x = rAt n (V r1) i) ∧ ((V r 1).toInt ≤ i.toInt → x = -1)) ∧ V1 = V
set_option maxRecDepth 100000 in
set_option maxHeartbeats 4000000 in
theorem k_rowGet {l : Launch} {D : va_G} {cI : ClassId} {a : Nat → Nat} (ha : sInj SX a) (V : sV) (r r1 n : Nat) (hr0 : SX[r]? = some (.inr (4, [some r1, none]))) (h1 : SX[r1]? = some (.inl n)) (hn : n < 2147483648) (hrr : r ≠ r1) (i : Int32) : sMI l D cI SX a V yX4_get cX4_get 2 .int 1 [.ref (a r), .int i] (q_rowGet V r r1 n i) := by
  refine sMIof ha (by decide +kernel) (Nat.le_of_ble_eq_true rfl) ?_
  intro p e s m below meth c ls G X hl
  obtain ⟨hx, hb, hml, hown, hts, hlocks, hr, hK⟩ := id G
  have hl : lv_has ls 2 [(0, .ref (a r)), (1, .int i)] := hl
  refine lv_iload_n hx hb dX4_get_0 rfl (lv_at hl 1 rfl) ?_
  refine lv_aload_n hx hb dX4_get_1 rfl (lv_at hl 0 rfl) ?_
  refine sgI G X r 1 hr0 rfl fl_X4_19 dX4_get_2 ?_
  refine sIge (tgt := 19) hx hb (rfl : Int32.toInt i = _) (rfl : Int32.toInt (V r 1) = _) dX4_get_5 (by decide) (fun c5 => ?_) (fun c5 => ?_)
  · skip
    refine lv_iconst (v := (-1)) hx hb dX4_get_19 (by decide) ?_
    exact srI G X (rfl) dX4_get_20 (by first | exact ⟨⟨fun _ => p13, fun h => by omega⟩, rfl⟩ | exact ⟨⟨fun h => by omega, fun _ => rfl⟩, rfl⟩)
  · skip
    refine lv_aload_n hx hb dX4_get_8 rfl (lv_at hl 0 rfl) ?_
    refine sgR G X r 0 hr0 rfl fl_X4_13 dX4_get_9 ?_
    refine lv_iload_n hx hb dX4_get_12 rfl (lv_at hl 1 rfl) ?_
    refine scSI (As := [.ref (a r1), .int i]) (rest := []) G X (k_at ha V r1 n h1 (by first | decide | assumption) i) iy_X5_at ml_X4_33 rfl rfl hl.1 (by decide) (by decide) (Nat.le_of_ble_eq_true rfl) dX4_get_13 (fun y13 V13 H locs p13 X => ?_)
    obtain ⟨p13, z13⟩ := p13
    subst V13
    refine lv_goto (tgt := 20) hx hb dX4_get_16 (by decide) ?_
    exact srI G X (rfl) dX4_get_20 (by first | exact ⟨⟨fun _ => p13, fun h => by omega⟩, rfl⟩ | exact ⟨⟨fun h => by omega, fun _ => rfl⟩, rfl⟩)
def q_rowClear (V : sV) (r : Nat) : sV → Prop := fun V1 => V1 = sUp V r (upd (V r) 1 0)
set_option maxRecDepth 100000 in
set_option maxHeartbeats 4000000 in
theorem k_rowClear {l : Launch} {D : va_G} {cI : ClassId} {a : Nat → Nat} (ha : sInj SX a) (V : sV) (r r1 n : Nat) (hr0 : SX[r]? = some (.inr (4, [some r1, none]))) (h1 : SX[r1]? = some (.inl n)) (hn : n < 2147483648) (hrr : r ≠ r1) : sMV l D cI SX a V yX4_clear cX4_clear 1 0 [.ref (a r)] (q_rowClear V r) := by
  refine sMVof ha (by decide +kernel) (Nat.le_of_ble_eq_true rfl) ?_
  intro p e s m below meth c ls G X hl
  obtain ⟨hx, hb, hml, hown, hts, hlocks, hr, hK⟩ := id G
  have hl : lv_has ls 1 [(0, .ref (a r))] := hl
  refine lv_aload_n hx hb dX4_clear_0 rfl (lv_at hl 0 rfl) ?_
  refine lv_iconst (v := 0) hx hb dX4_clear_1 (by decide) ?_
  refine spI G X r 1 hr0 rfl fp_X4_19 dX4_clear_2 (fun H locs X => ?_)
  exact srV G X dX4_clear_5 (by rfl)
def q_rowBecome (V : sV) (r r1 : Nat) : sV → Prop := fun V1 => sAg [r, r1] V V1
set_option maxRecDepth 100000 in
set_option maxHeartbeats 4000000 in
theorem k_rowBecome {l : Launch} {D : va_G} {cI : ClassId} {a : Nat → Nat} (ha : sInj SX a) (V : sV) (r r1 n : Nat) (hr0 : SX[r]? = some (.inr (4, [some r1, none]))) (h1 : SX[r1]? = some (.inl n)) (hn : n < 2147483648) (hrr : r ≠ r1) (o o1 : Nat) (ho : SX[o]? = some (.inr (4, [some o1, none]))) (ho1 : SX[o1]? = some (.inl n)) (hoo : o1 ≠ r1) : sMV l D cI SX a V yX4_become cX4_become 2 1 [.ref (a r), .ref (a o)] (q_rowBecome V r r1) := by
  refine sMVof ha (by decide +kernel) (Nat.le_of_ble_eq_true rfl) ?_
  intro p e s m below meth c ls G X hl
  obtain ⟨hx, hb, hml, hown, hts, hlocks, hr, hK⟩ := id G
  have hl : lv_has ls 2 [(0, .ref (a r)), (1, .ref (a o))] := hl
  refine lv_aload_n hx hb dX4_become_0 rfl (lv_at hl 1 rfl) ?_
  refine sgR G X o 0 ho rfl fl_X4_13 dX4_become_1 ?_
  refine lv_aload_n hx hb dX4_become_4 rfl (lv_at hl 0 rfl) ?_
  refine sgR G X r 0 hr0 rfl fl_X4_13 dX4_become_5 ?_
  refine scSV (As := [.ref (a o1), .ref (a r1)]) (rest := []) G X (k_copy ha V o1 r1 n ho1 h1 (by first | decide | assumption) (by first | decide | assumption)) iy_X5_copy ml_X4_37 rfl rfl hl.1 (by decide) (by decide) (Nat.le_of_ble_eq_true rfl) dX4_become_8 (fun V8 H locs p8 X => ?_)
  refine lv_aload_n hx hb dX4_become_11 rfl (lv_at hl 0 rfl) ?_
  refine lv_aload_n hx hb dX4_become_12 rfl (lv_at hl 1 rfl) ?_
  refine sgI G X o 1 ho rfl fl_X4_19 dX4_become_13 ?_
  refine spI G X r 1 hr0 rfl fp_X4_19 dX4_become_16 (fun H locs X => ?_)
  exact srV G X dX4_become_19 (by obtain ⟨f, e8, -⟩ := p8; rw [e8]; exact (sAg.rf.up (by simp)).up (by simp))
def q_airBecome (V : sV) (r : Nat) (i1 i2 i3 i4 : Int32) : sV → Prop := fun V1 => sAg [r] V V1 ∧ V1 r 0 = i1 ∧ V1 r 1 = i2 ∧ V1 r 2 = i3 ∧ V1 r 3 = i4
set_option maxRecDepth 100000 in
set_option maxHeartbeats 4000000 in
theorem k_airBecome {l : Launch} {D : va_G} {cI : ClassId} {a : Nat → Nat} (ha : sInj SX a) (V : sV) (r : Nat) (hr0 : SX[r]? = some (.inr (0, [none, none, none, none]))) (i1 i2 i3 i4 : Int32) : sMV l D cI SX a V yX0_become cX0_become 5 0 [.ref (a r), .int i1, .int i2, .int i3, .int i4] (q_airBecome V r i1 i2 i3 i4) := by
  refine sMVof ha (by decide +kernel) (Nat.le_of_ble_eq_true rfl) ?_
  intro p e s m below meth c ls G X hl
  obtain ⟨hx, hb, hml, hown, hts, hlocks, hr, hK⟩ := id G
  have hl : lv_has ls 5 [(0, .ref (a r)), (1, .int i1), (2, .int i2), (3, .int i3), (4, .int i4)] := hl
  refine lv_aload_n hx hb dX0_become_0 rfl (lv_at hl 0 rfl) ?_
  refine lv_iload_n hx hb dX0_become_1 rfl (lv_at hl 1 rfl) ?_
  refine spI G X r 0 hr0 rfl fp_X0_7 dX0_become_2 (fun H locs X => ?_)
  refine lv_aload_n hx hb dX0_become_5 rfl (lv_at hl 0 rfl) ?_
  refine lv_iload_n hx hb dX0_become_6 rfl (lv_at hl 2 rfl) ?_
  refine spI G X r 1 hr0 rfl fp_X0_13 dX0_become_7 (fun H locs X => ?_)
  refine lv_aload_n hx hb dX0_become_10 rfl (lv_at hl 0 rfl) ?_
  refine lv_iload_n hx hb dX0_become_11 rfl (lv_at hl 3 rfl) ?_
  refine spI G X r 2 hr0 rfl fp_X0_16 dX0_become_12 (fun H locs X => ?_)
  refine lv_aload_n hx hb dX0_become_15 rfl (lv_at hl 0 rfl) ?_
  refine lv_iload hx hb dX0_become_16 (lv_at hl 4 rfl) ?_
  refine spI G X r 3 hr0 rfl fp_X0_19 dX0_become_18 (fun H locs X => ?_)
  exact srV G X dX0_become_21 (by exact ⟨(((sAg.rf.up (by simp)).up (by simp)).up (by simp)).up (by simp), by simp [sUp_s, upd], by simp [sUp_s, upd], by simp [sUp_s, upd], by simp [sUp_s, upd]⟩)
def q_windAt (V : sV) (r : Nat) : Int32 → sV → Prop := fun x V1 => (V r 1 = 0 → x = 0) ∧ V1 = V
set_option maxRecDepth 100000 in
set_option maxHeartbeats 4000000 in
theorem k_windAt {l : Launch} {D : va_G} {cI : ClassId} {a : Nat → Nat} (ha : sInj SX a) (V : sV) (r : Nat) (hr0 : SX[r]? = some (.inr (0, [none, none, none, none]))) (i : Int32) : sMI l D cI SX a V yX0_windAt cX0_windAt 2 .int 0 [.ref (a r), .int i] (q_windAt V r) := by
  refine sMIof ha (by decide +kernel) (Nat.le_of_ble_eq_true rfl) ?_
  intro p e s m below meth c ls G X hl
  obtain ⟨hx, hb, hml, hown, hts, hlocks, hr, hK⟩ := id G
  have hl : lv_has ls 2 [(0, .ref (a r)), (1, .int i)] := hl
  refine lv_iload_n hx hb dX0_windAt_0 rfl (lv_at hl 1 rfl) ?_
  refine lv_aload_n hx hb dX0_windAt_1 rfl (lv_at hl 0 rfl) ?_
  refine sgI G X r 2 hr0 rfl fl_X0_16 dX0_windAt_2 ?_
  refine sIne (tgt := 18) hx hb (rfl : Int32.toInt i = _) (rfl : Int32.toInt (V r 2) = _) dX0_windAt_5 (by decide) (fun c5 => ?_) (fun c5 => ?_)
  · skip
    refine lv_iload_n hx hb dX0_windAt_18 rfl (lv_at hl 1 rfl) ?_
    refine lv_aload_n hx hb dX0_windAt_19 rfl (lv_at hl 0 rfl) ?_
    refine sgI G X r 2 hr0 rfl fl_X0_16 dX0_windAt_20 ?_
    refine lv_iconst (v := 2) hx hb dX0_windAt_23 (by decide) ?_
    refine lv_iadd hx hb dX0_windAt_24 ?_
    refine lv_topi (fun x24 e24 => ?_)
    refine lv_iconst (v := 3) hx hb dX0_windAt_25 (by decide) ?_
    refine lv_iand hx hb dX0_windAt_26 ?_
    refine lv_topi (fun x26 e26 => ?_)
    refine sIne (tgt := 45) hx hb (rfl : Int32.toInt i = _) (rfl : Int32.toInt x26 = _) dX0_windAt_27 (by decide) (fun c27 => ?_) (fun c27 => ?_)
    · skip
      refine lv_iconst (v := 0) hx hb dX0_windAt_45 (by decide) ?_
      exact srI G X (rfl) dX0_windAt_46 (by exact ⟨fun h => by first | rfl | (rw [e16, h]; rfl) | (rw [e41, e40, e38, h]; decide), rfl⟩)
    · skip
      refine lv_aload_n hx hb dX0_windAt_30 rfl (lv_at hl 0 rfl) ?_
      refine sgI G X r 1 hr0 rfl fl_X0_13 dX0_windAt_31 ?_
      refine lv_aload_n hx hb dX0_windAt_34 rfl (lv_at hl 0 rfl) ?_
      refine sgI G X r 1 hr0 rfl fl_X0_13 dX0_windAt_35 ?_
      refine lv_imul hx hb dX0_windAt_38 ?_
      refine lv_topi (fun x38 e38 => ?_)
      refine lv_iconst (v := 2) hx hb dX0_windAt_39 (by decide) ?_
      refine lv_idiv hx hb dX0_windAt_40 (by decide) ?_
      refine lv_topi (fun x40 e40 => ?_)
      refine lv_ineg hx hb dX0_windAt_41 ?_
      refine lv_topi (fun x41 e41 => ?_)
      refine lv_goto (tgt := 46) hx hb dX0_windAt_42 (by decide) ?_
      exact srI G X (rfl) dX0_windAt_46 (by exact ⟨fun h => by first | rfl | (rw [e16, h]; rfl) | (rw [e41, e40, e38, h]; decide), rfl⟩)
  · skip
    refine lv_aload_n hx hb dX0_windAt_8 rfl (lv_at hl 0 rfl) ?_
    refine sgI G X r 1 hr0 rfl fl_X0_13 dX0_windAt_9 ?_
    refine lv_aload_n hx hb dX0_windAt_12 rfl (lv_at hl 0 rfl) ?_
    refine sgI G X r 1 hr0 rfl fl_X0_13 dX0_windAt_13 ?_
    refine lv_imul hx hb dX0_windAt_16 ?_
    refine lv_topi (fun x16 e16 => ?_)
    exact srI G X (rfl) dX0_windAt_17 (by exact ⟨fun h => by first | rfl | (rw [e16, h]; rfl) | (rw [e41, e40, e38, h]; decide), rfl⟩)
def q_wFull (V : sV) (r : Nat) : Int32 → sV → Prop := fun x V1 => ((x.toInt = 1 ∧ 4 ≤ (V r 3).toInt) ∨ (x.toInt = 0 ∧ (V r 3).toInt < 4)) ∧ V1 = V
set_option maxRecDepth 100000 in
set_option maxHeartbeats 4000000 in
theorem k_wFull {l : Launch} {D : va_G} {cI : ClassId} {a : Nat → Nat} (ha : sInj SX a) (V : sV) (r r1 r2 r3 : Nat) (hr0 : SX[r]? = some (.inr (7, [some r1, some r2, some r3, none]))) (h1 : SX[r1]? = some (.inl 4)) (h2 : SX[r2]? = some (.inl 4)) (h3 : SX[r3]? = some (.inl 4)) : sMI l D cI SX a V yX8_isFull cX8_isFull 1 .boolean 0 [.ref (a r)] (q_wFull V r) := by
  refine sMIof ha (by decide +kernel) (Nat.le_of_ble_eq_true rfl) ?_
  intro p e s m below meth c ls G X hl
  obtain ⟨hx, hb, hml, hown, hts, hlocks, hr, hK⟩ := id G
  have hl : lv_has ls 1 [(0, .ref (a r))] := hl
  refine lv_aload_n hx hb dX8_isFull_0 rfl (lv_at hl 0 rfl) ?_
  refine sgI G X r 3 hr0 rfl fl_X8_21 dX8_isFull_1 ?_
  refine lv_iconst (v := 4) hx hb dX8_isFull_4 (by decide) ?_
  refine sIlt (tgt := 12) hx hb (rfl : Int32.toInt (V r 3) = _) (by decide : (4 : Int32).toInt = 4) dX8_isFull_5 (by decide) (fun c5 => ?_) (fun c5 => ?_)
  · skip
    refine lv_iconst (v := 0) hx hb dX8_isFull_12 (by decide) ?_
    exact srI G X (rfl) dX8_isFull_13 (by first | exact ⟨Or.inl ⟨rfl, c5⟩, rfl⟩ | exact ⟨Or.inr ⟨rfl, c5⟩, rfl⟩)
  · skip
    refine lv_iconst (v := 1) hx hb dX8_isFull_8 (by decide) ?_
    refine lv_goto (tgt := 13) hx hb dX8_isFull_9 (by decide) ?_
    exact srI G X (rfl) dX8_isFull_13 (by first | exact ⟨Or.inl ⟨rfl, c5⟩, rfl⟩ | exact ⟨Or.inr ⟨rfl, c5⟩, rfl⟩)
def q_wAdd (V : sV) (r r1 r2 r3 : Nat) : sV → Prop := fun V1 => sAg [r, r1, r2, r3] V V1
set_option maxRecDepth 100000 in
set_option maxHeartbeats 4000000 in
theorem k_wAdd {l : Launch} {D : va_G} {cI : ClassId} {a : Nat → Nat} (ha : sInj SX a) (V : sV) (r r1 r2 r3 : Nat) (hr0 : SX[r]? = some (.inr (7, [some r1, some r2, some r3, none]))) (h1 : SX[r1]? = some (.inl 4)) (h2 : SX[r2]? = some (.inl 4)) (h3 : SX[r3]? = some (.inl 4)) (i1 i2 i3 : Int32) : sMV l D cI SX a V yX8_add cX8_add 4 1 [.ref (a r), .int i1, .int i2, .int i3] (q_wAdd V r r1 r2 r3) := by
  refine sMVof ha (by decide +kernel) (Nat.le_of_ble_eq_true rfl) ?_
  intro p e s m below meth c ls G X hl
  obtain ⟨hx, hb, hml, hown, hts, hlocks, hr, hK⟩ := id G
  have hl : lv_has ls 4 [(0, .ref (a r)), (1, .int i1), (2, .int i2), (3, .int i3)] := hl
  refine lv_aload_n hx hb dX8_add_0 rfl (lv_at hl 0 rfl) ?_
  refine scI (ci := 7) (As := []) (rest := []) G X (k_wFull ha V r r1 r2 r3 hr0 h1 h2 h3) iy_X8_isFull ml_X8_25 rfl hr0 rfl rfl hl.1 (by decide) (by decide) (Nat.le_of_ble_eq_true rfl) dX8_add_1 (fun y1 V1 H locs p1 X => ?_)
  obtain ⟨p1, z1⟩ := p1
  subst V1
  refine sZne (tgt := 53) hx hb (rfl : Int32.toInt y1 = _) dX8_add_4 (by decide) (fun c4 => ?_) (fun c4 => ?_)
  · skip
    exact srV G X dX8_add_53 (by first | exact sAg.rf | (rw [show V40 = _ from p40, show V28 = _ from p28, show V16 = _ from p16]; exact (((sAg.rf.up (by simp)).up (by simp)).up (by simp)).up (by simp)))
  · skip
    refine lv_aload_n hx hb dX8_add_7 rfl (lv_at hl 0 rfl) ?_
    refine sgR G X r 0 hr0 rfl fl_X8_9 dX8_add_8 ?_
    refine lv_aload_n hx hb dX8_add_11 rfl (lv_at hl 0 rfl) ?_
    refine sgI G X r 3 hr0 rfl fl_X8_21 dX8_add_12 ?_
    refine lv_iload_n hx hb dX8_add_15 rfl (lv_at hl 1 rfl) ?_
    refine scSV (As := [.ref (a r1), .int (V r 3), .int i1]) (rest := []) G X (k_put ha V r1 4 h1 (by first | decide | assumption) (V r 3) i1) iy_X5_put ml_X8_29 rfl rfl hl.1 (by decide) (by decide) (Nat.le_of_ble_eq_true rfl) dX8_add_16 (fun V16 H locs p16 X => ?_)
    refine lv_aload_n hx hb dX8_add_19 rfl (lv_at hl 0 rfl) ?_
    refine sgR G X r 1 hr0 rfl fl_X8_15 dX8_add_20 ?_
    refine lv_aload_n hx hb dX8_add_23 rfl (lv_at hl 0 rfl) ?_
    refine sgI G X r 3 hr0 rfl fl_X8_21 dX8_add_24 ?_
    refine lv_iload_n hx hb dX8_add_27 rfl (lv_at hl 2 rfl) ?_
    refine scSV (As := [.ref (a r2), .int (V16 r 3), .int i2]) (rest := []) G X (k_put ha V16 r2 4 h2 (by first | decide | assumption) (V16 r 3) i2) iy_X5_put ml_X8_29 rfl rfl hl.1 (by decide) (by decide) (Nat.le_of_ble_eq_true rfl) dX8_add_28 (fun V28 H locs p28 X => ?_)
    refine lv_aload_n hx hb dX8_add_31 rfl (lv_at hl 0 rfl) ?_
    refine sgR G X r 2 hr0 rfl fl_X8_18 dX8_add_32 ?_
    refine lv_aload_n hx hb dX8_add_35 rfl (lv_at hl 0 rfl) ?_
    refine sgI G X r 3 hr0 rfl fl_X8_21 dX8_add_36 ?_
    refine lv_iload_n hx hb dX8_add_39 rfl (lv_at hl 3 rfl) ?_
    refine scSV (As := [.ref (a r3), .int (V28 r 3), .int i3]) (rest := []) G X (k_put ha V28 r3 4 h3 (by first | decide | assumption) (V28 r 3) i3) iy_X5_put ml_X8_29 rfl rfl hl.1 (by decide) (by decide) (Nat.le_of_ble_eq_true rfl) dX8_add_40 (fun V40 H locs p40 X => ?_)
    refine lv_aload_n hx hb dX8_add_43 rfl (lv_at hl 0 rfl) ?_
    refine lv_dup hx hb dX8_add_44 rfl ?_
    refine sgI G X r 3 hr0 rfl fl_X8_21 dX8_add_45 ?_
    refine lv_iconst (v := 1) hx hb dX8_add_48 (by decide) ?_
    refine lv_iadd hx hb dX8_add_49 ?_
    refine lv_topi (fun x49 e49 => ?_)
    refine spI G X r 3 hr0 rfl fp_X8_21 dX8_add_50 (fun H locs X => ?_)
    exact srV G X dX8_add_53 (by first | exact sAg.rf | (rw [show V40 = _ from p40, show V28 = _ from p28, show V16 = _ from p16]; exact (((sAg.rf.up (by simp)).up (by simp)).up (by simp)).up (by simp)))
def q_wBecome (V : sV) (r r1 r2 r3 : Nat) : sV → Prop := fun V1 => sAg [r, r1, r2, r3] V V1
set_option maxRecDepth 100000 in
set_option maxHeartbeats 4000000 in
theorem k_wBecome {l : Launch} {D : va_G} {cI : ClassId} {a : Nat → Nat} (ha : sInj SX a) (V : sV) (r r1 r2 r3 : Nat) (hr0 : SX[r]? = some (.inr (7, [some r1, some r2, some r3, none]))) (h1 : SX[r1]? = some (.inl 4)) (h2 : SX[r2]? = some (.inl 4)) (h3 : SX[r3]? = some (.inl 4)) (o o1 o2 o3 : Nat) (ho0 : SX[o]? = some (.inr (7, [some o1, some o2, some o3, none]))) (ho1 : SX[o1]? = some (.inl 4)) (ho2 : SX[o2]? = some (.inl 4)) (ho3 : SX[o3]? = some (.inl 4)) (n1 : o1 ≠ r1) (n2 : o2 ≠ r2) (n3 : o3 ≠ r3) : sMV l D cI SX a V yX8_become cX8_become 2 1 [.ref (a r), .ref (a o)] (q_wBecome V r r1 r2 r3) := by
  refine sMVof ha (by decide +kernel) (Nat.le_of_ble_eq_true rfl) ?_
  intro p e s m below meth c ls G X hl
  obtain ⟨hx, hb, hml, hown, hts, hlocks, hr, hK⟩ := id G
  have hl : lv_has ls 2 [(0, .ref (a r)), (1, .ref (a o))] := hl
  refine lv_aload_n hx hb dX8_become_0 rfl (lv_at hl 1 rfl) ?_
  refine sgR G X o 0 ho0 rfl fl_X8_9 dX8_become_1 ?_
  refine lv_aload_n hx hb dX8_become_4 rfl (lv_at hl 0 rfl) ?_
  refine sgR G X r 0 hr0 rfl fl_X8_9 dX8_become_5 ?_
  refine scSV (As := [.ref (a o1), .ref (a r1)]) (rest := []) G X (k_copy ha V o1 r1 4 ho1 h1 (by first | decide | assumption) (by first | decide | assumption)) iy_X5_copy ml_X8_35 rfl rfl hl.1 (by decide) (by decide) (Nat.le_of_ble_eq_true rfl) dX8_become_8 (fun V8 H locs p8 X => ?_)
  refine lv_aload_n hx hb dX8_become_11 rfl (lv_at hl 1 rfl) ?_
  refine sgR G X o 1 ho0 rfl fl_X8_15 dX8_become_12 ?_
  refine lv_aload_n hx hb dX8_become_15 rfl (lv_at hl 0 rfl) ?_
  refine sgR G X r 1 hr0 rfl fl_X8_15 dX8_become_16 ?_
  refine scSV (As := [.ref (a o2), .ref (a r2)]) (rest := []) G X (k_copy ha V8 o2 r2 4 ho2 h2 (by first | decide | assumption) (by first | decide | assumption)) iy_X5_copy ml_X8_35 rfl rfl hl.1 (by decide) (by decide) (Nat.le_of_ble_eq_true rfl) dX8_become_19 (fun V19 H locs p19 X => ?_)
  refine lv_aload_n hx hb dX8_become_22 rfl (lv_at hl 1 rfl) ?_
  refine sgR G X o 2 ho0 rfl fl_X8_18 dX8_become_23 ?_
  refine lv_aload_n hx hb dX8_become_26 rfl (lv_at hl 0 rfl) ?_
  refine sgR G X r 2 hr0 rfl fl_X8_18 dX8_become_27 ?_
  refine scSV (As := [.ref (a o3), .ref (a r3)]) (rest := []) G X (k_copy ha V19 o3 r3 4 ho3 h3 (by first | decide | assumption) (by first | decide | assumption)) iy_X5_copy ml_X8_35 rfl rfl hl.1 (by decide) (by decide) (Nat.le_of_ble_eq_true rfl) dX8_become_30 (fun V30 H locs p30 X => ?_)
  refine lv_aload_n hx hb dX8_become_33 rfl (lv_at hl 0 rfl) ?_
  refine lv_aload_n hx hb dX8_become_34 rfl (lv_at hl 1 rfl) ?_
  refine sgI G X o 3 ho0 rfl fl_X8_21 dX8_become_35 ?_
  refine spI G X r 3 hr0 rfl fp_X8_21 dX8_become_38 (fun H locs X => ?_)
  exact srV G X dX8_become_41 (by obtain ⟨f8, e8, -⟩ := p8; obtain ⟨f19, e19, -⟩ := p19; obtain ⟨f30, e30, -⟩ := p30; rw [e30, e19, e8]; exact (((sAg.rf.up (by simp)).up (by simp)).up (by simp)).up (by simp))
