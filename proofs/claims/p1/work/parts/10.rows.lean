def SX : List sSh := [.inr (8, [some 2, some 20, none, some 38, some 46, some 49, some 50, some 1]), .inl 7, .inr (6, [none, some 3, some 11, some 15, some 16, some 18]), .inr (2, [some 4, some 5, some 6, some 7, some 8, some 9, some 10, none]), .inl 10, .inl 10, .inl 10, .inl 10, .inl 10, .inl 10, .inl 10, .inr (7, [some 12, some 13, some 14, none]), .inl 4, .inl 4, .inl 4, .inr (0, [none, none, none, none]), .inr (4, [some 17, none]), .inl 80, .inr (4, [some 19, none]), .inl 10, .inr (6, [none, some 21, some 29, some 33, some 34, some 36]), .inr (2, [some 22, some 23, some 24, some 25, some 26, some 27, some 28, none]), .inl 10, .inl 10, .inl 10, .inl 10, .inl 10, .inl 10, .inl 10, .inr (7, [some 30, some 31, some 32, none]), .inl 4, .inl 4, .inl 4, .inr (0, [none, none, none, none]), .inr (4, [some 35, none]), .inl 80, .inr (4, [some 37, none]), .inl 10, .inr (1, [some 2, some 39, some 40, some 41, some 42, some 43, some 44, some 45]), .inl 10, .inl 10, .inl 10, .inl 10, .inl 6, .inl 6, .inl 1201, .inr (3, [some 2, some 47, none, none]), .inr (4, [some 48, none]), .inl 6, .inr (5, [none]), .inr (0, [none, none, none, none])]
theorem sUp_id {V : sV} {k : Nat} : sUp V k (V k) = V := by
  funext i
  by_cases h : i = k
  · subst h; exact sUp_s _ _ _
  · exact sUp_n _ _ h
theorem sUp_up {V : sV} {k : Nat} {f g : Nat → Int32} : sUp (sUp V k f) k g = sUp V k g := by
  funext i
  by_cases h : i = k
  · subst h; rw [sUp_s, sUp_s]
  · rw [sUp_n _ _ h, sUp_n _ _ h, sUp_n _ _ h]
theorem sNar {x : Int32} (h : x.toInt = 0 ∨ x.toInt = 1) : narrow .boolean (.int x) = .int x := by
  rcases h with h | h
  · have e : x = 0 := Int32.toInt_inj.mp h
    subst e; rfl
  · have e : x = 1 := Int32.toInt_inj.mp h
    subst e; rfl
def q_at (V : sV) (k n : Nat) (i : Int32) : Int32 → sV → Prop := fun r V1 => r = rAt n (V k) i ∧ V1 = V
set_option maxRecDepth 100000 in
set_option maxHeartbeats 4000000 in
theorem k_at {l : Launch} {D : va_G} {cI : ClassId} {a : Nat → Nat} (ha : sInj SX a) (V : sV) (k n : Nat) (hk : SX[k]? = some (.inl n)) (hn : n < 2147483648) (i : Int32) : sMI l D cI SX a V yX5_at cX5_at 2 .int 0 [.ref (a k), .int i] (q_at V k n i) := by
  refine sMIof ha (by decide +kernel) (Nat.le_of_ble_eq_true rfl) ?_
  intro p e s m below meth c ls G X hl
  obtain ⟨hx, hb, hml, hown, hts, hlocks, hr, hK⟩ := id G
  have hl : lv_has ls 2 [(0, .ref (a k)), (1, .int i)] := hl
  refine lv_iload_n hx hb dX5_at_0 rfl (lv_at hl 1 rfl) ?_
  refine sZlt (tgt := 16) hx hb (rfl : Int32.toInt i = _) dX5_at_1 (by decide) (fun c1 => ?_) (fun c1 => ?_)
  · skip
    refine lv_iconst (v := 0) hx hb dX5_at_16 (by decide) ?_
    exact srI G X (rfl) dX5_at_17 (by first | exact ⟨by rw [e12, rAt_in c1 c7], rfl⟩ | exact ⟨(rAt_out (Or.inr c7)).symm, rfl⟩ | exact ⟨(rAt_out (Or.inl c1)).symm, rfl⟩)
  · skip
    refine lv_iload_n hx hb dX5_at_4 rfl (lv_at hl 1 rfl) ?_
    refine lv_aload_n hx hb dX5_at_5 rfl (lv_at hl 0 rfl) ?_
    refine sln G X k hk dX5_at_6 ?_
    refine sIge (tgt := 16) hx hb (rfl : Int32.toInt i = _) (rfl : Int32.toInt (nI n) = _) dX5_at_7 (by decide) (fun c7 => ?_) (fun c7 => ?_)
    · skip
      rw [nI_toInt hn] at c7
      refine lv_iconst (v := 0) hx hb dX5_at_16 (by decide) ?_
      exact srI G X (rfl) dX5_at_17 (by first | exact ⟨by rw [e12, rAt_in c1 c7], rfl⟩ | exact ⟨(rAt_out (Or.inr c7)).symm, rfl⟩ | exact ⟨(rAt_out (Or.inl c1)).symm, rfl⟩)
    · skip
      rw [nI_toInt hn] at c7
      refine lv_aload_n hx hb dX5_at_10 rfl (lv_at hl 0 rfl) ?_
      refine lv_iload_n hx hb dX5_at_11 rfl (lv_at hl 1 rfl) ?_
      refine sld G X k hk (i32_in c1 c7) dX5_at_12 ?_
      refine lv_topi (fun x12 e12 => ?_)
      refine lv_goto (tgt := 17) hx hb dX5_at_13 (by decide) ?_
      exact srI G X (rfl) dX5_at_17 (by first | exact ⟨by rw [e12, rAt_in c1 c7], rfl⟩ | exact ⟨(rAt_out (Or.inr c7)).symm, rfl⟩ | exact ⟨(rAt_out (Or.inl c1)).symm, rfl⟩)
def q_put (V : sV) (k n : Nat) (i v : Int32) : sV → Prop := fun V1 => V1 = sUp V k (rPut n (V k) i v)
set_option maxRecDepth 100000 in
set_option maxHeartbeats 4000000 in
theorem k_put {l : Launch} {D : va_G} {cI : ClassId} {a : Nat → Nat} (ha : sInj SX a) (V : sV) (k n : Nat) (hk : SX[k]? = some (.inl n)) (hn : n < 2147483648) (i v : Int32) : sMV l D cI SX a V yX5_put cX5_put 3 0 [.ref (a k), .int i, .int v] (q_put V k n i v) := by
  refine sMVof ha (by decide +kernel) (Nat.le_of_ble_eq_true rfl) ?_
  intro p e s m below meth c ls G X hl
  obtain ⟨hx, hb, hml, hown, hts, hlocks, hr, hK⟩ := id G
  have hl : lv_has ls 3 [(0, .ref (a k)), (1, .int i), (2, .int v)] := hl
  refine lv_iload_n hx hb dX5_put_0 rfl (lv_at hl 1 rfl) ?_
  refine sZlt (tgt := 14) hx hb (rfl : Int32.toInt i = _) dX5_put_1 (by decide) (fun c1 => ?_) (fun c1 => ?_)
  · skip
    exact srV G X dX5_put_14 (by first | exact (by show _ = _; rw [rPut_in c1 c7]) | exact (by show _ = _; rw [rPut_out (Or.inr c7), sUp_id]) | exact (by show _ = _; rw [rPut_out (Or.inl c1), sUp_id]))
  · skip
    refine lv_iload_n hx hb dX5_put_4 rfl (lv_at hl 1 rfl) ?_
    refine lv_aload_n hx hb dX5_put_5 rfl (lv_at hl 0 rfl) ?_
    refine sln G X k hk dX5_put_6 ?_
    refine sIge (tgt := 14) hx hb (rfl : Int32.toInt i = _) (rfl : Int32.toInt (nI n) = _) dX5_put_7 (by decide) (fun c7 => ?_) (fun c7 => ?_)
    · skip
      rw [nI_toInt hn] at c7
      exact srV G X dX5_put_14 (by first | exact (by show _ = _; rw [rPut_in c1 c7]) | exact (by show _ = _; rw [rPut_out (Or.inr c7), sUp_id]) | exact (by show _ = _; rw [rPut_out (Or.inl c1), sUp_id]))
    · skip
      rw [nI_toInt hn] at c7
      refine lv_aload_n hx hb dX5_put_10 rfl (lv_at hl 0 rfl) ?_
      refine lv_iload_n hx hb dX5_put_11 rfl (lv_at hl 1 rfl) ?_
      refine lv_iload_n hx hb dX5_put_12 rfl (lv_at hl 2 rfl) ?_
      refine sst G X k hk (i32_in c1 c7) dX5_put_13 (fun H locs X => ?_)
      exact srV G X dX5_put_14 (by first | exact (by show _ = _; rw [rPut_in c1 c7]) | exact (by show _ = _; rw [rPut_out (Or.inr c7), sUp_id]) | exact (by show _ = _; rw [rPut_out (Or.inl c1), sUp_id]))
def q_copy (V : sV) (k t n : Nat) : sV → Prop := fun V1 => ∃ f : Nat → Int32, V1 = sUp V t f ∧ ∀ j, j < n → f j = V k j
set_option maxRecDepth 100000 in
set_option maxHeartbeats 4000000 in
theorem k_copy {l : Launch} {D : va_G} {cI : ClassId} {a : Nat → Nat} (ha : sInj SX a) (V : sV) (k t n : Nat) (hk : SX[k]? = some (.inl n)) (ht : SX[t]? = some (.inl n)) (hn : n < 2147483648) (hkt : k ≠ t) : sMV l D cI SX a V yX5_copy cX5_copy 3 0 [.ref (a k), .ref (a t)] (q_copy V k t n) := by
  refine sMVof ha (by decide +kernel) (Nat.le_of_ble_eq_true rfl) ?_
  intro p e s m below meth c ls G X hl
  obtain ⟨hx, hb, hml, hown, hts, hlocks, hr, hK⟩ := id G
  have hl : lv_has ls 3 [(0, .ref (a k)), (1, .ref (a t))] := hl
  refine lv_iconst (v := 0) hx hb dX5_copy_0 (by decide) ?_
  refine lv_istore_n (lv' := [(2, .int 0), (0, .ref (a k)), (1, .ref (a t))]) hx hb dX5_copy_1 rfl hl (by decide) rfl (fun ls hl => ?_)
  have L2 : ∀ (fu : Nat) (i : Int32) (f : Nat → Int32) (H : Heap) (locs : List Loc) (ls : Array Slot), (0 ≤ i.toInt) → (i.toInt ≤ n) → (∀ j : Nat, (j : Int) < i.toInt → f j = V k j) → (((n : Int) - i.toInt).toNat) < fu → sWS D cI SX a (sUp V t f) s.heap H locs → lv_has ls 3 [(2, .int i), (0, .ref (a k)), (1, .ref (a t))] → W p l e (rmD 0) s m ([.ref (a k), .ref (a t)] : List Value).toArray below meth c H locs 0 0 (MQ below (va_Qv (q_copy V k t n) (fun V1 t => va_P D vwCl (sWd cI SX a V1) t.heap) (sA SX a s.heap.size)) ([.ref (a k), .ref (a t)] : List Value).toArray s 0 0 (sA SX a s.heap.size)) (F0 m 2 ls []) := by
    intro fu
    induction fu with
    | zero => intro i f H locs ls h1 h2 h3 hm; exact absurd hm (Nat.not_lt_zero _)
    | succ fu ih2 =>
      intro i f H locs ls h1 h2 h3 hm X hl
      refine lv_iload_n hx hb dX5_copy_2 rfl (lv_at hl 0 rfl) ?_
      refine lv_aload_n hx hb dX5_copy_3 rfl (lv_at hl 1 rfl) ?_
      refine sln G X k hk dX5_copy_4 ?_
      refine sIge (tgt := 26) hx hb (rfl : Int32.toInt i = _) (rfl : Int32.toInt (nI n) = _) dX5_copy_5 (by decide) (fun c5 => ?_) (fun c5 => ?_)
      · skip
        rw [nI_toInt hn] at c5
        exact srV G X dX5_copy_26 (by exact ⟨f, rfl, fun j hj => h3 j (by omega)⟩)
      · skip
        rw [nI_toInt hn] at c5
        refine lv_iload_n hx hb dX5_copy_8 rfl (lv_at hl 0 rfl) ?_
        refine lv_aload_n hx hb dX5_copy_9 rfl (lv_at hl 2 rfl) ?_
        refine sln G X t ht dX5_copy_10 ?_
        refine sIge (tgt := 26) hx hb (rfl : Int32.toInt i = _) (rfl : Int32.toInt (nI n) = _) dX5_copy_11 (by decide) (fun c11 => ?_) (fun c11 => ?_)
        · skip
          rw [nI_toInt hn] at c11
          exact srV G X dX5_copy_26 (by exact ⟨f, rfl, fun j hj => h3 j (by omega)⟩)
        · skip
          rw [nI_toInt hn] at c11
          refine lv_aload_n hx hb dX5_copy_14 rfl (lv_at hl 2 rfl) ?_
          refine lv_iload_n hx hb dX5_copy_15 rfl (lv_at hl 0 rfl) ?_
          refine lv_aload_n hx hb dX5_copy_16 rfl (lv_at hl 1 rfl) ?_
          refine lv_iload_n hx hb dX5_copy_17 rfl (lv_at hl 0 rfl) ?_
          refine sld G X k hk (i32_in h1 c5) dX5_copy_18 ?_
          refine lv_topi (fun x18 e18 => ?_)
          refine sst G X t ht (i32_in h1 c5) dX5_copy_19 (fun H locs X => ?_)
          obtain ⟨x20, e20⟩ : ∃ y : Int32, y = i + (1) := ⟨_, rfl⟩
          refine lv_iinc (v := x20) (lv' := [(2, .int x20), (0, .ref (a k)), (1, .ref (a t))]) hx hb dX5_copy_20 hl (k := 0) rfl (by rw [e20]; rfl) (by decide) rfl (fun ls hl => ?_)
          have ei := i32_inc (x := i) (b := nI n) (by rw [nI_toInt hn]; exact c5)
          rw [show i + (1) = i + 1 from rfl] at e20
          refine lv_goto (tgt := 2) hx hb dX5_copy_23 (by decide) ?_
          exact ih2 x20 (upd f i.toNatClampNeg x18) _ _ _ (by rw [e20, ei]; omega) (by rw [e20, ei]; omega) (fun j hj => by
          have hj : (j : Int) < i.toInt + 1 := by rw [e20, ei] at hj; exact hj
          show (if j = i.toNatClampNeg then x18 else f j) = V k j
          by_cases hji : j = i.toNatClampNeg
          · rw [if_pos hji, e18, sUp_n _ _ hkt, hji]
          · rw [if_neg hji]; exact h3 j (by have := i32_cl h1; omega)) (by rw [e20, ei]; omega) (by rw [sUp_s, sUp_up] at X; exact X) (lv_sub hl [0, 1, 2] rfl)
  exact L2 _ 0 (V t) _ _ _ (by decide) (by show (0 : Int) ≤ n; omega) (fun j hj => absurd hj (by show ¬ ((j : Int) < 0); omega)) (Nat.lt_succ_self _) (by rw [sUp_id]; exact X) (lv_sub hl [0, 1, 2] rfl)
