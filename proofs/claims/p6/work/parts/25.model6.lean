def gA (V : sV) (g : Nat → Int32) (n : Nat) : Prop := ∀ h, h < n → g (7 * h) = V 2 h ∧ g (7 * h + 1) = V 3 h ∧ g (7 * h + 2) = V 4 h ∧ g (7 * h + 4) = V 6 h
def gB (V : sV) (g : Nat → Int32) (n : Nat) : Prop := ∀ w, w < n → g (70 + w) = V 9 w
def gC (V : sV) (g : Nat → Int32) (n : Nat) : Prop := ∀ j, j < n → g (85 + j) = V 10 j
theorem upd_n {f : Nat → Int32} {k j : Nat} {x : Int32} (h : j ≠ k) : upd f k x j = f j := if_neg h
theorem upd_s {f : Nat → Int32} {k : Nat} {x : Int32} : upd f k x k = x := if_pos rfl
theorem gA.up {V : sV} {g : Nat → Int32} {n m : Nat} {v : Int32} (h : gA V g n) (hm : 7 * n ≤ m) : gA V (upd g m v) n := fun q hq => by
  rw [upd_n (by omega), upd_n (by omega), upd_n (by omega), upd_n (by omega)]
  exact h q hq
theorem gB.up {V : sV} {g : Nat → Int32} {n m : Nat} {v : Int32} (h : gB V g n) (hm : 70 + n ≤ m) : gB V (upd g m v) n := fun q hq => by
  rw [upd_n (by omega)]
  exact h q hq
theorem gC.up {V : sV} {g : Nat → Int32} {n m : Nat} {v : Int32} (h : gC V g n) (hm : 85 + n ≤ m) : gC V (upd g m v) n := fun q hq => by
  rw [upd_n (by omega)]
  exact h q hq
theorem gB.step {V : sV} {g : Nat → Int32} {n : Nat} (h : gB V g n) : gB V (upd g (70 + n) (V 9 n)) (n + 1) := fun q hq => by
  by_cases e : q = n
  · subst e; exact upd_s
  · rw [upd_n (by omega)]; exact h q (by omega)
theorem gC.step {V : sV} {g : Nat → Int32} {n : Nat} (h : gC V g n) : gC V (upd g (85 + n) (V 10 n)) (n + 1) := fun q hq => by
  by_cases e : q = n
  · subst e; exact upd_s
  · rw [upd_n (by omega)]; exact h q (by omega)
theorem gA.step {V : sV} {g : Nat → Int32} {n : Nat} {v3 v5 v6 : Int32} (h : gA V g n) : gA V (upd (upd (upd (upd (upd (upd (upd g (7 * n) (V 2 n)) (7 * n + 1) (V 3 n)) (7 * n + 2) (V 4 n)) (7 * n + 3) v3) (7 * n + 4) (V 6 n)) (7 * n + 5) v5) (7 * n + 6) v6) (n + 1) := fun q hq => by
  by_cases e : q = n
  · subst e
    refine ⟨?_, ?_, ?_, ?_⟩
    · rw [upd_n (by omega), upd_n (by omega), upd_n (by omega), upd_n (by omega), upd_n (by omega), upd_n (by omega), upd_s]
    · rw [upd_n (by omega), upd_n (by omega), upd_n (by omega), upd_n (by omega), upd_n (by omega), upd_s]
    · rw [upd_n (by omega), upd_n (by omega), upd_n (by omega), upd_n (by omega), upd_s]
    · rw [upd_n (by omega), upd_n (by omega), upd_s]
  · have hh := h q (by omega)
    refine ⟨?_, ?_, ?_, ?_⟩ <;> rw [upd_n (by omega), upd_n (by omega), upd_n (by omega), upd_n (by omega), upd_n (by omega), upd_n (by omega), upd_n (by omega)]
    · exact hh.1
    · exact hh.2.1
    · exact hh.2.2.1
    · exact hh.2.2.2
theorem mG_of {V : sV} {g : Nat → Int32} (h : mI V) (ha : gA V g 10) (hb : gB V g 12) (hc : gC V g 3) (h82 : g 82 = V 0 0) (h83 : g 83 = V 0 3) (h84 : g 84 = V 0 11) (h88 : g 88 = V 0 14) : mG g := by
  refine ⟨fun q hq => ?_, fun w hw => ?_, by rw [h82]; exact h.1.1, by rw [h83]; exact h.1.2.2.1, by rw [h84]; exact h.1.2.2.2.1, ?_, by rw [h88]; exact h.1.2.2.2.2.1⟩
  · obtain ⟨a1, a2, a3, a4⟩ := ha q hq
    show (0 ≤ (g (7 * q)).toInt ∧ (g (7 * q)).toInt ≤ 5) ∧ ((g (7 * q + 2)).toInt = 7 → 0 ≤ (g (7 * q + 1)).toInt ∧ (g (7 * q + 1)).toInt ≤ 5) ∧ (0 ≤ (g (7 * q + 4)).toInt ∧ (g (7 * q + 4)).toInt ≤ 9)
    rw [a1, a2, a3, a4]
    exact h.2.1 q hq
  · show (0 ≤ (g (70 + 3 * w)).toInt ∧ (g (70 + 3 * w)).toInt ≤ 40) ∧ (0 ≤ (g (70 + (3 * w + 1))).toInt ∧ (g (70 + (3 * w + 1))).toInt ≤ 20)
    rw [hb _ (by omega), hb _ (by omega)]
    exact h.2.2.2.1 w hw
  · show (0 ≤ (g (85 + 0)).toInt ∧ (g (85 + 0)).toInt ≤ 40) ∧ (0 ≤ (g (85 + 1)).toInt ∧ (g (85 + 1)).toInt ≤ 20)
    rw [hc _ (by omega), hc _ (by omega)]
    exact h.2.2.1
theorem mH_upd {r o k g : Nat → Int32} {n : Nat} {v0 v1 v2 v4 : Int32} (h : mH r o k g) (h0 : 0 ≤ v0.toInt ∧ v0.toInt ≤ 5) (h1 : v2.toInt = 7 → 0 ≤ v1.toInt ∧ v1.toInt ≤ 5) (h4 : 0 ≤ v4.toInt ∧ v4.toInt ≤ 9) : mH (upd r n v0) (upd o n v1) (upd k n v2) (upd g n v4) := fun q hq => by
  by_cases e : q = n
  · subst e; rw [upd_s, upd_s, upd_s, upd_s]; exact ⟨h0, h1, h4⟩
  · rw [upd_n e, upd_n e, upd_n e, upd_n e]; exact h q hq
theorem mT_upd {f : Nat → Int32} {n : Nat} {v : Int32} (h : mT f) (h0 : ∀ w, w < 4 → n = 3 * w → 0 ≤ v.toInt ∧ v.toInt ≤ 40) (h1 : ∀ w, w < 4 → n = 3 * w + 1 → 0 ≤ v.toInt ∧ v.toInt ≤ 20) : mT (upd f n v) := fun w hw => by
  refine ⟨?_, ?_⟩
  · by_cases e : 3 * w = n
    · rw [e, upd_s]; exact h0 w hw e.symm
    · rw [upd_n e]; exact (h w hw).1
  · by_cases e : 3 * w + 1 = n
    · rw [e, upd_s]; exact h1 w hw e.symm
    · rw [upd_n e]; exact (h w hw).2
theorem mN_upd {f : Nat → Int32} {n : Nat} {v : Int32} (h : mN f) (h0 : n = 0 → 0 ≤ v.toInt ∧ v.toInt ≤ 40) (h1 : n = 1 → 0 ≤ v.toInt ∧ v.toInt ≤ 20) : mN (upd f n v) := by
  refine ⟨?_, ?_⟩
  · by_cases e : 0 = n
    · rw [e, upd_s]; exact h0 e.symm
    · rw [upd_n e]; exact h.1
  · by_cases e : 1 = n
    · rw [e, upd_s]; exact h1 e.symm
    · rw [upd_n e]; exact h.2
theorem m_7i {x i : Int32} (e : x = 7 * i) (h : 0 ≤ i.toInt ∧ i.toInt < 10) : x.toInt = 7 * i.toInt := m_k e (by decide) (by decide) ⟨h.1, by omega⟩
theorem i32_ck {x y : Int32} {c : Int32} {n : Int} (e : x = y + c) (hc : c.toInt = n) (h : 0 ≤ y.toInt ∧ y.toInt ≤ 100) (hn : 0 ≤ n ∧ n ≤ 100) : x.toInt = y.toInt + n := by
  rw [← hc]
  exact i32_adde e (by omega) (by omega)
theorem i32_kc {x y : Int32} {c : Int32} {n : Int} (e : x = c + y) (hc : c.toInt = n) (h : 0 ≤ y.toInt ∧ y.toInt ≤ 100) (hn : 0 ≤ n ∧ n ≤ 100) : x.toInt = n + y.toInt := by
  rw [← hc]
  exact i32_adde e (by omega) (by omega)
def q_m_image (V : sV) : Int32 → sV → Prop := fun x V1 => mI V1 ∧ (∀ j, j < 4 → imM V1 j = nowM V j) ∧ V1 10 = V 10 ∧ V1 0 14 = V 0 14 ∧ V1 0 24 = 1 ∧ (mFr V → x = 0)
set_option maxRecDepth 100000 in
set_option maxHeartbeats 4000000 in
theorem k_m_image {l : Launch} {D : va_G} {cI : ClassId} {a : Nat → Nat} (ha : sInj SM a) (V : sV) (hm : mI V) : sMI l D cI SM a V yX10_image cX10_image 2 .int 0 [.ref (a 0)] (q_m_image V) := by
  refine sMIof ha (by decide +kernel) (Nat.le_of_ble_eq_true rfl) ?_
  intro p e s m below meth c ls G X hl
  obtain ⟨hx, hb, hml, hown, hts, hlocks, hr, hK⟩ := id G
  have hl : lv_has ls 2 [(0, .ref (a 0))] := hl
  obtain ⟨mf0, mf1, mf3, mf11, mf14, mf15⟩ := hm.1
  refine lv_aload_n hx hb dX10_image_0 rfl (lv_at hl 0 rfl) ?_
  refine lv_iconst (v := 1) hx hb dX10_image_1 (by decide) ?_
  refine spT G X 0 24 rfl rfl fp_X10_194 1 rfl rfl dX10_image_2 (fun H locs X => ?_)
  refine lv_iconst (v := 0) hx hb dX10_image_5 (by decide) ?_
  refine lv_istore_n (lv' := [(1, .int 0), (0, .ref (a 0))]) hx hb dX10_image_6 rfl hl (by decide) rfl (fun ls hl => ?_)
  have L7 : ∀ (fu7 : Nat) (i : Int32) (g : Nat → Int32) (H : Heap) (locs : List Loc) (ls : Array Slot), (0 ≤ i.toInt) → (gA V g i.toNatClampNeg) → ((10 - i.toInt).toNat) < fu7 → sWS D cI SM a (sUp (sUp V 0 (upd (V 0) 24 1)) 17 g) s.heap H locs → lv_has ls 2 [(1, .int i), (0, .ref (a 0))] → W p l e (rmD 0) s m ([.ref (a 0)] : List Value).toArray below meth c H locs 0 0 (MQ below (va_Qi (q_m_image V) (fun V1 t => va_P D vwCl (sWd cI SM a V1) t.heap) (sA SM a s.heap.size)) ([.ref (a 0)] : List Value).toArray s 0 0 (sA SM a s.heap.size)) (F0 m 7 ls []) := by
    intro fu7
    induction fu7 with
    | zero => intro i g H locs ls hi hg hm7; exact absurd hm7 (Nat.not_lt_zero _)
    | succ fu7 ih7 =>
      intro i g H locs ls hi hg hm7 X hl
      refine lv_iload_n hx hb dX10_image_7 rfl (lv_at hl 0 rfl) ?_
      refine lv_bipush (v := 10) hx hb dX10_image_8 (by decide) ?_
      refine sIge (tgt := 137) hx hb (rfl : Int32.toInt i = _) (by decide : (10 : Int32).toInt = 10) dX10_image_10 (by decide) (fun c10 => ?_) (fun c10 => ?_)
      · skip
        refine lv_iconst (v := 0) hx hb dX10_image_137 (by decide) ?_
        refine lv_istore_n (lv' := [(1, .int 0), (0, .ref (a 0))]) hx hb dX10_image_138 rfl hl (by decide) rfl (fun ls hl => ?_)
        have L139 : ∀ (fu139 : Nat) (j : Int32) (g2 : Nat → Int32) (H : Heap) (locs : List Loc) (ls : Array Slot), (0 ≤ j.toInt) → (gA V g2 10) → (gB V g2 j.toNatClampNeg) → ((12 - j.toInt).toNat) < fu139 → sWS D cI SM a (sUp (sUp V 0 (upd (V 0) 24 1)) 17 g2) s.heap H locs → lv_has ls 2 [(1, .int j), (0, .ref (a 0))] → W p l e (rmD 0) s m ([.ref (a 0)] : List Value).toArray below meth c H locs 0 0 (MQ below (va_Qi (q_m_image V) (fun V1 t => va_P D vwCl (sWd cI SM a V1) t.heap) (sA SM a s.heap.size)) ([.ref (a 0)] : List Value).toArray s 0 0 (sA SM a s.heap.size)) (F0 m 139 ls []) := by
          intro fu139
          induction fu139 with
          | zero => intro j g2 H locs ls hj hg2 hb2 hm139; exact absurd hm139 (Nat.not_lt_zero _)
          | succ fu139 ih139 =>
            intro j g2 H locs ls hj hg2 hb2 hm139 X hl
            refine lv_iload_n hx hb dX10_image_139 rfl (lv_at hl 0 rfl) ?_
            refine lv_bipush (v := 12) hx hb dX10_image_140 (by decide) ?_
            refine sIge (tgt := 166) hx hb (rfl : Int32.toInt j = _) (by decide : (12 : Int32).toInt = 12) dX10_image_142 (by decide) (fun c142 => ?_) (fun c142 => ?_)
            · skip
              refine lv_aload_n hx hb dX10_image_166 rfl (lv_at hl 1 rfl) ?_
              refine sgR G X 0 25 rfl rfl fl_X10_58 dX10_image_167 ?_
              refine lv_bipush (v := 82) hx hb dX10_image_170 (by decide) ?_
              refine lv_aload_n hx hb dX10_image_172 rfl (lv_at hl 1 rfl) ?_
              refine sgI G X 0 0 rfl rfl fl_X10_61 dX10_image_173 ?_
              refine sst G X 17 rfl (i32_in (by decide) (by decide)) dX10_image_176 (fun H locs X => ?_)
              have X : sWS D cI SM a (sUp (sUp (sUp V 0 (upd (V 0) 24 1)) 17 g2) 17 (upd ((sUp (sUp V 0 (upd (V 0) 24 1)) 17 g2) 17) 82 ((sUp (sUp V 0 (upd (V 0) 24 1)) 17 g2) 0 0))) s.heap H locs := X
              refine lv_aload_n hx hb dX10_image_177 rfl (lv_at hl 1 rfl) ?_
              refine sgR G X 0 25 rfl rfl fl_X10_58 dX10_image_178 ?_
              refine lv_bipush (v := 83) hx hb dX10_image_181 (by decide) ?_
              refine lv_aload_n hx hb dX10_image_183 rfl (lv_at hl 1 rfl) ?_
              refine sgI G X 0 3 rfl rfl fl_X10_65 dX10_image_184 ?_
              refine sTop (y := (sUp (sUp V 0 (upd (V 0) 24 1)) 17 g2) 0 3) rfl ?_
              refine sst G X 17 rfl (i32_in (by decide) (by decide)) dX10_image_187 (fun H locs X => ?_)
              have X : sWS D cI SM a (sUp (sUp (sUp (sUp V 0 (upd (V 0) 24 1)) 17 g2) 17 (upd ((sUp (sUp V 0 (upd (V 0) 24 1)) 17 g2) 17) 82 ((sUp (sUp V 0 (upd (V 0) 24 1)) 17 g2) 0 0))) 17 (upd ((sUp (sUp (sUp V 0 (upd (V 0) 24 1)) 17 g2) 17 (upd ((sUp (sUp V 0 (upd (V 0) 24 1)) 17 g2) 17) 82 ((sUp (sUp V 0 (upd (V 0) 24 1)) 17 g2) 0 0))) 17) 83 ((sUp (sUp V 0 (upd (V 0) 24 1)) 17 g2) 0 3))) s.heap H locs := X
              refine lv_aload_n hx hb dX10_image_188 rfl (lv_at hl 1 rfl) ?_
              refine sgR G X 0 25 rfl rfl fl_X10_58 dX10_image_189 ?_
              refine lv_bipush (v := 84) hx hb dX10_image_192 (by decide) ?_
              refine lv_aload_n hx hb dX10_image_194 rfl (lv_at hl 1 rfl) ?_
              refine sgI G X 0 11 rfl rfl fl_X10_113 dX10_image_195 ?_
              refine sTop (y := (sUp (sUp V 0 (upd (V 0) 24 1)) 17 g2) 0 11) rfl ?_
              refine sst G X 17 rfl (i32_in (by decide) (by decide)) dX10_image_198 (fun H locs X => ?_)
              have X : sWS D cI SM a (sUp (sUp (sUp (sUp (sUp V 0 (upd (V 0) 24 1)) 17 g2) 17 (upd ((sUp (sUp V 0 (upd (V 0) 24 1)) 17 g2) 17) 82 ((sUp (sUp V 0 (upd (V 0) 24 1)) 17 g2) 0 0))) 17 (upd ((sUp (sUp (sUp V 0 (upd (V 0) 24 1)) 17 g2) 17 (upd ((sUp (sUp V 0 (upd (V 0) 24 1)) 17 g2) 17) 82 ((sUp (sUp V 0 (upd (V 0) 24 1)) 17 g2) 0 0))) 17) 83 ((sUp (sUp V 0 (upd (V 0) 24 1)) 17 g2) 0 3))) 17 (upd ((sUp (sUp (sUp (sUp V 0 (upd (V 0) 24 1)) 17 g2) 17 (upd ((sUp (sUp V 0 (upd (V 0) 24 1)) 17 g2) 17) 82 ((sUp (sUp V 0 (upd (V 0) 24 1)) 17 g2) 0 0))) 17 (upd ((sUp (sUp (sUp V 0 (upd (V 0) 24 1)) 17 g2) 17 (upd ((sUp (sUp V 0 (upd (V 0) 24 1)) 17 g2) 17) 82 ((sUp (sUp V 0 (upd (V 0) 24 1)) 17 g2) 0 0))) 17) 83 ((sUp (sUp V 0 (upd (V 0) 24 1)) 17 g2) 0 3))) 17) 84 ((sUp (sUp V 0 (upd (V 0) 24 1)) 17 g2) 0 11))) s.heap H locs := X
              refine lv_iconst (v := 0) hx hb dX10_image_199 (by decide) ?_
              refine lv_istore_n (lv' := [(1, .int 0), (0, .ref (a 0))]) hx hb dX10_image_200 rfl hl (by decide) rfl (fun ls hl => ?_)
              have L201 : ∀ (fu201 : Nat) (q : Int32) (g3 : Nat → Int32) (H : Heap) (locs : List Loc) (ls : Array Slot), (0 ≤ q.toInt) → (gA V g3 10 ∧ gB V g3 12 ∧ g3 82 = V 0 0 ∧ g3 83 = V 0 3 ∧ g3 84 = V 0 11) → (gC V g3 q.toNatClampNeg) → ((3 - q.toInt).toNat) < fu201 → sWS D cI SM a (sUp (sUp V 0 (upd (V 0) 24 1)) 17 g3) s.heap H locs → lv_has ls 2 [(1, .int q), (0, .ref (a 0))] → W p l e (rmD 0) s m ([.ref (a 0)] : List Value).toArray below meth c H locs 0 0 (MQ below (va_Qi (q_m_image V) (fun V1 t => va_P D vwCl (sWd cI SM a V1) t.heap) (sA SM a s.heap.size)) ([.ref (a 0)] : List Value).toArray s 0 0 (sA SM a s.heap.size)) (F0 m 201 ls []) := by
                intro fu201
                induction fu201 with
                | zero => intro q g3 H locs ls hq hg3 hc3 hm201; exact absurd hm201 (Nat.not_lt_zero _)
                | succ fu201 ih201 =>
                  intro q g3 H locs ls hq hg3 hc3 hm201 X hl
                  refine lv_iload_n hx hb dX10_image_201 rfl (lv_at hl 0 rfl) ?_
                  refine lv_iconst (v := 3) hx hb dX10_image_202 (by decide) ?_
                  refine sIge (tgt := 227) hx hb (rfl : Int32.toInt q = _) (by decide : (3 : Int32).toInt = 3) dX10_image_203 (by decide) (fun c203 => ?_) (fun c203 => ?_)
                  · skip
                    refine lv_aload_n hx hb dX10_image_227 rfl (lv_at hl 1 rfl) ?_
                    refine sgR G X 0 25 rfl rfl fl_X10_58 dX10_image_228 ?_
                    refine lv_bipush (v := 88) hx hb dX10_image_231 (by decide) ?_
                    refine lv_aload_n hx hb dX10_image_233 rfl (lv_at hl 1 rfl) ?_
                    refine sgI G X 0 14 rfl rfl fl_X10_125 dX10_image_234 ?_
                    refine sst G X 17 rfl (i32_in (by decide) (by decide)) dX10_image_237 (fun H locs X => ?_)
                    have X : sWS D cI SM a (sUp (sUp (sUp V 0 (upd (V 0) 24 1)) 17 g3) 17 (upd ((sUp (sUp V 0 (upd (V 0) 24 1)) 17 g3) 17) 88 ((sUp (sUp V 0 (upd (V 0) 24 1)) 17 g3) 0 14))) s.heap H locs := X
                    refine lv_aload_n hx hb dX10_image_238 rfl (lv_at hl 1 rfl) ?_
                    refine sgI G X 0 3 rfl rfl fl_X10_65 dX10_image_239 ?_
                    refine sTop (y := (sUp (sUp V 0 (upd (V 0) 24 1)) 17 g3) 0 3) rfl ?_
                    exact srI G X (rfl) dX10_image_242 (by 
                        simp only [sUp_up, sUp_s]
                        obtain ⟨ha, hb, h82, h83, h84⟩ := hg3
                        have hc : gC V g3 3 := fun h hh => hc3 h (by have := i32_cl hq; omega)
                        refine ⟨⟨hm.1, hm.2.1, hm.2.2.1, hm.2.2.2.1, hm.2.2.2.2.1, ?_⟩, fun j hj => ?_, rfl, rfl, rfl, fun hf => hf.1⟩
                        · rw [sUp_s]
                          exact mG_of hm (ha.up (by omega)) (hb.up (by omega)) (hc.up (by omega)) (by rw [upd_n (by omega)]; exact h82) (by rw [upd_n (by omega)]; exact h83) (by rw [upd_n (by omega)]; exact h84) upd_s
                        · unfold imM nowM
                          rw [sUp_s]
                          by_cases h3 : j = 3
                          · rw [if_pos h3, if_pos h3]; exact upd_s
                          · rw [if_neg h3, if_neg h3, upd_n (by omega)]; exact hc j (by omega))
                  · skip
                    refine lv_aload_n hx hb dX10_image_206 rfl (lv_at hl 1 rfl) ?_
                    refine sgR G X 0 25 rfl rfl fl_X10_58 dX10_image_207 ?_
                    refine lv_bipush (v := 85) hx hb dX10_image_210 (by decide) ?_
                    refine lv_iload_n hx hb dX10_image_212 rfl (lv_at hl 0 rfl) ?_
                    refine lv_iadd hx hb dX10_image_213 ?_
                    refine lv_topi (fun x213 e213 => ?_)
                    refine lv_aload_n hx hb dX10_image_214 rfl (lv_at hl 1 rfl) ?_
                    refine sgR G X 0 13 rfl rfl fl_X10_37 dX10_image_215 ?_
                    refine lv_iload_n hx hb dX10_image_218 rfl (lv_at hl 0 rfl) ?_
                    refine sld G X 10 rfl (i32_in (by omega) (by omega)) dX10_image_219 ?_
                    refine lv_topi (fun x219 e219 => ?_)
                    have t213 := i32_kc e213 (by decide : (85 : Int32).toInt = 85) (by omega) (by decide)
                    have n213 : x213.toNatClampNeg = 85 + q.toNatClampNeg := by have a1 := i32_cl (x := x213) (by omega); have a2 := i32_cl hq; omega
                    refine sst G X 17 rfl (i32_in (by omega) (by omega)) dX10_image_220 (fun H locs X => ?_)
                    obtain ⟨x221, e221⟩ : ∃ y : Int32, y = q + (1) := ⟨_, rfl⟩
                    refine lv_iinc (v := x221) (lv' := [(1, .int x221), (0, .ref (a 0))]) hx hb dX10_image_221 hl (k := 0) rfl (by rw [e221]; rfl) (by decide) rfl (fun ls hl => ?_)
                    refine lv_goto (tgt := 201) hx hb dX10_image_224 (by decide) ?_
                    exact ih201 x221 (upd g3 (85 + q.toNatClampNeg) (V 10 q.toNatClampNeg)) _ _ _ (by rw [i32_i e221 (by omega)]; omega) (⟨hg3.1.up (by omega), hg3.2.1.up (by omega), by rw [upd_n (by omega)]; exact hg3.2.2.1, by rw [upd_n (by omega)]; exact hg3.2.2.2.1, by rw [upd_n (by omega)]; exact hg3.2.2.2.2⟩) (by have a1 := i32_i e221 (by omega); have a2 := i32_cl (x := x221) (by omega); have a3 := i32_cl hq; rw [show x221.toNatClampNeg = q.toNatClampNeg + 1 by omega]; exact hc3.step) (by rw [i32_i e221 (by omega)]; omega) (by rw [n213, show x219 = V 10 q.toNatClampNeg from e219] at X; simp only [sUp_up, sUp_s] at X; exact X) (lv_sub hl [0, 1] rfl)
              exact L201 _ 0 (upd (upd (upd g2 82 (V 0 0)) 83 (V 0 3)) 84 (V 0 11)) _ _ _ (by decide) (⟨((hg2.up (by omega)).up (by omega)).up (by omega), (((show gB V g2 12 from fun h hh => hb2 h (by have := i32_cl hj; omega)).up (by omega)).up (by omega)).up (by omega), rfl, rfl, rfl⟩) (fun h hh => absurd hh (Nat.not_lt_zero _)) (Nat.lt_succ_self _) (by simp only [sUp_up, sUp_s] at X; exact X) (lv_sub hl [0, 1] rfl)
            · skip
              refine lv_aload_n hx hb dX10_image_145 rfl (lv_at hl 1 rfl) ?_
              refine sgR G X 0 25 rfl rfl fl_X10_58 dX10_image_146 ?_
              refine lv_bipush (v := 70) hx hb dX10_image_149 (by decide) ?_
              refine lv_iload_n hx hb dX10_image_151 rfl (lv_at hl 0 rfl) ?_
              refine lv_iadd hx hb dX10_image_152 ?_
              refine lv_topi (fun x152 e152 => ?_)
              refine lv_aload_n hx hb dX10_image_153 rfl (lv_at hl 1 rfl) ?_
              refine sgR G X 0 12 rfl rfl fl_X10_34 dX10_image_154 ?_
              refine lv_iload_n hx hb dX10_image_157 rfl (lv_at hl 0 rfl) ?_
              refine sld G X 9 rfl (i32_in (by omega) (by omega)) dX10_image_158 ?_
              refine lv_topi (fun x158 e158 => ?_)
              have t152 := i32_kc e152 (by decide : (70 : Int32).toInt = 70) (by omega) (by decide)
              have n152 : x152.toNatClampNeg = 70 + j.toNatClampNeg := by have a1 := i32_cl (x := x152) (by omega); have a2 := i32_cl hj; omega
              refine sst G X 17 rfl (i32_in (by omega) (by omega)) dX10_image_159 (fun H locs X => ?_)
              obtain ⟨x160, e160⟩ : ∃ y : Int32, y = j + (1) := ⟨_, rfl⟩
              refine lv_iinc (v := x160) (lv' := [(1, .int x160), (0, .ref (a 0))]) hx hb dX10_image_160 hl (k := 0) rfl (by rw [e160]; rfl) (by decide) rfl (fun ls hl => ?_)
              refine lv_goto (tgt := 139) hx hb dX10_image_163 (by decide) ?_
              exact ih139 x160 (upd g2 (70 + j.toNatClampNeg) (V 9 j.toNatClampNeg)) _ _ _ (by rw [i32_i e160 (by omega)]; omega) (hg2.up (by omega)) (by have a1 := i32_i e160 (by omega); have a2 := i32_cl (x := x160) (by omega); have a3 := i32_cl hj; rw [show x160.toNatClampNeg = j.toNatClampNeg + 1 by omega]; exact hb2.step) (by rw [i32_i e160 (by omega)]; omega) (by rw [n152, show x158 = V 9 j.toNatClampNeg from e158] at X; simp only [sUp_up, sUp_s] at X; exact X) (lv_sub hl [0, 1] rfl)
        exact L139 _ 0 g _ _ _ (by decide) (fun h hh => hg h (by have := i32_cl hi; omega)) (fun h hh => absurd hh (Nat.not_lt_zero _)) (Nat.lt_succ_self _) X (lv_sub hl [0, 1] rfl)
      · skip
        refine lv_aload_n hx hb dX10_image_13 rfl (lv_at hl 1 rfl) ?_
        refine sgR G X 0 25 rfl rfl fl_X10_58 dX10_image_14 ?_
        refine lv_bipush (v := 7) hx hb dX10_image_17 (by decide) ?_
        refine lv_iload_n hx hb dX10_image_19 rfl (lv_at hl 0 rfl) ?_
        refine lv_imul hx hb dX10_image_20 ?_
        refine lv_topi (fun x20 e20 => ?_)
        refine lv_aload_n hx hb dX10_image_21 rfl (lv_at hl 1 rfl) ?_
        refine sgR G X 0 4 rfl rfl fl_X10_13 dX10_image_22 ?_
        refine lv_iload_n hx hb dX10_image_25 rfl (lv_at hl 0 rfl) ?_
        refine sld G X 2 rfl (i32_in (by omega) (by omega)) dX10_image_26 ?_
        refine lv_topi (fun x26 e26 => ?_)
        have t20 := m_7i e20 (by omega)
        have n20 : x20.toNatClampNeg = 7 * i.toNatClampNeg := by have a1 := i32_cl (x := x20) (by omega); have a2 := i32_cl hi; omega
        refine sst G X 17 rfl (i32_in (by omega) (by omega)) dX10_image_27 (fun H locs X => ?_)
        refine lv_aload_n hx hb dX10_image_28 rfl (lv_at hl 1 rfl) ?_
        refine sgR G X 0 25 rfl rfl fl_X10_58 dX10_image_29 ?_
        refine lv_bipush (v := 7) hx hb dX10_image_32 (by decide) ?_
        refine lv_iload_n hx hb dX10_image_34 rfl (lv_at hl 0 rfl) ?_
        refine lv_imul hx hb dX10_image_35 ?_
        refine lv_topi (fun x35 e35 => ?_)
        refine lv_iconst (v := 1) hx hb dX10_image_36 (by decide) ?_
        refine lv_iadd hx hb dX10_image_37 ?_
        refine lv_topi (fun x37 e37 => ?_)
        refine lv_aload_n hx hb dX10_image_38 rfl (lv_at hl 1 rfl) ?_
        refine sgR G X 0 5 rfl rfl fl_X10_16 dX10_image_39 ?_
        refine lv_iload_n hx hb dX10_image_42 rfl (lv_at hl 0 rfl) ?_
        refine sld G X 3 rfl (i32_in (by omega) (by omega)) dX10_image_43 ?_
        refine lv_topi (fun x43 e43 => ?_)
        have t35 := m_7i e35 (by omega)
        have t37 := i32_ck e37 (by decide : (1 : Int32).toInt = 1) (by omega) (by decide)
        have n37 : x37.toNatClampNeg = 7 * i.toNatClampNeg + 1 := by have a1 := i32_cl (x := x37) (by omega); have a2 := i32_cl hi; omega
        refine sst G X 17 rfl (i32_in (by omega) (by omega)) dX10_image_44 (fun H locs X => ?_)
        refine lv_aload_n hx hb dX10_image_45 rfl (lv_at hl 1 rfl) ?_
        refine sgR G X 0 25 rfl rfl fl_X10_58 dX10_image_46 ?_
        refine lv_bipush (v := 7) hx hb dX10_image_49 (by decide) ?_
        refine lv_iload_n hx hb dX10_image_51 rfl (lv_at hl 0 rfl) ?_
        refine lv_imul hx hb dX10_image_52 ?_
        refine lv_topi (fun x52 e52 => ?_)
        refine lv_iconst (v := 2) hx hb dX10_image_53 (by decide) ?_
        refine lv_iadd hx hb dX10_image_54 ?_
        refine lv_topi (fun x54 e54 => ?_)
        refine lv_aload_n hx hb dX10_image_55 rfl (lv_at hl 1 rfl) ?_
        refine sgR G X 0 6 rfl rfl fl_X10_19 dX10_image_56 ?_
        refine lv_iload_n hx hb dX10_image_59 rfl (lv_at hl 0 rfl) ?_
        refine sld G X 4 rfl (i32_in (by omega) (by omega)) dX10_image_60 ?_
        refine lv_topi (fun x60 e60 => ?_)
        have t52 := m_7i e52 (by omega)
        have t54 := i32_ck e54 (by decide : (2 : Int32).toInt = 2) (by omega) (by decide)
        have n54 : x54.toNatClampNeg = 7 * i.toNatClampNeg + 2 := by have a1 := i32_cl (x := x54) (by omega); have a2 := i32_cl hi; omega
        refine sst G X 17 rfl (i32_in (by omega) (by omega)) dX10_image_61 (fun H locs X => ?_)
        refine lv_aload_n hx hb dX10_image_62 rfl (lv_at hl 1 rfl) ?_
        refine sgR G X 0 25 rfl rfl fl_X10_58 dX10_image_63 ?_
        refine lv_bipush (v := 7) hx hb dX10_image_66 (by decide) ?_
        refine lv_iload_n hx hb dX10_image_68 rfl (lv_at hl 0 rfl) ?_
        refine lv_imul hx hb dX10_image_69 ?_
        refine lv_topi (fun x69 e69 => ?_)
        refine lv_iconst (v := 3) hx hb dX10_image_70 (by decide) ?_
        refine lv_iadd hx hb dX10_image_71 ?_
        refine lv_topi (fun x71 e71 => ?_)
        refine lv_aload_n hx hb dX10_image_72 rfl (lv_at hl 1 rfl) ?_
        refine sgR G X 0 7 rfl rfl fl_X10_22 dX10_image_73 ?_
        refine lv_iload_n hx hb dX10_image_76 rfl (lv_at hl 0 rfl) ?_
        refine sld G X 5 rfl (i32_in (by omega) (by omega)) dX10_image_77 ?_
        refine lv_topi (fun x77 e77 => ?_)
        have t69 := m_7i e69 (by omega)
        have t71 := i32_ck e71 (by decide : (3 : Int32).toInt = 3) (by omega) (by decide)
        have n71 : x71.toNatClampNeg = 7 * i.toNatClampNeg + 3 := by have a1 := i32_cl (x := x71) (by omega); have a2 := i32_cl hi; omega
        refine sst G X 17 rfl (i32_in (by omega) (by omega)) dX10_image_78 (fun H locs X => ?_)
        refine lv_aload_n hx hb dX10_image_79 rfl (lv_at hl 1 rfl) ?_
        refine sgR G X 0 25 rfl rfl fl_X10_58 dX10_image_80 ?_
        refine lv_bipush (v := 7) hx hb dX10_image_83 (by decide) ?_
        refine lv_iload_n hx hb dX10_image_85 rfl (lv_at hl 0 rfl) ?_
        refine lv_imul hx hb dX10_image_86 ?_
        refine lv_topi (fun x86 e86 => ?_)
        refine lv_iconst (v := 4) hx hb dX10_image_87 (by decide) ?_
        refine lv_iadd hx hb dX10_image_88 ?_
        refine lv_topi (fun x88 e88 => ?_)
        refine lv_aload_n hx hb dX10_image_89 rfl (lv_at hl 1 rfl) ?_
        refine sgR G X 0 8 rfl rfl fl_X10_25 dX10_image_90 ?_
        refine lv_iload_n hx hb dX10_image_93 rfl (lv_at hl 0 rfl) ?_
        refine sld G X 6 rfl (i32_in (by omega) (by omega)) dX10_image_94 ?_
        refine lv_topi (fun x94 e94 => ?_)
        have t86 := m_7i e86 (by omega)
        have t88 := i32_ck e88 (by decide : (4 : Int32).toInt = 4) (by omega) (by decide)
        have n88 : x88.toNatClampNeg = 7 * i.toNatClampNeg + 4 := by have a1 := i32_cl (x := x88) (by omega); have a2 := i32_cl hi; omega
        refine sst G X 17 rfl (i32_in (by omega) (by omega)) dX10_image_95 (fun H locs X => ?_)
        refine lv_aload_n hx hb dX10_image_96 rfl (lv_at hl 1 rfl) ?_
        refine sgR G X 0 25 rfl rfl fl_X10_58 dX10_image_97 ?_
        refine lv_bipush (v := 7) hx hb dX10_image_100 (by decide) ?_
        refine lv_iload_n hx hb dX10_image_102 rfl (lv_at hl 0 rfl) ?_
        refine lv_imul hx hb dX10_image_103 ?_
        refine lv_topi (fun x103 e103 => ?_)
        refine lv_iconst (v := 5) hx hb dX10_image_104 (by decide) ?_
        refine lv_iadd hx hb dX10_image_105 ?_
        refine lv_topi (fun x105 e105 => ?_)
        refine lv_aload_n hx hb dX10_image_106 rfl (lv_at hl 1 rfl) ?_
        refine sgR G X 0 9 rfl rfl fl_X10_28 dX10_image_107 ?_
        refine lv_iload_n hx hb dX10_image_110 rfl (lv_at hl 0 rfl) ?_
        refine sld G X 7 rfl (i32_in (by omega) (by omega)) dX10_image_111 ?_
        refine lv_topi (fun x111 e111 => ?_)
        have t103 := m_7i e103 (by omega)
        have t105 := i32_ck e105 (by decide : (5 : Int32).toInt = 5) (by omega) (by decide)
        have n105 : x105.toNatClampNeg = 7 * i.toNatClampNeg + 5 := by have a1 := i32_cl (x := x105) (by omega); have a2 := i32_cl hi; omega
        refine sst G X 17 rfl (i32_in (by omega) (by omega)) dX10_image_112 (fun H locs X => ?_)
        refine lv_aload_n hx hb dX10_image_113 rfl (lv_at hl 1 rfl) ?_
        refine sgR G X 0 25 rfl rfl fl_X10_58 dX10_image_114 ?_
        refine lv_bipush (v := 7) hx hb dX10_image_117 (by decide) ?_
        refine lv_iload_n hx hb dX10_image_119 rfl (lv_at hl 0 rfl) ?_
        refine lv_imul hx hb dX10_image_120 ?_
        refine lv_topi (fun x120 e120 => ?_)
        refine lv_bipush (v := 6) hx hb dX10_image_121 (by decide) ?_
        refine lv_iadd hx hb dX10_image_123 ?_
        refine lv_topi (fun x123 e123 => ?_)
        refine lv_aload_n hx hb dX10_image_124 rfl (lv_at hl 1 rfl) ?_
        refine sgR G X 0 10 rfl rfl fl_X10_31 dX10_image_125 ?_
        refine lv_iload_n hx hb dX10_image_128 rfl (lv_at hl 0 rfl) ?_
        refine sld G X 8 rfl (i32_in (by omega) (by omega)) dX10_image_129 ?_
        refine lv_topi (fun x129 e129 => ?_)
        have t120 := m_7i e120 (by omega)
        have t123 := i32_ck e123 (by decide : (6 : Int32).toInt = 6) (by omega) (by decide)
        have n123 : x123.toNatClampNeg = 7 * i.toNatClampNeg + 6 := by have a1 := i32_cl (x := x123) (by omega); have a2 := i32_cl hi; omega
        refine sst G X 17 rfl (i32_in (by omega) (by omega)) dX10_image_130 (fun H locs X => ?_)
        have q26 : x26 = V 2 i.toNatClampNeg := e26
        have q43 : x43 = V 3 i.toNatClampNeg := e43
        have q60 : x60 = V 4 i.toNatClampNeg := e60
        have q94 : x94 = V 6 i.toNatClampNeg := e94
        obtain ⟨x131, e131⟩ : ∃ y : Int32, y = i + (1) := ⟨_, rfl⟩
        refine lv_iinc (v := x131) (lv' := [(1, .int x131), (0, .ref (a 0))]) hx hb dX10_image_131 hl (k := 0) rfl (by rw [e131]; rfl) (by decide) rfl (fun ls hl => ?_)
        refine lv_goto (tgt := 7) hx hb dX10_image_134 (by decide) ?_
        exact ih7 x131 (upd (upd (upd (upd (upd (upd (upd g (7 * i.toNatClampNeg) (V 2 i.toNatClampNeg)) (7 * i.toNatClampNeg + 1) (V 3 i.toNatClampNeg)) (7 * i.toNatClampNeg + 2) (V 4 i.toNatClampNeg)) (7 * i.toNatClampNeg + 3) x77) (7 * i.toNatClampNeg + 4) (V 6 i.toNatClampNeg)) (7 * i.toNatClampNeg + 5) x111) (7 * i.toNatClampNeg + 6) x129) _ _ _ (by rw [i32_i e131 (by omega)]; omega) (by have a1 := i32_i e131 (by omega); have a2 := i32_cl (x := x131) (by omega); have a3 := i32_cl hi; rw [show x131.toNatClampNeg = i.toNatClampNeg + 1 by omega]; exact hg.step) (by rw [i32_i e131 (by omega)]; omega) (by subst q26 q43 q60 q94; rw [n20, n37, n54, n71, n88, n105, n123] at X; simp only [sUp_up, sUp_s] at X; exact X) (lv_sub hl [0, 1] rfl)
  exact L7 _ 0 (V 17) _ _ _ (by decide) (fun h hh => absurd hh (Nat.not_lt_zero _)) (Nat.lt_succ_self _) (by rw [show (V 17) = (sUp V 0 (upd (V 0) 24 1)) 17 from rfl, sUp_id]; exact X) (lv_sub hl [0, 1] rfl)
