def q_m_turnsAbout (V : sV)  : Int32 → sV → Prop := fun x V1 => mK V V1 ∧ (mFr V → x = 0)
set_option maxRecDepth 100000 in
set_option maxHeartbeats 4000000 in
theorem k_m_turnsAbout {l : Launch} {D : va_G} {cI : ClassId} {a : Nat → Nat} (ha : sInj SM a) (V : sV)  (hm : mI V) : sMI l D cI SM a V yX10_turnsAbout cX10_turnsAbout 6 .int 5 [.ref (a 0)] (q_m_turnsAbout V ) := by
  refine sMIof ha (by decide +kernel) (Nat.le_of_ble_eq_true rfl) ?_
  intro p e s m below meth c ls G X hl
  obtain ⟨hx, hb, hml, hown, hts, hlocks, hr, hK⟩ := id G
  have hl : lv_has ls 6 [(0, .ref (a 0))] := hl
  obtain ⟨mf0, mf1, mf3, mf11, mf14, mf15⟩ := hm.1
  refine lv_iconst (v := 0) hx hb dX10_turnsAbout_0 (by decide) ?_
  refine lv_istore_n (lv' := [(1, .int 0), (0, .ref (a 0))]) hx hb dX10_turnsAbout_1 rfl hl (by decide) rfl (fun ls hl => ?_)
  refine lv_iconst (v := 0) hx hb dX10_turnsAbout_2 (by decide) ?_
  refine lv_istore_n (lv' := [(2, .int 0), (1, .int 0), (0, .ref (a 0))]) hx hb dX10_turnsAbout_3 rfl hl (by decide) rfl (fun ls hl => ?_)
  refine lv_iconst (v := 0) hx hb dX10_turnsAbout_4 (by decide) ?_
  refine lv_istore_n (lv' := [(3, .int 0), (2, .int 0), (1, .int 0), (0, .ref (a 0))]) hx hb dX10_turnsAbout_5 rfl hl (by decide) rfl (fun ls hl => ?_)
  have L6 : ∀ (fu6 : Nat) (i : Int32) (z : Int32) (u : Int32) (Y : sV) (H : Heap) (locs : List Loc) (ls : Array Slot), (0 ≤ i.toInt) → (sAg [13, 14] V Y) → (mFr V → z = 0 ∧ u = 0) → (((V 0 11).toInt - i.toInt).toNat) < fu6 → sWS D cI SM a Y s.heap H locs → lv_has ls 6 [(3, .int i), (2, .int u), (1, .int z), (0, .ref (a 0))] → W p l e (rmD 5) s m ([.ref (a 0)] : List Value).toArray below meth c H locs 0 0 (MQ below (va_Qi (q_m_turnsAbout V ) (fun V1 t => va_P D vwCl (sWd cI SM a V1) t.heap) (sA SM a s.heap.size)) ([.ref (a 0)] : List Value).toArray s 0 0 (sA SM a s.heap.size)) (F0 m 6 ls []) := by
    intro fu6
    induction fu6 with
    | zero => intro i z u Y H locs ls hi hA hv hm6; exact absurd hm6 (Nat.not_lt_zero _)
    | succ fu6 ih6 =>
      intro i z u Y H locs ls hi hA hv hm6 X hl
      have hmY : mI Y := hm.ag (sAg.mono hA (by decide) : sAg [5, 12, 13, 14] V _) (by decide)
      have hY11 : (Y 0 11).toInt = (V 0 11).toInt := by rw [hA 0 (by decide)]
      have hY14 : (Y 0 14).toInt = (V 0 14).toInt := by rw [hA 0 (by decide)]
      refine lv_iload_n hx hb dX10_turnsAbout_6 rfl (lv_at hl 0 rfl) ?_
      refine lv_aload_n hx hb dX10_turnsAbout_7 rfl (lv_at hl 3 rfl) ?_
      refine sgI G X 0 11 rfl rfl fl_X10_113 dX10_turnsAbout_8 ?_
      refine sIge (tgt := 109) hx hb (rfl : Int32.toInt i = _) (rfl : Int32.toInt (Y 0 11) = _) dX10_turnsAbout_11 (by decide) (fun c11 => ?_) (fun c11 => ?_)
      · skip
        rw [hA 0 (by decide)] at c11
        refine lv_iload_n hx hb dX10_turnsAbout_109 rfl (lv_at hl 2 rfl) ?_
        refine lv_iload_n hx hb dX10_turnsAbout_110 rfl (lv_at hl 1 rfl) ?_
        refine lv_iand hx hb dX10_turnsAbout_111 ?_
        refine lv_topi (fun x111 e111 => ?_)
        exact srI G X (rfl) dX10_turnsAbout_112 (by exact ⟨(mK.ag hm ((sAg.mono hA (by decide)) : sAg [1, 5, 7, 8, 11, 12, 13, 14, 15] V _) (by decide)), fun hf => by obtain ⟨h1, h2⟩ := hv hf; rw [e111, h1, h2]; rfl⟩)
      · skip
        rw [hA 0 (by decide)] at c11
        refine lv_aload_n hx hb dX10_turnsAbout_14 rfl (lv_at hl 3 rfl) ?_
        refine lv_aload_n hx hb dX10_turnsAbout_15 rfl (lv_at hl 3 rfl) ?_
        refine sgR G X 0 12 rfl rfl fl_X10_34 dX10_turnsAbout_16 ?_
        refine lv_iconst (v := 3) hx hb dX10_turnsAbout_19 (by decide) ?_
        refine lv_iload_n hx hb dX10_turnsAbout_20 rfl (lv_at hl 0 rfl) ?_
        refine lv_imul hx hb dX10_turnsAbout_21 ?_
        refine lv_topi (fun x21 e21 => ?_)
        have t21 := m_3i e21 (by omega)
        refine sld G X 9 rfl (i32_in (by omega) (by omega)) dX10_turnsAbout_22 ?_
        refine lv_topi (fun x22 e22 => ?_)
        have b22 : 0 ≤ x22.toInt ∧ x22.toInt ≤ 40 := by rw [e22]; exact hmY.told0 t21 (by omega)
        refine lv_aload_n hx hb dX10_turnsAbout_23 rfl (lv_at hl 3 rfl) ?_
        refine sgR G X 0 12 rfl rfl fl_X10_34 dX10_turnsAbout_24 ?_
        refine lv_iconst (v := 3) hx hb dX10_turnsAbout_27 (by decide) ?_
        refine lv_iload_n hx hb dX10_turnsAbout_28 rfl (lv_at hl 0 rfl) ?_
        refine lv_imul hx hb dX10_turnsAbout_29 ?_
        refine lv_topi (fun x29 e29 => ?_)
        refine lv_iconst (v := 1) hx hb dX10_turnsAbout_30 (by decide) ?_
        refine lv_iadd hx hb dX10_turnsAbout_31 ?_
        refine lv_topi (fun x31 e31 => ?_)
        have t29 := m_3i e29 (by omega)
        have t31 := i32_adde e31 (by show _ ≤ _ + (1 : Int); omega) (by show _ + (1 : Int) < _; omega)
        rw [show (1 : Int32).toInt = 1 from by decide] at t31
        refine sld G X 9 rfl (i32_in (by omega) (by omega)) dX10_turnsAbout_32 ?_
        refine lv_topi (fun x32 e32 => ?_)
        have b32 : 0 ≤ x32.toInt ∧ x32.toInt ≤ 20 := by rw [e32]; exact hmY.told1 (i := i) (by omega) (by omega)
        refine lv_aload_n hx hb dX10_turnsAbout_33 rfl (lv_at hl 3 rfl) ?_
        refine sgR G X 0 12 rfl rfl fl_X10_34 dX10_turnsAbout_34 ?_
        refine lv_iconst (v := 3) hx hb dX10_turnsAbout_37 (by decide) ?_
        refine lv_iload_n hx hb dX10_turnsAbout_38 rfl (lv_at hl 0 rfl) ?_
        refine lv_imul hx hb dX10_turnsAbout_39 ?_
        refine lv_topi (fun x39 e39 => ?_)
        refine lv_iconst (v := 2) hx hb dX10_turnsAbout_40 (by decide) ?_
        refine lv_iadd hx hb dX10_turnsAbout_41 ?_
        refine lv_topi (fun x41 e41 => ?_)
        have t39 := m_3i e39 (by omega)
        have t41 := i32_adde e41 (by show _ ≤ _ + (2 : Int); omega) (by show _ + (2 : Int) < _; omega)
        rw [show (2 : Int32).toInt = 2 from by decide] at t41
        refine sld G X 9 rfl (i32_in (by omega) (by omega)) dX10_turnsAbout_42 ?_
        refine lv_topi (fun x42 e42 => ?_)
        refine lv_aload_n hx hb dX10_turnsAbout_43 rfl (lv_at hl 3 rfl) ?_
        refine sgI G X 0 14 rfl rfl fl_X10_125 dX10_turnsAbout_44 ?_
        refine scI (ci := 9) (As := [.int x22, .int x32, .int x42, .int (Y 0 14)]) (rest := []) G X (k_m_by ha Y x22 x32 x42 (Y 0 14) (by assumption) (by first | assumption | (constructor <;> first | omega | decide)) (by first | assumption | (constructor <;> first | omega | decide)) (by first | assumption | (constructor <;> first | omega | decide))) iy_X10_by ml_X10_178 rfl rfl rfl rfl hl.1 (by decide) (by decide) (Nat.le_of_ble_eq_true rfl) dX10_turnsAbout_47 (fun y47 V47 H locs p47 X => ?_)
        obtain ⟨hA47, hP47, hO47, -⟩ := p47
        have hmV47 : mI V47 := hm.ag ((sAg.mono hA (by decide) : sAg [5, 12, 13, 14] V Y).tr (sAg.mono hA47 (by decide)) : sAg [5, 12, 13, 14] V _) (by decide)
        refine lv_pop hx hb dX10_turnsAbout_50 rfl ?_
        refine lv_iconst (v := 0) hx hb dX10_turnsAbout_51 (by decide) ?_
        refine lv_istore (lv' := [(4, .int 0), (3, .int i), (2, .int u), (1, .int z), (0, .ref (a 0))]) hx hb dX10_turnsAbout_52 hl (by decide) rfl (fun ls hl => ?_)
        have L54 : ∀ (fu54 : Nat) (j : Int32) (z2 : Int32) (u2 : Int32) (H : Heap) (locs : List Loc) (ls : Array Slot), (0 ≤ j.toInt) → (((V47 0 3).toInt - j.toInt).toNat) < fu54 → sWS D cI SM a V47 s.heap H locs → lv_has ls 6 [(4, .int j), (3, .int i), (2, .int u2), (1, .int z2), (0, .ref (a 0))] → W p l e (rmD 5) s m ([.ref (a 0)] : List Value).toArray below meth c H locs 0 0 (MQ below (va_Qi (q_m_turnsAbout V ) (fun V1 t => va_P D vwCl (sWd cI SM a V1) t.heap) (sA SM a s.heap.size)) ([.ref (a 0)] : List Value).toArray s 0 0 (sA SM a s.heap.size)) (F0 m 54 ls []) := by
          intro fu54
          induction fu54 with
          | zero => intro j z2 u2 H locs ls hj hm54; exact absurd hm54 (Nat.not_lt_zero _)
          | succ fu54 ih54 =>
            intro j z2 u2 H locs ls hj hm54 X hl
            refine lv_iload hx hb dX10_turnsAbout_54 (lv_at hl 0 rfl) ?_
            refine lv_aload_n hx hb dX10_turnsAbout_56 rfl (lv_at hl 4 rfl) ?_
            refine sgI G X 0 3 rfl rfl fl_X10_65 dX10_turnsAbout_57 ?_
            refine sIge (tgt := 103) hx hb (rfl : Int32.toInt j = _) (rfl : Int32.toInt (V47 0 3) = _) dX10_turnsAbout_60 (by decide) (fun c60 => ?_) (fun c60 => ?_)
            · skip
              obtain ⟨x103, e103⟩ : ∃ y : Int32, y = i + (1) := ⟨_, rfl⟩
              refine lv_iinc (v := x103) (lv' := [(3, .int x103), (4, .int j), (2, .int u2), (1, .int z2), (0, .ref (a 0))]) hx hb dX10_turnsAbout_103 hl (k := 1) rfl (by rw [e103]; rfl) (by decide) rfl (fun ls hl => ?_)
              refine lv_goto (tgt := 6) hx hb dX10_turnsAbout_106 (by decide) ?_
              exact ih6 x103 z2 u2 V47 _ _ _ (by rw [i32_i e103 (by have := i32_hi (V 0 11); omega)]; omega) (hA.tr hA47) (fun hf => by exfalso; have hg := hf.t; omega) (by rw [i32_i e103 (by have := i32_hi (V 0 11); omega)]; omega) X (lv_sub hl [0, 2, 3, 4] rfl)
            · skip
              refine lv_aload_n hx hb dX10_turnsAbout_63 rfl (lv_at hl 4 rfl) ?_
              refine lv_iload hx hb dX10_turnsAbout_64 (lv_at hl 0 rfl) ?_
              refine scI (ci := 9) (As := [.int j]) (rest := []) G X (k_m_leans ha V47 j (by assumption) (by assumption) (by assumption) (by first | assumption | omega) (by first | assumption | omega)) iy_X10_leans ml_X10_147 rfl rfl rfl rfl hl.1 (by decide) (by decide) (Nat.le_of_ble_eq_true rfl) dX10_turnsAbout_66 (fun y66 V66 H locs p66 X => ?_)
              obtain ⟨p66, z66⟩ := p66
              subst V66
              refine lv_istore (lv' := [(5, .int y66), (4, .int j), (3, .int i), (2, .int u2), (1, .int z2), (0, .ref (a 0))]) hx hb dX10_turnsAbout_69 hl (by decide) rfl (fun ls hl => ?_)
              refine lv_iload hx hb dX10_turnsAbout_71 (lv_at hl 0 rfl) ?_
              refine lv_iconst (v := 1) hx hb dX10_turnsAbout_73 (by decide) ?_
              refine sIne (tgt := 84) hx hb (rfl : Int32.toInt y66 = _) (by decide : (1 : Int32).toInt = 1) dX10_turnsAbout_74 (by decide) (fun c74 => ?_) (fun c74 => ?_)
              · skip
                refine lv_iload hx hb dX10_turnsAbout_84 (lv_at hl 0 rfl) ?_
                refine lv_iconst (v := 2) hx hb dX10_turnsAbout_86 (by decide) ?_
                refine sIne (tgt := 97) hx hb (rfl : Int32.toInt y66 = _) (by decide : (2 : Int32).toInt = 2) dX10_turnsAbout_87 (by decide) (fun c87 => ?_) (fun c87 => ?_)
                · skip
                  obtain ⟨x97, e97⟩ : ∃ y : Int32, y = j + (1) := ⟨_, rfl⟩
                  refine lv_iinc (v := x97) (lv' := [(4, .int x97), (5, .int y66), (3, .int i), (2, .int u2), (1, .int z2), (0, .ref (a 0))]) hx hb dX10_turnsAbout_97 hl (k := 1) rfl (by rw [e97]; rfl) (by decide) rfl (fun ls hl => ?_)
                  refine lv_goto (tgt := 54) hx hb dX10_turnsAbout_100 (by decide) ?_
                  exact ih54 x97 z2 u2 _ _ _ (by rw [i32_i e97 (by have := i32_hi (V47 0 3); omega)]; omega) (by rw [i32_i e97 (by have := i32_hi (V47 0 3); omega)]; omega) X (lv_sub hl [0, 2, 3, 4, 5] rfl)
                · skip
                  refine lv_iload_n hx hb dX10_turnsAbout_90 rfl (lv_at hl 3 rfl) ?_
                  refine lv_iconst (v := 1) hx hb dX10_turnsAbout_91 (by decide) ?_
                  refine lv_iload hx hb dX10_turnsAbout_92 (lv_at hl 1 rfl) ?_
                  refine lv_ishl hx hb dX10_turnsAbout_94 ?_
                  refine lv_topi (fun x94 e94 => ?_)
                  refine lv_ior hx hb dX10_turnsAbout_95 ?_
                  refine lv_topi (fun x95 e95 => ?_)
                  refine lv_istore_n (lv' := [(2, .int x95), (5, .int y66), (4, .int j), (3, .int i), (1, .int z2), (0, .ref (a 0))]) hx hb dX10_turnsAbout_96 rfl hl (by decide) rfl (fun ls hl => ?_)
                  obtain ⟨x97, e97⟩ : ∃ y : Int32, y = j + (1) := ⟨_, rfl⟩
                  refine lv_iinc (v := x97) (lv' := [(4, .int x97), (2, .int x95), (5, .int y66), (3, .int i), (1, .int z2), (0, .ref (a 0))]) hx hb dX10_turnsAbout_97 hl (k := 2) rfl (by rw [e97]; rfl) (by decide) rfl (fun ls hl => ?_)
                  refine lv_goto (tgt := 54) hx hb dX10_turnsAbout_100 (by decide) ?_
                  exact ih54 x97 z2 x95 _ _ _ (by rw [i32_i e97 (by have := i32_hi (V47 0 3); omega)]; omega) (by rw [i32_i e97 (by have := i32_hi (V47 0 3); omega)]; omega) X (lv_sub hl [0, 3, 1, 4, 5] rfl)
              · skip
                refine lv_iload_n hx hb dX10_turnsAbout_77 rfl (lv_at hl 4 rfl) ?_
                refine lv_iconst (v := 1) hx hb dX10_turnsAbout_78 (by decide) ?_
                refine lv_iload hx hb dX10_turnsAbout_79 (lv_at hl 1 rfl) ?_
                refine lv_ishl hx hb dX10_turnsAbout_81 ?_
                refine lv_topi (fun x81 e81 => ?_)
                refine lv_ior hx hb dX10_turnsAbout_82 ?_
                refine lv_topi (fun x82 e82 => ?_)
                refine lv_istore_n (lv' := [(1, .int x82), (5, .int y66), (4, .int j), (3, .int i), (2, .int u2), (0, .ref (a 0))]) hx hb dX10_turnsAbout_83 rfl hl (by decide) rfl (fun ls hl => ?_)
                refine lv_iload hx hb dX10_turnsAbout_84 (lv_at hl 1 rfl) ?_
                refine lv_iconst (v := 2) hx hb dX10_turnsAbout_86 (by decide) ?_
                refine sIne (tgt := 97) hx hb (rfl : Int32.toInt y66 = _) (by decide : (2 : Int32).toInt = 2) dX10_turnsAbout_87 (by decide) (fun c87 => ?_) (fun c87 => ?_)
                · skip
                  obtain ⟨x97, e97⟩ : ∃ y : Int32, y = j + (1) := ⟨_, rfl⟩
                  refine lv_iinc (v := x97) (lv' := [(4, .int x97), (1, .int x82), (5, .int y66), (3, .int i), (2, .int u2), (0, .ref (a 0))]) hx hb dX10_turnsAbout_97 hl (k := 2) rfl (by rw [e97]; rfl) (by decide) rfl (fun ls hl => ?_)
                  refine lv_goto (tgt := 54) hx hb dX10_turnsAbout_100 (by decide) ?_
                  exact ih54 x97 x82 u2 _ _ _ (by rw [i32_i e97 (by have := i32_hi (V47 0 3); omega)]; omega) (by rw [i32_i e97 (by have := i32_hi (V47 0 3); omega)]; omega) X (lv_sub hl [0, 3, 4, 1, 5] rfl)
                · skip
                  refine lv_iload_n hx hb dX10_turnsAbout_90 rfl (lv_at hl 4 rfl) ?_
                  refine lv_iconst (v := 1) hx hb dX10_turnsAbout_91 (by decide) ?_
                  refine lv_iload hx hb dX10_turnsAbout_92 (lv_at hl 2 rfl) ?_
                  refine lv_ishl hx hb dX10_turnsAbout_94 ?_
                  refine lv_topi (fun x94 e94 => ?_)
                  refine lv_ior hx hb dX10_turnsAbout_95 ?_
                  refine lv_topi (fun x95 e95 => ?_)
                  refine lv_istore_n (lv' := [(2, .int x95), (1, .int x82), (5, .int y66), (4, .int j), (3, .int i), (0, .ref (a 0))]) hx hb dX10_turnsAbout_96 rfl hl (by decide) rfl (fun ls hl => ?_)
                  obtain ⟨x97, e97⟩ : ∃ y : Int32, y = j + (1) := ⟨_, rfl⟩
                  refine lv_iinc (v := x97) (lv' := [(4, .int x97), (2, .int x95), (1, .int x82), (5, .int y66), (3, .int i), (0, .ref (a 0))]) hx hb dX10_turnsAbout_97 hl (k := 3) rfl (by rw [e97]; rfl) (by decide) rfl (fun ls hl => ?_)
                  refine lv_goto (tgt := 54) hx hb dX10_turnsAbout_100 (by decide) ?_
                  exact ih54 x97 x82 x95 _ _ _ (by rw [i32_i e97 (by have := i32_hi (V47 0 3); omega)]; omega) (by rw [i32_i e97 (by have := i32_hi (V47 0 3); omega)]; omega) X (lv_sub hl [0, 4, 1, 2, 5] rfl)
        exact L54 _ 0 z u _ _ _ (by decide) (Nat.lt_succ_self _) X (lv_sub hl [0, 1, 2, 3, 4] rfl)
  exact L6 _ 0 0 0 V _ _ _ (by decide) (sAg.rf) (fun _ => ⟨rfl, rfl⟩) (Nat.lt_succ_self _) X (lv_sub hl [0, 1, 2, 3] rfl)
def q_m_sizes (V : sV) (q v w : Int32) : Int32 → sV → Prop := fun x V1 => mK V V1 ∧ (mFr V → x = -1)
set_option maxRecDepth 100000 in
set_option maxHeartbeats 4000000 in
theorem k_m_sizes {l : Launch} {D : va_G} {cI : ClassId} {a : Nat → Nat} (ha : sInj SM a) (V : sV) (q v w : Int32) (hm : mI V) : sMI l D cI SM a V yX10_sizes cX10_sizes 9 .int 4 [.ref (a 0), .int q, .int v, .int w] (q_m_sizes V q v w) := by
  refine sMIof ha (by decide +kernel) (Nat.le_of_ble_eq_true rfl) ?_
  intro p e s m below meth c ls G X hl
  obtain ⟨hx, hb, hml, hown, hts, hlocks, hr, hK⟩ := id G
  have hl : lv_has ls 9 [(0, .ref (a 0)), (1, .int q), (2, .int v), (3, .int w)] := hl
  obtain ⟨mf0, mf1, mf3, mf11, mf14, mf15⟩ := hm.1
  refine lv_aload_n hx hb dX10_sizes_0 rfl (lv_at hl 0 rfl) ?_
  refine lv_iload_n hx hb dX10_sizes_1 rfl (lv_at hl 1 rfl) ?_
  refine scI (ci := 9) (As := [.int q]) (rest := []) G X (k_m_isHole ha V q) iy_X10_isHole ml_X10_122 rfl rfl rfl rfl hl.1 (by decide) (by decide) (Nat.le_of_ble_eq_true rfl) dX10_sizes_2 (fun y2 V2 H locs p2 X => ?_)
  obtain ⟨p2, z2⟩ := p2
  subst V2
  refine sZne (tgt := 14) hx hb (rfl : Int32.toInt y2 = _) dX10_sizes_5 (by decide) (fun c5 => ?_) (fun c5 => ?_)
  · skip
    refine lv_iload_n hx hb dX10_sizes_14 rfl (lv_at hl 3 rfl) ?_
    refine sZlt (tgt := 23) hx hb (rfl : Int32.toInt w = _) dX10_sizes_15 (by decide) (fun c15 => ?_) (fun c15 => ?_)
    · skip
      refine lv_aload_n hx hb dX10_sizes_23 rfl (lv_at hl 0 rfl) ?_
      refine lv_bipush (v := (-2)) hx hb dX10_sizes_24 (by decide) ?_
      refine scI (ci := 9) (As := [.int (-2)]) (rest := []) G X (k_m_no ha V (-2) (by decide) (by decide)) iy_X10_no ml_X10_68 rfl rfl rfl rfl hl.1 (by decide) (by decide) (Nat.le_of_ble_eq_true rfl) dX10_sizes_26 (fun y26 V26 H locs p26 X => ?_)
      exact srI G X (rfl) dX10_sizes_29 (by exact ⟨(mK.ag hm ((sAg.mono p26.1 (by decide)) : sAg [1, 5, 7, 8, 11, 12, 13, 14, 15] V _) (by decide)), (fun hf => by exfalso; have hg := hf.t; omega)⟩)
    · skip
      refine lv_iload_n hx hb dX10_sizes_18 rfl (lv_at hl 3 rfl) ?_
      refine lv_iconst (v := 2) hx hb dX10_sizes_19 (by decide) ?_
      refine sIle (tgt := 30) hx hb (rfl : Int32.toInt w = _) (by decide : (2 : Int32).toInt = 2) dX10_sizes_20 (by decide) (fun c20 => ?_) (fun c20 => ?_)
      · skip
        refine lv_aload_n hx hb dX10_sizes_30 rfl (lv_at hl 0 rfl) ?_
        refine sgR G X 0 7 rfl rfl fl_X10_22 dX10_sizes_31 ?_
        refine lv_iload_n hx hb dX10_sizes_34 rfl (lv_at hl 1 rfl) ?_
        refine sld G X 5 rfl (i32_in (by omega) (by omega)) dX10_sizes_35 ?_
        refine lv_topi (fun x35 e35 => ?_)
        refine lv_istore (lv' := [(4, .int x35), (0, .ref (a 0)), (1, .int q), (2, .int v), (3, .int w)]) hx hb dX10_sizes_36 hl (by decide) rfl (fun ls hl => ?_)
        refine lv_bipush (v := (-9)) hx hb dX10_sizes_38 (by decide) ?_
        refine lv_istore (lv' := [(5, .int (-9)), (4, .int x35), (0, .ref (a 0)), (1, .int q), (2, .int v), (3, .int w)]) hx hb dX10_sizes_40 hl (by decide) rfl (fun ls hl => ?_)
        refine lv_bipush (v := (-9)) hx hb dX10_sizes_42 (by decide) ?_
        refine lv_istore (lv' := [(6, .int (-9)), (5, .int (-9)), (4, .int x35), (0, .ref (a 0)), (1, .int q), (2, .int v), (3, .int w)]) hx hb dX10_sizes_44 hl (by decide) rfl (fun ls hl => ?_)
        refine lv_iconst (v := 0) hx hb dX10_sizes_46 (by decide) ?_
        refine lv_istore (lv' := [(7, .int 0), (6, .int (-9)), (5, .int (-9)), (4, .int x35), (0, .ref (a 0)), (1, .int q), (2, .int v), (3, .int w)]) hx hb dX10_sizes_47 hl (by decide) rfl (fun ls hl => ?_)
        refine lv_iconst (v := 0) hx hb dX10_sizes_49 (by decide) ?_
        refine lv_istore (lv' := [(8, .int 0), (7, .int 0), (6, .int (-9)), (5, .int (-9)), (4, .int x35), (0, .ref (a 0)), (1, .int q), (2, .int v), (3, .int w)]) hx hb dX10_sizes_50 hl (by decide) rfl (fun ls hl => ?_)
        have L52 : ∀ (fu52 : Nat) (i : Int32) (b : Int32) (g : Int32) (u : Int32) (Y : sV) (H : Heap) (locs : List Loc) (ls : Array Slot), (0 ≤ i.toInt) → (sAg [5, 13, 14] V Y) → ((10 - i.toInt).toNat) < fu52 → sWS D cI SM a Y s.heap H locs → lv_has ls 9 [(8, .int i), (7, .int u), (6, .int g), (5, .int b), (4, .int x35), (0, .ref (a 0)), (1, .int q), (2, .int v), (3, .int w)] → W p l e (rmD 4) s m ([.ref (a 0), .int q, .int v, .int w] : List Value).toArray below meth c H locs 0 0 (MQ below (va_Qi (q_m_sizes V q v w) (fun V1 t => va_P D vwCl (sWd cI SM a V1) t.heap) (sA SM a s.heap.size)) ([.ref (a 0), .int q, .int v, .int w] : List Value).toArray s 0 0 (sA SM a s.heap.size)) (F0 m 52 ls []) := by
          intro fu52
          induction fu52 with
          | zero => intro i b g u Y H locs ls hi hA hm52; exact absurd hm52 (Nat.not_lt_zero _)
          | succ fu52 ih52 =>
            intro i b g u Y H locs ls hi hA hm52 X hl
            refine lv_iload hx hb dX10_sizes_52 (lv_at hl 0 rfl) ?_
            refine lv_bipush (v := 10) hx hb dX10_sizes_54 (by decide) ?_
            refine sIge (tgt := 105) hx hb (rfl : Int32.toInt i = _) (by decide : (10 : Int32).toInt = 10) dX10_sizes_56 (by decide) (fun c56 => ?_) (fun c56 => ?_)
            · skip
              refine lv_aload_n hx hb dX10_sizes_105 rfl (lv_at hl 5 rfl) ?_
              refine sgR G X 0 7 rfl rfl fl_X10_22 dX10_sizes_106 ?_
              refine lv_iload_n hx hb dX10_sizes_109 rfl (lv_at hl 6 rfl) ?_
              refine lv_iload hx hb dX10_sizes_110 (lv_at hl 4 rfl) ?_
              refine sst G X 5 rfl (i32_in (by omega) (by omega)) dX10_sizes_112 (fun H locs X => ?_)
              refine lv_iload_n hx hb dX10_sizes_113 rfl (lv_at hl 8 rfl) ?_
              refine sZne (tgt := 122) hx hb (rfl : Int32.toInt w = _) dX10_sizes_114 (by decide) (fun c114 => ?_) (fun c114 => ?_)
              · skip
                refine lv_iload_n hx hb dX10_sizes_122 rfl (lv_at hl 8 rfl) ?_
                refine lv_iconst (v := 1) hx hb dX10_sizes_123 (by decide) ?_
                refine sIne (tgt := 132) hx hb (rfl : Int32.toInt w = _) (by decide : (1 : Int32).toInt = 1) dX10_sizes_124 (by decide) (fun c124 => ?_) (fun c124 => ?_)
                · skip
                  refine lv_iload hx hb dX10_sizes_132 (lv_at hl 1 rfl) ?_
                  exact srI G X (rfl) dX10_sizes_134 (by exact ⟨mK.ag hm (hA.up (by decide) : sAg [5, 13, 14] V _) (by decide), (fun hf => by exfalso; have hg := hf.t; omega)⟩)
                · skip
                  refine lv_iload hx hb dX10_sizes_127 (lv_at hl 2 rfl) ?_
                  refine lv_goto (tgt := 134) hx hb dX10_sizes_129 (by decide) ?_
                  exact srI G X (rfl) dX10_sizes_134 (by exact ⟨mK.ag hm (hA.up (by decide) : sAg [5, 13, 14] V _) (by decide), (fun hf => by exfalso; have hg := hf.t; omega)⟩)
              · skip
                refine lv_iload hx hb dX10_sizes_117 (lv_at hl 3 rfl) ?_
                refine lv_goto (tgt := 134) hx hb dX10_sizes_119 (by decide) ?_
                exact srI G X (rfl) dX10_sizes_134 (by exact ⟨mK.ag hm (hA.up (by decide) : sAg [5, 13, 14] V _) (by decide), (fun hf => by exfalso; have hg := hf.t; omega)⟩)
            · skip
              refine lv_aload_n hx hb dX10_sizes_59 rfl (lv_at hl 5 rfl) ?_
              refine sgR G X 0 7 rfl rfl fl_X10_22 dX10_sizes_60 ?_
              refine lv_iload_n hx hb dX10_sizes_63 rfl (lv_at hl 6 rfl) ?_
              refine lv_iload hx hb dX10_sizes_64 (lv_at hl 0 rfl) ?_
              refine sst G X 5 rfl (i32_in (by omega) (by omega)) dX10_sizes_66 (fun H locs X => ?_)
              obtain ⟨B66, eB66⟩ : ∃ Yq : sV, Yq = (sUp Y 5 (upd (Y 5) q.toNatClampNeg i)) := ⟨_, rfl⟩
              rw [← eB66] at X
              have hB : sAg [5, 13, 14] V B66 := by rw [eB66]; exact hA.up (by decide)
              have hmB66 : mI B66 := hm.ag (sAg.mono hB (by decide) : sAg [5, 12, 13, 14] V _) (by decide)
              refine lv_aload_n hx hb dX10_sizes_67 rfl (lv_at hl 5 rfl) ?_
              refine scV (ci := 9) (As := []) (rest := []) G X (k_m_settle ha B66 (by assumption)) iy_X10_settle ml_X10_144 rfl rfl rfl rfl hl.1 (by decide) (by decide) (Nat.le_of_ble_eq_true rfl) dX10_sizes_68 (fun V68 H locs p68 X => ?_)
              obtain ⟨hA68, hP68, hO68, -⟩ := p68
              have hmV68 : mI V68 := hm.ag ((sAg.mono hB (by decide) : sAg [5, 12, 13, 14] V B66).tr (sAg.mono hA68 (by decide)) : sAg [5, 12, 13, 14] V _) (by decide)
              have hv68 : (V68 0 3).toInt = (V 0 3).toInt := by rw [hA68 0 (by decide), hB 0 (by decide)]
              refine lv_aload_n hx hb dX10_sizes_71 rfl (lv_at hl 5 rfl) ?_
              refine lv_iload_n hx hb dX10_sizes_72 rfl (lv_at hl 6 rfl) ?_
              refine scI (ci := 9) (As := [.int q]) (rest := []) G X (k_m_flows ha V68 q (by assumption) (by assumption) (by assumption) (by first | assumption | omega) (by first | assumption | omega)) iy_X10_flows ml_X10_141 rfl rfl rfl rfl hl.1 (by decide) (by decide) (Nat.le_of_ble_eq_true rfl) dX10_sizes_73 (fun y73 V73 H locs p73 X => ?_)
              obtain ⟨p73, z73⟩ := p73
              subst V73
              refine lv_iload_n hx hb dX10_sizes_76 rfl (lv_at hl 7 rfl) ?_
              refine sIeq (tgt := 83) hx hb (rfl : Int32.toInt y73 = _) (rfl : Int32.toInt v = _) dX10_sizes_77 (by decide) (fun c77 => ?_) (fun c77 => ?_)
              · skip
                obtain ⟨x83, e83⟩ : ∃ y : Int32, y = u + (1) := ⟨_, rfl⟩
                refine lv_iinc (v := x83) (lv' := [(7, .int x83), (8, .int i), (6, .int g), (5, .int b), (4, .int x35), (0, .ref (a 0)), (1, .int q), (2, .int v), (3, .int w)]) hx hb dX10_sizes_83 hl (k := 1) rfl (by rw [e83]; rfl) (by decide) rfl (fun ls hl => ?_)
                refine lv_iload hx hb dX10_sizes_86 (lv_at hl 1 rfl) ?_
                refine lv_istore (lv' := [(6, .int i), (7, .int x83), (8, .int i), (5, .int b), (4, .int x35), (0, .ref (a 0)), (1, .int q), (2, .int v), (3, .int w)]) hx hb dX10_sizes_88 hl (by decide) rfl (fun ls hl => ?_)
                refine lv_iload hx hb dX10_sizes_90 (lv_at hl 3 rfl) ?_
                refine sZge (tgt := 99) hx hb (rfl : Int32.toInt b = _) dX10_sizes_92 (by decide) (fun c92 => ?_) (fun c92 => ?_)
                · skip
                  obtain ⟨x99, e99⟩ : ∃ y : Int32, y = i + (1) := ⟨_, rfl⟩
                  refine lv_iinc (v := x99) (lv' := [(8, .int x99), (6, .int i), (7, .int x83), (5, .int b), (4, .int x35), (0, .ref (a 0)), (1, .int q), (2, .int v), (3, .int w)]) hx hb dX10_sizes_99 hl (k := 2) rfl (by rw [e99]; rfl) (by decide) rfl (fun ls hl => ?_)
                  refine lv_goto (tgt := 52) hx hb dX10_sizes_102 (by decide) ?_
                  exact ih52 x99 b i x83 V68 _ _ _ (by rw [i32_i e99 (by omega)]; omega) (hB.tr (sAg.mono hA68 (by decide))) (by rw [i32_i e99 (by omega)]; omega) X (lv_sub hl [0, 2, 1, 3, 4, 5, 6, 7, 8] rfl)
                · skip
                  refine lv_iload hx hb dX10_sizes_95 (lv_at hl 2 rfl) ?_
                  refine lv_istore (lv' := [(5, .int i), (6, .int i), (7, .int x83), (8, .int i), (4, .int x35), (0, .ref (a 0)), (1, .int q), (2, .int v), (3, .int w)]) hx hb dX10_sizes_97 hl (by decide) rfl (fun ls hl => ?_)
                  obtain ⟨x99, e99⟩ : ∃ y : Int32, y = i + (1) := ⟨_, rfl⟩
                  refine lv_iinc (v := x99) (lv' := [(8, .int x99), (5, .int i), (6, .int i), (7, .int x83), (4, .int x35), (0, .ref (a 0)), (1, .int q), (2, .int v), (3, .int w)]) hx hb dX10_sizes_99 hl (k := 3) rfl (by rw [e99]; rfl) (by decide) rfl (fun ls hl => ?_)
                  refine lv_goto (tgt := 52) hx hb dX10_sizes_102 (by decide) ?_
                  exact ih52 x99 i i x83 V68 _ _ _ (by rw [i32_i e99 (by omega)]; omega) (hB.tr (sAg.mono hA68 (by decide))) (by rw [i32_i e99 (by omega)]; omega) X (lv_sub hl [0, 3, 2, 1, 4, 5, 6, 7, 8] rfl)
              · skip
                refine lv_goto (tgt := 99) hx hb dX10_sizes_80 (by decide) ?_
                obtain ⟨x99, e99⟩ : ∃ y : Int32, y = i + (1) := ⟨_, rfl⟩
                refine lv_iinc (v := x99) (lv' := [(8, .int x99), (7, .int u), (6, .int g), (5, .int b), (4, .int x35), (0, .ref (a 0)), (1, .int q), (2, .int v), (3, .int w)]) hx hb dX10_sizes_99 hl (k := 0) rfl (by rw [e99]; rfl) (by decide) rfl (fun ls hl => ?_)
                refine lv_goto (tgt := 52) hx hb dX10_sizes_102 (by decide) ?_
                exact ih52 x99 b g u V68 _ _ _ (by rw [i32_i e99 (by omega)]; omega) (hB.tr (sAg.mono hA68 (by decide))) (by rw [i32_i e99 (by omega)]; omega) X (lv_sub hl [0, 1, 2, 3, 4, 5, 6, 7, 8] rfl)
        exact L52 _ 0 (-9) (-9) 0 V _ _ _ (by decide) (sAg.rf) (Nat.lt_succ_self _) X (lv_sub hl [0, 1, 2, 3, 4, 5, 6, 7, 8] rfl)
      · skip
        refine lv_aload_n hx hb dX10_sizes_23 rfl (lv_at hl 0 rfl) ?_
        refine lv_bipush (v := (-2)) hx hb dX10_sizes_24 (by decide) ?_
        refine scI (ci := 9) (As := [.int (-2)]) (rest := []) G X (k_m_no ha V (-2) (by decide) (by decide)) iy_X10_no ml_X10_68 rfl rfl rfl rfl hl.1 (by decide) (by decide) (Nat.le_of_ble_eq_true rfl) dX10_sizes_26 (fun y26 V26 H locs p26 X => ?_)
        exact srI G X (rfl) dX10_sizes_29 (by exact ⟨(mK.ag hm ((sAg.mono p26.1 (by decide)) : sAg [1, 5, 7, 8, 11, 12, 13, 14, 15] V _) (by decide)), (fun hf => by exfalso; have hg := hf.t; omega)⟩)
  · skip
    refine lv_aload_n hx hb dX10_sizes_8 rfl (lv_at hl 0 rfl) ?_
    refine lv_iconst (v := (-1)) hx hb dX10_sizes_9 (by decide) ?_
    refine scI (ci := 9) (As := [.int (-1)]) (rest := []) G X (k_m_no ha V (-1) (by decide) (by decide)) iy_X10_no ml_X10_68 rfl rfl rfl rfl hl.1 (by decide) (by decide) (Nat.le_of_ble_eq_true rfl) dX10_sizes_10 (fun y10 V10 H locs p10 X => ?_)
    exact srI G X (rfl) dX10_sizes_13 (by exact ⟨(mK.ag hm ((sAg.mono p10.1 (by decide)) : sAg [1, 5, 7, 8, 11, 12, 13, 14, 15] V _) (by decide)), fun _ => p10.2⟩)
def q_m_put (V : sV) (i1 i2 i3 i5 : Int32) : sV → Prop := fun V1 => mI V1 ∧ sAg [0, 2, 3, 4, 5, 6, 7, 8] V V1 ∧ V1 0 = upd (V 0) 3 (V 0 3 + 1) ∧ V1 2 = upd (V 2) (V 0 3).toNatClampNeg i1 ∧ V1 3 = upd (V 3) (V 0 3).toNatClampNeg i2 ∧ V1 4 = upd (V 4) (V 0 3).toNatClampNeg i3 ∧ V1 6 = upd (V 6) (V 0 3).toNatClampNeg i5
set_option maxRecDepth 100000 in
set_option maxHeartbeats 4000000 in
theorem k_m_put {l : Launch} {D : va_G} {cI : ClassId} {a : Nat → Nat} (ha : sInj SM a) (V : sV) (i1 i2 i3 i4 i5 i6 i7 : Int32) (hm : mI V) (h3 : (V 0 3).toInt < 10) (g1 : 0 ≤ i1.toInt ∧ i1.toInt ≤ 5) (g2 : i3.toInt = 7 → 0 ≤ i2.toInt ∧ i2.toInt ≤ 5) (g5 : 0 ≤ i5.toInt ∧ i5.toInt ≤ 9) : sMV l D cI SM a V yX10_put cX10_put 8 0 [.ref (a 0), .int i1, .int i2, .int i3, .int i4, .int i5, .int i6, .int i7] (q_m_put V i1 i2 i3 i5) := by
  refine sMVof ha (by decide +kernel) (Nat.le_of_ble_eq_true rfl) ?_
  intro p e s m below meth c ls G X hl
  obtain ⟨hx, hb, hml, hown, hts, hlocks, hr, hK⟩ := id G
  have hl : lv_has ls 8 [(0, .ref (a 0)), (1, .int i1), (2, .int i2), (3, .int i3), (4, .int i4), (5, .int i5), (6, .int i6), (7, .int i7)] := hl
  obtain ⟨mf0, mf1, mf3, mf11, mf14, mf15⟩ := hm.1
  refine lv_aload_n hx hb dX10_put_0 rfl (lv_at hl 0 rfl) ?_
  refine sgR G X 0 4 rfl rfl fl_X10_13 dX10_put_1 ?_
  refine lv_aload_n hx hb dX10_put_4 rfl (lv_at hl 0 rfl) ?_
  refine sgI G X 0 3 rfl rfl fl_X10_65 dX10_put_5 ?_
  refine lv_iload_n hx hb dX10_put_8 rfl (lv_at hl 1 rfl) ?_
  refine sst G X 2 rfl (i32_in (by omega) (by omega)) dX10_put_9 (fun H locs X => ?_)
  refine lv_aload_n hx hb dX10_put_10 rfl (lv_at hl 0 rfl) ?_
  refine sgR G X 0 5 rfl rfl fl_X10_16 dX10_put_11 ?_
  refine lv_aload_n hx hb dX10_put_14 rfl (lv_at hl 0 rfl) ?_
  refine sgI G X 0 3 rfl rfl fl_X10_65 dX10_put_15 ?_
  refine sTop (y := V 0 3) rfl ?_
  refine lv_iload_n hx hb dX10_put_18 rfl (lv_at hl 2 rfl) ?_
  refine sst G X 3 rfl (i32_in (by omega) (by omega)) dX10_put_19 (fun H locs X => ?_)
  refine lv_aload_n hx hb dX10_put_20 rfl (lv_at hl 0 rfl) ?_
  refine sgR G X 0 6 rfl rfl fl_X10_19 dX10_put_21 ?_
  refine lv_aload_n hx hb dX10_put_24 rfl (lv_at hl 0 rfl) ?_
  refine sgI G X 0 3 rfl rfl fl_X10_65 dX10_put_25 ?_
  refine sTop (y := V 0 3) rfl ?_
  refine lv_iload_n hx hb dX10_put_28 rfl (lv_at hl 3 rfl) ?_
  refine sst G X 4 rfl (i32_in (by omega) (by omega)) dX10_put_29 (fun H locs X => ?_)
  refine lv_aload_n hx hb dX10_put_30 rfl (lv_at hl 0 rfl) ?_
  refine sgR G X 0 7 rfl rfl fl_X10_22 dX10_put_31 ?_
  refine lv_aload_n hx hb dX10_put_34 rfl (lv_at hl 0 rfl) ?_
  refine sgI G X 0 3 rfl rfl fl_X10_65 dX10_put_35 ?_
  refine sTop (y := V 0 3) rfl ?_
  refine lv_iload hx hb dX10_put_38 (lv_at hl 4 rfl) ?_
  refine sst G X 5 rfl (i32_in (by omega) (by omega)) dX10_put_40 (fun H locs X => ?_)
  refine lv_aload_n hx hb dX10_put_41 rfl (lv_at hl 0 rfl) ?_
  refine sgR G X 0 8 rfl rfl fl_X10_25 dX10_put_42 ?_
  refine lv_aload_n hx hb dX10_put_45 rfl (lv_at hl 0 rfl) ?_
  refine sgI G X 0 3 rfl rfl fl_X10_65 dX10_put_46 ?_
  refine sTop (y := V 0 3) rfl ?_
  refine lv_iload hx hb dX10_put_49 (lv_at hl 5 rfl) ?_
  refine sst G X 6 rfl (i32_in (by omega) (by omega)) dX10_put_51 (fun H locs X => ?_)
  refine lv_aload_n hx hb dX10_put_52 rfl (lv_at hl 0 rfl) ?_
  refine sgR G X 0 9 rfl rfl fl_X10_28 dX10_put_53 ?_
  refine lv_aload_n hx hb dX10_put_56 rfl (lv_at hl 0 rfl) ?_
  refine sgI G X 0 3 rfl rfl fl_X10_65 dX10_put_57 ?_
  refine sTop (y := V 0 3) rfl ?_
  refine lv_iload hx hb dX10_put_60 (lv_at hl 6 rfl) ?_
  refine sst G X 7 rfl (i32_in (by omega) (by omega)) dX10_put_62 (fun H locs X => ?_)
  refine lv_aload_n hx hb dX10_put_63 rfl (lv_at hl 0 rfl) ?_
  refine sgR G X 0 10 rfl rfl fl_X10_31 dX10_put_64 ?_
  refine lv_aload_n hx hb dX10_put_67 rfl (lv_at hl 0 rfl) ?_
  refine sgI G X 0 3 rfl rfl fl_X10_65 dX10_put_68 ?_
  refine sTop (y := V 0 3) rfl ?_
  refine lv_iload hx hb dX10_put_71 (lv_at hl 7 rfl) ?_
  refine sst G X 8 rfl (i32_in (by omega) (by omega)) dX10_put_73 (fun H locs X => ?_)
  refine lv_aload_n hx hb dX10_put_74 rfl (lv_at hl 0 rfl) ?_
  refine lv_dup hx hb dX10_put_75 rfl ?_
  refine sgI G X 0 3 rfl rfl fl_X10_65 dX10_put_76 ?_
  refine sTop (y := V 0 3) rfl ?_
  refine lv_iconst (v := 1) hx hb dX10_put_79 (by decide) ?_
  refine lv_iadd hx hb dX10_put_80 ?_
  refine lv_topi (fun x80 e80 => ?_)
  refine spI G X 0 3 rfl rfl fp_X10_65 dX10_put_81 (fun H locs X => ?_)
  obtain ⟨E, eE⟩ : ∃ Yq : sV, Yq = (sUp (sUp (sUp (sUp (sUp (sUp (sUp (sUp V 2 (upd (V 2) ((V 0 3).toNatClampNeg) i1)) 3 (upd ((sUp V 2 (upd (V 2) ((V 0 3).toNatClampNeg) i1)) 3) ((V 0 3).toNatClampNeg) i2)) 4 (upd ((sUp (sUp V 2 (upd (V 2) ((V 0 3).toNatClampNeg) i1)) 3 (upd ((sUp V 2 (upd (V 2) ((V 0 3).toNatClampNeg) i1)) 3) ((V 0 3).toNatClampNeg) i2)) 4) ((V 0 3).toNatClampNeg) i3)) 5 (upd ((sUp (sUp (sUp V 2 (upd (V 2) ((V 0 3).toNatClampNeg) i1)) 3 (upd ((sUp V 2 (upd (V 2) ((V 0 3).toNatClampNeg) i1)) 3) ((V 0 3).toNatClampNeg) i2)) 4 (upd ((sUp (sUp V 2 (upd (V 2) ((V 0 3).toNatClampNeg) i1)) 3 (upd ((sUp V 2 (upd (V 2) ((V 0 3).toNatClampNeg) i1)) 3) ((V 0 3).toNatClampNeg) i2)) 4) ((V 0 3).toNatClampNeg) i3)) 5) ((V 0 3).toNatClampNeg) i4)) 6 (upd ((sUp (sUp (sUp (sUp V 2 (upd (V 2) ((V 0 3).toNatClampNeg) i1)) 3 (upd ((sUp V 2 (upd (V 2) ((V 0 3).toNatClampNeg) i1)) 3) ((V 0 3).toNatClampNeg) i2)) 4 (upd ((sUp (sUp V 2 (upd (V 2) ((V 0 3).toNatClampNeg) i1)) 3 (upd ((sUp V 2 (upd (V 2) ((V 0 3).toNatClampNeg) i1)) 3) ((V 0 3).toNatClampNeg) i2)) 4) ((V 0 3).toNatClampNeg) i3)) 5 (upd ((sUp (sUp (sUp V 2 (upd (V 2) ((V 0 3).toNatClampNeg) i1)) 3 (upd ((sUp V 2 (upd (V 2) ((V 0 3).toNatClampNeg) i1)) 3) ((V 0 3).toNatClampNeg) i2)) 4 (upd ((sUp (sUp V 2 (upd (V 2) ((V 0 3).toNatClampNeg) i1)) 3 (upd ((sUp V 2 (upd (V 2) ((V 0 3).toNatClampNeg) i1)) 3) ((V 0 3).toNatClampNeg) i2)) 4) ((V 0 3).toNatClampNeg) i3)) 5) ((V 0 3).toNatClampNeg) i4)) 6) ((V 0 3).toNatClampNeg) i5)) 7 (upd ((sUp (sUp (sUp (sUp (sUp V 2 (upd (V 2) ((V 0 3).toNatClampNeg) i1)) 3 (upd ((sUp V 2 (upd (V 2) ((V 0 3).toNatClampNeg) i1)) 3) ((V 0 3).toNatClampNeg) i2)) 4 (upd ((sUp (sUp V 2 (upd (V 2) ((V 0 3).toNatClampNeg) i1)) 3 (upd ((sUp V 2 (upd (V 2) ((V 0 3).toNatClampNeg) i1)) 3) ((V 0 3).toNatClampNeg) i2)) 4) ((V 0 3).toNatClampNeg) i3)) 5 (upd ((sUp (sUp (sUp V 2 (upd (V 2) ((V 0 3).toNatClampNeg) i1)) 3 (upd ((sUp V 2 (upd (V 2) ((V 0 3).toNatClampNeg) i1)) 3) ((V 0 3).toNatClampNeg) i2)) 4 (upd ((sUp (sUp V 2 (upd (V 2) ((V 0 3).toNatClampNeg) i1)) 3 (upd ((sUp V 2 (upd (V 2) ((V 0 3).toNatClampNeg) i1)) 3) ((V 0 3).toNatClampNeg) i2)) 4) ((V 0 3).toNatClampNeg) i3)) 5) ((V 0 3).toNatClampNeg) i4)) 6 (upd ((sUp (sUp (sUp (sUp V 2 (upd (V 2) ((V 0 3).toNatClampNeg) i1)) 3 (upd ((sUp V 2 (upd (V 2) ((V 0 3).toNatClampNeg) i1)) 3) ((V 0 3).toNatClampNeg) i2)) 4 (upd ((sUp (sUp V 2 (upd (V 2) ((V 0 3).toNatClampNeg) i1)) 3 (upd ((sUp V 2 (upd (V 2) ((V 0 3).toNatClampNeg) i1)) 3) ((V 0 3).toNatClampNeg) i2)) 4) ((V 0 3).toNatClampNeg) i3)) 5 (upd ((sUp (sUp (sUp V 2 (upd (V 2) ((V 0 3).toNatClampNeg) i1)) 3 (upd ((sUp V 2 (upd (V 2) ((V 0 3).toNatClampNeg) i1)) 3) ((V 0 3).toNatClampNeg) i2)) 4 (upd ((sUp (sUp V 2 (upd (V 2) ((V 0 3).toNatClampNeg) i1)) 3 (upd ((sUp V 2 (upd (V 2) ((V 0 3).toNatClampNeg) i1)) 3) ((V 0 3).toNatClampNeg) i2)) 4) ((V 0 3).toNatClampNeg) i3)) 5) ((V 0 3).toNatClampNeg) i4)) 6) ((V 0 3).toNatClampNeg) i5)) 7) ((V 0 3).toNatClampNeg) i6)) 8 (upd ((sUp (sUp (sUp (sUp (sUp (sUp V 2 (upd (V 2) ((V 0 3).toNatClampNeg) i1)) 3 (upd ((sUp V 2 (upd (V 2) ((V 0 3).toNatClampNeg) i1)) 3) ((V 0 3).toNatClampNeg) i2)) 4 (upd ((sUp (sUp V 2 (upd (V 2) ((V 0 3).toNatClampNeg) i1)) 3 (upd ((sUp V 2 (upd (V 2) ((V 0 3).toNatClampNeg) i1)) 3) ((V 0 3).toNatClampNeg) i2)) 4) ((V 0 3).toNatClampNeg) i3)) 5 (upd ((sUp (sUp (sUp V 2 (upd (V 2) ((V 0 3).toNatClampNeg) i1)) 3 (upd ((sUp V 2 (upd (V 2) ((V 0 3).toNatClampNeg) i1)) 3) ((V 0 3).toNatClampNeg) i2)) 4 (upd ((sUp (sUp V 2 (upd (V 2) ((V 0 3).toNatClampNeg) i1)) 3 (upd ((sUp V 2 (upd (V 2) ((V 0 3).toNatClampNeg) i1)) 3) ((V 0 3).toNatClampNeg) i2)) 4) ((V 0 3).toNatClampNeg) i3)) 5) ((V 0 3).toNatClampNeg) i4)) 6 (upd ((sUp (sUp (sUp (sUp V 2 (upd (V 2) ((V 0 3).toNatClampNeg) i1)) 3 (upd ((sUp V 2 (upd (V 2) ((V 0 3).toNatClampNeg) i1)) 3) ((V 0 3).toNatClampNeg) i2)) 4 (upd ((sUp (sUp V 2 (upd (V 2) ((V 0 3).toNatClampNeg) i1)) 3 (upd ((sUp V 2 (upd (V 2) ((V 0 3).toNatClampNeg) i1)) 3) ((V 0 3).toNatClampNeg) i2)) 4) ((V 0 3).toNatClampNeg) i3)) 5 (upd ((sUp (sUp (sUp V 2 (upd (V 2) ((V 0 3).toNatClampNeg) i1)) 3 (upd ((sUp V 2 (upd (V 2) ((V 0 3).toNatClampNeg) i1)) 3) ((V 0 3).toNatClampNeg) i2)) 4 (upd ((sUp (sUp V 2 (upd (V 2) ((V 0 3).toNatClampNeg) i1)) 3 (upd ((sUp V 2 (upd (V 2) ((V 0 3).toNatClampNeg) i1)) 3) ((V 0 3).toNatClampNeg) i2)) 4) ((V 0 3).toNatClampNeg) i3)) 5) ((V 0 3).toNatClampNeg) i4)) 6) ((V 0 3).toNatClampNeg) i5)) 7 (upd ((sUp (sUp (sUp (sUp (sUp V 2 (upd (V 2) ((V 0 3).toNatClampNeg) i1)) 3 (upd ((sUp V 2 (upd (V 2) ((V 0 3).toNatClampNeg) i1)) 3) ((V 0 3).toNatClampNeg) i2)) 4 (upd ((sUp (sUp V 2 (upd (V 2) ((V 0 3).toNatClampNeg) i1)) 3 (upd ((sUp V 2 (upd (V 2) ((V 0 3).toNatClampNeg) i1)) 3) ((V 0 3).toNatClampNeg) i2)) 4) ((V 0 3).toNatClampNeg) i3)) 5 (upd ((sUp (sUp (sUp V 2 (upd (V 2) ((V 0 3).toNatClampNeg) i1)) 3 (upd ((sUp V 2 (upd (V 2) ((V 0 3).toNatClampNeg) i1)) 3) ((V 0 3).toNatClampNeg) i2)) 4 (upd ((sUp (sUp V 2 (upd (V 2) ((V 0 3).toNatClampNeg) i1)) 3 (upd ((sUp V 2 (upd (V 2) ((V 0 3).toNatClampNeg) i1)) 3) ((V 0 3).toNatClampNeg) i2)) 4) ((V 0 3).toNatClampNeg) i3)) 5) ((V 0 3).toNatClampNeg) i4)) 6 (upd ((sUp (sUp (sUp (sUp V 2 (upd (V 2) ((V 0 3).toNatClampNeg) i1)) 3 (upd ((sUp V 2 (upd (V 2) ((V 0 3).toNatClampNeg) i1)) 3) ((V 0 3).toNatClampNeg) i2)) 4 (upd ((sUp (sUp V 2 (upd (V 2) ((V 0 3).toNatClampNeg) i1)) 3 (upd ((sUp V 2 (upd (V 2) ((V 0 3).toNatClampNeg) i1)) 3) ((V 0 3).toNatClampNeg) i2)) 4) ((V 0 3).toNatClampNeg) i3)) 5 (upd ((sUp (sUp (sUp V 2 (upd (V 2) ((V 0 3).toNatClampNeg) i1)) 3 (upd ((sUp V 2 (upd (V 2) ((V 0 3).toNatClampNeg) i1)) 3) ((V 0 3).toNatClampNeg) i2)) 4 (upd ((sUp (sUp V 2 (upd (V 2) ((V 0 3).toNatClampNeg) i1)) 3 (upd ((sUp V 2 (upd (V 2) ((V 0 3).toNatClampNeg) i1)) 3) ((V 0 3).toNatClampNeg) i2)) 4) ((V 0 3).toNatClampNeg) i3)) 5) ((V 0 3).toNatClampNeg) i4)) 6) ((V 0 3).toNatClampNeg) i5)) 7) ((V 0 3).toNatClampNeg) i6)) 8) ((V 0 3).toNatClampNeg) i7)) 0 (upd ((sUp (sUp (sUp (sUp (sUp (sUp (sUp V 2 (upd (V 2) ((V 0 3).toNatClampNeg) i1)) 3 (upd ((sUp V 2 (upd (V 2) ((V 0 3).toNatClampNeg) i1)) 3) ((V 0 3).toNatClampNeg) i2)) 4 (upd ((sUp (sUp V 2 (upd (V 2) ((V 0 3).toNatClampNeg) i1)) 3 (upd ((sUp V 2 (upd (V 2) ((V 0 3).toNatClampNeg) i1)) 3) ((V 0 3).toNatClampNeg) i2)) 4) ((V 0 3).toNatClampNeg) i3)) 5 (upd ((sUp (sUp (sUp V 2 (upd (V 2) ((V 0 3).toNatClampNeg) i1)) 3 (upd ((sUp V 2 (upd (V 2) ((V 0 3).toNatClampNeg) i1)) 3) ((V 0 3).toNatClampNeg) i2)) 4 (upd ((sUp (sUp V 2 (upd (V 2) ((V 0 3).toNatClampNeg) i1)) 3 (upd ((sUp V 2 (upd (V 2) ((V 0 3).toNatClampNeg) i1)) 3) ((V 0 3).toNatClampNeg) i2)) 4) ((V 0 3).toNatClampNeg) i3)) 5) ((V 0 3).toNatClampNeg) i4)) 6 (upd ((sUp (sUp (sUp (sUp V 2 (upd (V 2) ((V 0 3).toNatClampNeg) i1)) 3 (upd ((sUp V 2 (upd (V 2) ((V 0 3).toNatClampNeg) i1)) 3) ((V 0 3).toNatClampNeg) i2)) 4 (upd ((sUp (sUp V 2 (upd (V 2) ((V 0 3).toNatClampNeg) i1)) 3 (upd ((sUp V 2 (upd (V 2) ((V 0 3).toNatClampNeg) i1)) 3) ((V 0 3).toNatClampNeg) i2)) 4) ((V 0 3).toNatClampNeg) i3)) 5 (upd ((sUp (sUp (sUp V 2 (upd (V 2) ((V 0 3).toNatClampNeg) i1)) 3 (upd ((sUp V 2 (upd (V 2) ((V 0 3).toNatClampNeg) i1)) 3) ((V 0 3).toNatClampNeg) i2)) 4 (upd ((sUp (sUp V 2 (upd (V 2) ((V 0 3).toNatClampNeg) i1)) 3 (upd ((sUp V 2 (upd (V 2) ((V 0 3).toNatClampNeg) i1)) 3) ((V 0 3).toNatClampNeg) i2)) 4) ((V 0 3).toNatClampNeg) i3)) 5) ((V 0 3).toNatClampNeg) i4)) 6) ((V 0 3).toNatClampNeg) i5)) 7 (upd ((sUp (sUp (sUp (sUp (sUp V 2 (upd (V 2) ((V 0 3).toNatClampNeg) i1)) 3 (upd ((sUp V 2 (upd (V 2) ((V 0 3).toNatClampNeg) i1)) 3) ((V 0 3).toNatClampNeg) i2)) 4 (upd ((sUp (sUp V 2 (upd (V 2) ((V 0 3).toNatClampNeg) i1)) 3 (upd ((sUp V 2 (upd (V 2) ((V 0 3).toNatClampNeg) i1)) 3) ((V 0 3).toNatClampNeg) i2)) 4) ((V 0 3).toNatClampNeg) i3)) 5 (upd ((sUp (sUp (sUp V 2 (upd (V 2) ((V 0 3).toNatClampNeg) i1)) 3 (upd ((sUp V 2 (upd (V 2) ((V 0 3).toNatClampNeg) i1)) 3) ((V 0 3).toNatClampNeg) i2)) 4 (upd ((sUp (sUp V 2 (upd (V 2) ((V 0 3).toNatClampNeg) i1)) 3 (upd ((sUp V 2 (upd (V 2) ((V 0 3).toNatClampNeg) i1)) 3) ((V 0 3).toNatClampNeg) i2)) 4) ((V 0 3).toNatClampNeg) i3)) 5) ((V 0 3).toNatClampNeg) i4)) 6 (upd ((sUp (sUp (sUp (sUp V 2 (upd (V 2) ((V 0 3).toNatClampNeg) i1)) 3 (upd ((sUp V 2 (upd (V 2) ((V 0 3).toNatClampNeg) i1)) 3) ((V 0 3).toNatClampNeg) i2)) 4 (upd ((sUp (sUp V 2 (upd (V 2) ((V 0 3).toNatClampNeg) i1)) 3 (upd ((sUp V 2 (upd (V 2) ((V 0 3).toNatClampNeg) i1)) 3) ((V 0 3).toNatClampNeg) i2)) 4) ((V 0 3).toNatClampNeg) i3)) 5 (upd ((sUp (sUp (sUp V 2 (upd (V 2) ((V 0 3).toNatClampNeg) i1)) 3 (upd ((sUp V 2 (upd (V 2) ((V 0 3).toNatClampNeg) i1)) 3) ((V 0 3).toNatClampNeg) i2)) 4 (upd ((sUp (sUp V 2 (upd (V 2) ((V 0 3).toNatClampNeg) i1)) 3 (upd ((sUp V 2 (upd (V 2) ((V 0 3).toNatClampNeg) i1)) 3) ((V 0 3).toNatClampNeg) i2)) 4) ((V 0 3).toNatClampNeg) i3)) 5) ((V 0 3).toNatClampNeg) i4)) 6) ((V 0 3).toNatClampNeg) i5)) 7) ((V 0 3).toNatClampNeg) i6)) 8 (upd ((sUp (sUp (sUp (sUp (sUp (sUp V 2 (upd (V 2) ((V 0 3).toNatClampNeg) i1)) 3 (upd ((sUp V 2 (upd (V 2) ((V 0 3).toNatClampNeg) i1)) 3) ((V 0 3).toNatClampNeg) i2)) 4 (upd ((sUp (sUp V 2 (upd (V 2) ((V 0 3).toNatClampNeg) i1)) 3 (upd ((sUp V 2 (upd (V 2) ((V 0 3).toNatClampNeg) i1)) 3) ((V 0 3).toNatClampNeg) i2)) 4) ((V 0 3).toNatClampNeg) i3)) 5 (upd ((sUp (sUp (sUp V 2 (upd (V 2) ((V 0 3).toNatClampNeg) i1)) 3 (upd ((sUp V 2 (upd (V 2) ((V 0 3).toNatClampNeg) i1)) 3) ((V 0 3).toNatClampNeg) i2)) 4 (upd ((sUp (sUp V 2 (upd (V 2) ((V 0 3).toNatClampNeg) i1)) 3 (upd ((sUp V 2 (upd (V 2) ((V 0 3).toNatClampNeg) i1)) 3) ((V 0 3).toNatClampNeg) i2)) 4) ((V 0 3).toNatClampNeg) i3)) 5) ((V 0 3).toNatClampNeg) i4)) 6 (upd ((sUp (sUp (sUp (sUp V 2 (upd (V 2) ((V 0 3).toNatClampNeg) i1)) 3 (upd ((sUp V 2 (upd (V 2) ((V 0 3).toNatClampNeg) i1)) 3) ((V 0 3).toNatClampNeg) i2)) 4 (upd ((sUp (sUp V 2 (upd (V 2) ((V 0 3).toNatClampNeg) i1)) 3 (upd ((sUp V 2 (upd (V 2) ((V 0 3).toNatClampNeg) i1)) 3) ((V 0 3).toNatClampNeg) i2)) 4) ((V 0 3).toNatClampNeg) i3)) 5 (upd ((sUp (sUp (sUp V 2 (upd (V 2) ((V 0 3).toNatClampNeg) i1)) 3 (upd ((sUp V 2 (upd (V 2) ((V 0 3).toNatClampNeg) i1)) 3) ((V 0 3).toNatClampNeg) i2)) 4 (upd ((sUp (sUp V 2 (upd (V 2) ((V 0 3).toNatClampNeg) i1)) 3 (upd ((sUp V 2 (upd (V 2) ((V 0 3).toNatClampNeg) i1)) 3) ((V 0 3).toNatClampNeg) i2)) 4) ((V 0 3).toNatClampNeg) i3)) 5) ((V 0 3).toNatClampNeg) i4)) 6) ((V 0 3).toNatClampNeg) i5)) 7 (upd ((sUp (sUp (sUp (sUp (sUp V 2 (upd (V 2) ((V 0 3).toNatClampNeg) i1)) 3 (upd ((sUp V 2 (upd (V 2) ((V 0 3).toNatClampNeg) i1)) 3) ((V 0 3).toNatClampNeg) i2)) 4 (upd ((sUp (sUp V 2 (upd (V 2) ((V 0 3).toNatClampNeg) i1)) 3 (upd ((sUp V 2 (upd (V 2) ((V 0 3).toNatClampNeg) i1)) 3) ((V 0 3).toNatClampNeg) i2)) 4) ((V 0 3).toNatClampNeg) i3)) 5 (upd ((sUp (sUp (sUp V 2 (upd (V 2) ((V 0 3).toNatClampNeg) i1)) 3 (upd ((sUp V 2 (upd (V 2) ((V 0 3).toNatClampNeg) i1)) 3) ((V 0 3).toNatClampNeg) i2)) 4 (upd ((sUp (sUp V 2 (upd (V 2) ((V 0 3).toNatClampNeg) i1)) 3 (upd ((sUp V 2 (upd (V 2) ((V 0 3).toNatClampNeg) i1)) 3) ((V 0 3).toNatClampNeg) i2)) 4) ((V 0 3).toNatClampNeg) i3)) 5) ((V 0 3).toNatClampNeg) i4)) 6 (upd ((sUp (sUp (sUp (sUp V 2 (upd (V 2) ((V 0 3).toNatClampNeg) i1)) 3 (upd ((sUp V 2 (upd (V 2) ((V 0 3).toNatClampNeg) i1)) 3) ((V 0 3).toNatClampNeg) i2)) 4 (upd ((sUp (sUp V 2 (upd (V 2) ((V 0 3).toNatClampNeg) i1)) 3 (upd ((sUp V 2 (upd (V 2) ((V 0 3).toNatClampNeg) i1)) 3) ((V 0 3).toNatClampNeg) i2)) 4) ((V 0 3).toNatClampNeg) i3)) 5 (upd ((sUp (sUp (sUp V 2 (upd (V 2) ((V 0 3).toNatClampNeg) i1)) 3 (upd ((sUp V 2 (upd (V 2) ((V 0 3).toNatClampNeg) i1)) 3) ((V 0 3).toNatClampNeg) i2)) 4 (upd ((sUp (sUp V 2 (upd (V 2) ((V 0 3).toNatClampNeg) i1)) 3 (upd ((sUp V 2 (upd (V 2) ((V 0 3).toNatClampNeg) i1)) 3) ((V 0 3).toNatClampNeg) i2)) 4) ((V 0 3).toNatClampNeg) i3)) 5) ((V 0 3).toNatClampNeg) i4)) 6) ((V 0 3).toNatClampNeg) i5)) 7) ((V 0 3).toNatClampNeg) i6)) 8) ((V 0 3).toNatClampNeg) i7)) 0) 3 x80)) := ⟨_, rfl⟩
  rw [← eE] at X
  exact srV G X dX10_put_84 (by 
      have hE : sAg [0, 2, 3, 4, 5, 6, 7, 8] V E := by rw [eE]; exact (((((((sAg.rf.up (by decide)).up (by decide)).up (by decide)).up (by decide)).up (by decide)).up (by decide)).up (by decide)).up (by decide)
      have q0 : E 0 = upd (V 0) 3 (V 0 3 + 1) := by rw [eE, e80]; rfl
      have q2 : E 2 = upd (V 2) (V 0 3).toNatClampNeg i1 := by rw [eE]; rfl
      have q3 : E 3 = upd (V 3) (V 0 3).toNatClampNeg i2 := by rw [eE]; rfl
      have q4 : E 4 = upd (V 4) (V 0 3).toNatClampNeg i3 := by rw [eE]; rfl
      have q6 : E 6 = upd (V 6) (V 0 3).toNatClampNeg i5 := by rw [eE]; rfl
      exact ⟨hm.put hE q0 (by rw [i32_i rfl (by omega)]; omega) q2 q3 q4 q6 g1 g2 g5, hE, q0, q2, q3, q4, q6⟩)
def q_m_hidden (V : sV) (v q : Int32) : Int32 → sV → Prop := fun x V1 => mK V V1 ∧ (mFr V → x = fHidden v q)
set_option maxRecDepth 100000 in
set_option maxHeartbeats 4000000 in
theorem k_m_hidden {l : Launch} {D : va_G} {cI : ClassId} {a : Nat → Nat} (ha : sInj SM a) (V : sV) (v q : Int32) (hm : mI V) : sMI l D cI SM a V yX10_hidden cX10_hidden 5 .int 5 [.ref (a 0), .int v, .int q] (q_m_hidden V v q) := by
  refine sMIof ha (by decide +kernel) (Nat.le_of_ble_eq_true rfl) ?_
  intro p e s m below meth c ls G X hl
  obtain ⟨hx, hb, hml, hown, hts, hlocks, hr, hK⟩ := id G
  have hl : lv_has ls 5 [(0, .ref (a 0)), (1, .int v), (2, .int q)] := hl
  obtain ⟨mf0, mf1, mf3, mf11, mf14, mf15⟩ := hm.1
  refine lv_iload_n hx hb dX10_hidden_0 rfl (lv_at hl 1 rfl) ?_
  refine sZlt (tgt := 8) hx hb (rfl : Int32.toInt v = _) dX10_hidden_1 (by decide) (fun c1 => ?_) (fun c1 => ?_)
  · skip
    refine lv_aload_n hx hb dX10_hidden_8 rfl (lv_at hl 0 rfl) ?_
    refine lv_bipush (v := (-4)) hx hb dX10_hidden_9 (by decide) ?_
    refine scI (ci := 9) (As := [.int (-4)]) (rest := []) G X (k_m_no ha V (-4) (by decide) (by decide)) iy_X10_no ml_X10_68 rfl rfl rfl rfl hl.1 (by decide) (by decide) (Nat.le_of_ble_eq_true rfl) dX10_hidden_11 (fun y11 V11 H locs p11 X => ?_)
    exact srI G X (rfl) dX10_hidden_14 (by exact ⟨(mK.ag hm ((sAg.mono p11.1 (by decide)) : sAg [1, 5, 7, 8, 11, 12, 13, 14, 15] V _) (by decide)), (fun hf => by have hg := hf.t; rw [p11.2]; unfold fHidden; (repeat' split) <;> first | rfl | (exfalso; omega))⟩)
  · skip
    refine lv_iload_n hx hb dX10_hidden_4 rfl (lv_at hl 2 rfl) ?_
    refine sZge (tgt := 15) hx hb (rfl : Int32.toInt q = _) dX10_hidden_5 (by decide) (fun c5 => ?_) (fun c5 => ?_)
    · skip
      refine lv_iload_n hx hb dX10_hidden_15 rfl (lv_at hl 1 rfl) ?_
      refine lv_bipush (v := 9) hx hb dX10_hidden_16 (by decide) ?_
      refine sIgt (tgt := 30) hx hb (rfl : Int32.toInt v = _) (by decide : (9 : Int32).toInt = 9) dX10_hidden_18 (by decide) (fun c18 => ?_) (fun c18 => ?_)
      · skip
        refine lv_aload_n hx hb dX10_hidden_30 rfl (lv_at hl 0 rfl) ?_
        refine lv_bipush (v := (-6)) hx hb dX10_hidden_31 (by decide) ?_
        refine scI (ci := 9) (As := [.int (-6)]) (rest := []) G X (k_m_no ha V (-6) (by decide) (by decide)) iy_X10_no ml_X10_68 rfl rfl rfl rfl hl.1 (by decide) (by decide) (Nat.le_of_ble_eq_true rfl) dX10_hidden_33 (fun y33 V33 H locs p33 X => ?_)
        exact srI G X (rfl) dX10_hidden_36 (by exact ⟨(mK.ag hm ((sAg.mono p33.1 (by decide)) : sAg [1, 5, 7, 8, 11, 12, 13, 14, 15] V _) (by decide)), (fun hf => by have hg := hf.t; rw [p33.2]; unfold fHidden; (repeat' split) <;> first | rfl | (exfalso; omega))⟩)
      · skip
        refine lv_aload_n hx hb dX10_hidden_21 rfl (lv_at hl 0 rfl) ?_
        refine sgI G X 0 3 rfl rfl fl_X10_65 dX10_hidden_22 ?_
        refine lv_bipush (v := 10) hx hb dX10_hidden_25 (by decide) ?_
        refine sIne (tgt := 37) hx hb (rfl : Int32.toInt (V 0 3) = _) (by decide : (10 : Int32).toInt = 10) dX10_hidden_27 (by decide) (fun c27 => ?_) (fun c27 => ?_)
        · skip
          refine lv_bipush (v := (-9)) hx hb dX10_hidden_37 (by decide) ?_
          refine lv_istore_n (lv' := [(3, .int (-9)), (0, .ref (a 0)), (1, .int v), (2, .int q)]) hx hb dX10_hidden_39 rfl hl (by decide) rfl (fun ls hl => ?_)
          refine lv_iconst (v := 0) hx hb dX10_hidden_40 (by decide) ?_
          refine lv_istore (lv' := [(4, .int 0), (3, .int (-9)), (0, .ref (a 0)), (1, .int v), (2, .int q)]) hx hb dX10_hidden_41 hl (by decide) rfl (fun ls hl => ?_)
          have L43 : ∀ (fu43 : Nat) (i : Int32) (b : Int32) (Y : sV) (H : Heap) (locs : List Loc) (ls : Array Slot), (0 ≤ i.toInt) → (mI Y) → (sAg [2, 3, 4, 5, 6, 7, 8, 13, 14] V Y) → (mFr V → (b.toInt = -9 ∧ (i.toInt = 0 ∨ q.toInt ≠ 0)) ∨ (b.toInt = 0 ∧ q.toInt = 0)) → (((V 0 0).toInt - i.toInt).toNat) < fu43 → sWS D cI SM a Y s.heap H locs → lv_has ls 5 [(4, .int i), (3, .int b), (0, .ref (a 0)), (1, .int v), (2, .int q)] → W p l e (rmD 5) s m ([.ref (a 0), .int v, .int q] : List Value).toArray below meth c H locs 0 0 (MQ below (va_Qi (q_m_hidden V v q) (fun V1 t => va_P D vwCl (sWd cI SM a V1) t.heap) (sA SM a s.heap.size)) ([.ref (a 0), .int v, .int q] : List Value).toArray s 0 0 (sA SM a s.heap.size)) (F0 m 43 ls []) := by
            intro fu43
            induction fu43 with
            | zero => intro i b Y H locs ls hi hmY hA hv hm43; exact absurd hm43 (Nat.not_lt_zero _)
            | succ fu43 ih43 =>
              intro i b Y H locs ls hi hmY hA hv hm43 X hl
              have hY0 : Y 0 = V 0 := hA 0 (by decide)
              have hY3 : (Y 0 3).toInt = (V 0 3).toInt := by rw [hY0]
              have hY00 : (Y 0 0).toInt = (V 0 0).toInt := by rw [hY0]
              refine lv_iload hx hb dX10_hidden_43 (lv_at hl 0 rfl) ?_
              refine lv_aload_n hx hb dX10_hidden_45 rfl (lv_at hl 2 rfl) ?_
              refine sgI G X 0 0 rfl rfl fl_X10_61 dX10_hidden_46 ?_
              refine sIge (tgt := 96) hx hb (rfl : Int32.toInt i = _) (rfl : Int32.toInt (Y 0 0) = _) dX10_hidden_49 (by decide) (fun c49 => ?_) (fun c49 => ?_)
              · skip
                rw [hY0] at c49
                refine lv_iload_n hx hb dX10_hidden_96 rfl (lv_at hl 1 rfl) ?_
                exact srI G X (rfl) dX10_hidden_97 (by exact ⟨⟨hmY, hA 10 (by decide), hA 17 (by decide), by rw [hA 0 (by decide)], by rw [hA 0 (by decide)]⟩, fun hf => by have h1 := hv hf; have hg := hf.t; unfold fHidden; rw [if_neg (by omega), if_neg (by omega), if_neg (by omega)]; exact if hq : q.toInt = 0 then by rw [if_pos hq]; exact i32_0 (by omega) else by rw [if_neg hq]; exact Int32.toInt_inj.mp (show b.toInt = -9 from by omega)⟩)
              · skip
                rw [hY0] at c49
                refine lv_iload_n hx hb dX10_hidden_52 rfl (lv_at hl 1 rfl) ?_
                refine sZge (tgt := 96) hx hb (rfl : Int32.toInt b = _) dX10_hidden_53 (by decide) (fun c53 => ?_) (fun c53 => ?_)
                · skip
                  refine lv_iload_n hx hb dX10_hidden_96 rfl (lv_at hl 1 rfl) ?_
                  exact srI G X (rfl) dX10_hidden_97 (by exact ⟨⟨hmY, hA 10 (by decide), hA 17 (by decide), by rw [hA 0 (by decide)], by rw [hA 0 (by decide)]⟩, fun hf => by have h1 := hv hf; have hg := hf.t; unfold fHidden; rw [if_neg (by omega), if_neg (by omega), if_neg (by omega)]; exact if hq : q.toInt = 0 then by rw [if_pos hq]; exact i32_0 (by omega) else by rw [if_neg hq]; exact Int32.toInt_inj.mp (show b.toInt = -9 from by omega)⟩)
                · skip
                  refine lv_aload_n hx hb dX10_hidden_56 rfl (lv_at hl 2 rfl) ?_
                  refine lv_iload hx hb dX10_hidden_57 (lv_at hl 0 rfl) ?_
                  refine lv_bipush (v := (-9)) hx hb dX10_hidden_59 (by decide) ?_
                  refine lv_iconst (v := 0) hx hb dX10_hidden_61 (by decide) ?_
                  refine lv_iload_n hx hb dX10_hidden_62 rfl (lv_at hl 3 rfl) ?_
                  refine lv_iconst (v := 5) hx hb dX10_hidden_63 (by decide) ?_
                  refine lv_iconst (v := 0) hx hb dX10_hidden_64 (by decide) ?_
                  refine lv_iconst (v := 0) hx hb dX10_hidden_65 (by decide) ?_
                  refine scV (ci := 9) (As := [.int i, .int (-9), .int 0, .int v, .int 5, .int 0, .int 0]) (rest := []) G X (k_m_put ha Y i (-9) 0 v 5 0 0 (by assumption) (by omega) (by first | assumption | decide | omega) (by first | assumption | decide | omega) (by first | assumption | decide | omega)) iy_X10_put ml_X10_109 rfl rfl rfl rfl hl.1 (by decide) (by decide) (Nat.le_of_ble_eq_true rfl) dX10_hidden_66 (fun V66 H locs p66 X => ?_)
                  obtain ⟨hm66, hA66, g0, g2, g3, g4, g6⟩ := p66
                  refine lv_aload_n hx hb dX10_hidden_69 rfl (lv_at hl 2 rfl) ?_
                  refine scI (ci := 9) (As := []) (rest := []) G X (k_m_coal ha V66 (by assumption)) iy_X10_coal ml_X10_163 rfl rfl rfl rfl hl.1 (by decide) (by decide) (Nat.le_of_ble_eq_true rfl) dX10_hidden_70 (fun y70 V70 H locs p70 X => ?_)
                  refine lv_iload_n hx hb dX10_hidden_73 rfl (lv_at hl 4 rfl) ?_
                  refine sIne (tgt := 80) hx hb (rfl : Int32.toInt y70 = _) (rfl : Int32.toInt q = _) dX10_hidden_74 (by decide) (fun c74 => ?_) (fun c74 => ?_)
                  · skip
                    refine lv_aload_n hx hb dX10_hidden_80 rfl (lv_at hl 2 rfl) ?_
                    refine lv_dup hx hb dX10_hidden_81 rfl ?_
                    refine sgI G X 0 3 rfl rfl fl_X10_65 dX10_hidden_82 ?_
                    refine lv_iconst (v := 1) hx hb dX10_hidden_85 (by decide) ?_
                    refine lv_isub hx hb dX10_hidden_86 ?_
                    refine lv_topi (fun x86 e86 => ?_)
                    refine spI G X 0 3 rfl rfl fp_X10_65 dX10_hidden_87 (fun H locs X => ?_)
                    obtain ⟨E, eE⟩ : ∃ Yq : sV, Yq = (sUp V70 0 (upd (V70 0) 3 x86)) := ⟨_, rfl⟩
                    rw [← eE] at X
                    have hE0 : E 0 = Y 0 := by rw [eE, sUp_s, e86, p70.1 0 (by decide), g0]; exact upd_back (by show Y 0 3 + 1 - 1 = Y 0 3; rw [Int32.add_sub_cancel])
                    have hEk : ∀ k, k ≠ 0 → E k = V70 k := fun k hk => by rw [eE, sUp_n _ _ hk]
                    have hm70 : mI V70 := hm66.ag p70.1 (by decide)
                    have hmE : mI E := by
                        unfold mI
                        rw [hEk 2 (by decide), hEk 3 (by decide), hEk 4 (by decide), hEk 6 (by decide), hEk 9 (by decide), hEk 10 (by decide), hEk 16 (by decide), hEk 17 (by decide), hE0]
                        exact ⟨hmY.1, hm70.2⟩
                    have hAE : sAg [2, 3, 4, 5, 6, 7, 8, 13, 14] V E := by
                        intro k hk
                        by_cases k0 : k = 0
                        · rw [k0, hE0]; exact hY0
                        · rw [hEk k k0, p70.1 k (fun z => hk ((by decide : ∀ k ∈ [13, 14], k ∈ [2, 3, 4, 5, 6, 7, 8, 13, 14]) k z)), hA66 k (fun z => by simp at z hk; omega), hA k hk]
                    obtain ⟨x90, e90⟩ : ∃ y : Int32, y = i + (1) := ⟨_, rfl⟩
                    refine lv_iinc (v := x90) (lv' := [(4, .int x90), (3, .int b), (0, .ref (a 0)), (1, .int v), (2, .int q)]) hx hb dX10_hidden_90 hl (k := 0) rfl (by rw [e90]; rfl) (by decide) rfl (fun ls hl => ?_)
                    refine lv_goto (tgt := 43) hx hb dX10_hidden_93 (by decide) ?_
                    exact ih43 x90 b E _ _ _ (by rw [i32_i e90 (by have := i32_hi (V 0 0); omega)]; omega) (hmE) (hAE) (fun hf => by
                        have hg := hf.t
                        have h2 := hv hf
                        have hY3b : Y 0 3 = 0 := by rw [hY0]; exact hf.1
                        rw [hY3b] at g4 g6 g0
                        have hq : mQuiet V66 := by
                          refine ⟨by rw [hA66 10 (by decide), hA 10 (by decide)]; exact hf.2.1, fun h hh => ?_⟩
                          have h5 : h = 0 := by rw [g0] at hh; have h6 : (h : Int) < 1 := hh; omega
                          subst h5
                          rw [g4, g6]
                          exact ⟨rfl, rfl⟩
                        have hy := p70.2.2.2 hq (by rw [hA66 15 (by decide), hA 15 (by decide)]; exact hf.2.2.1)
                        rw [hy, Int32.toInt_zero] at c74
                        have h9 : x90.toInt = i.toInt + 1 := i32_i e90 (by have := i32_hi (V 0 0); omega)
                        omega) (by rw [i32_i e90 (by have := i32_hi (V 0 0); omega)]; omega) X (lv_sub hl [0, 1, 2, 3, 4] rfl)
                  · skip
                    refine lv_iload hx hb dX10_hidden_77 (lv_at hl 0 rfl) ?_
                    refine lv_istore_n (lv' := [(3, .int i), (4, .int i), (0, .ref (a 0)), (1, .int v), (2, .int q)]) hx hb dX10_hidden_79 rfl hl (by decide) rfl (fun ls hl => ?_)
                    refine lv_aload_n hx hb dX10_hidden_80 rfl (lv_at hl 2 rfl) ?_
                    refine lv_dup hx hb dX10_hidden_81 rfl ?_
                    refine sgI G X 0 3 rfl rfl fl_X10_65 dX10_hidden_82 ?_
                    refine lv_iconst (v := 1) hx hb dX10_hidden_85 (by decide) ?_
                    refine lv_isub hx hb dX10_hidden_86 ?_
                    refine lv_topi (fun x86 e86 => ?_)
                    refine spI G X 0 3 rfl rfl fp_X10_65 dX10_hidden_87 (fun H locs X => ?_)
                    obtain ⟨E, eE⟩ : ∃ Yq : sV, Yq = (sUp V70 0 (upd (V70 0) 3 x86)) := ⟨_, rfl⟩
                    rw [← eE] at X
                    have hE0 : E 0 = Y 0 := by rw [eE, sUp_s, e86, p70.1 0 (by decide), g0]; exact upd_back (by show Y 0 3 + 1 - 1 = Y 0 3; rw [Int32.add_sub_cancel])
                    have hEk : ∀ k, k ≠ 0 → E k = V70 k := fun k hk => by rw [eE, sUp_n _ _ hk]
                    have hm70 : mI V70 := hm66.ag p70.1 (by decide)
                    have hmE : mI E := by
                        unfold mI
                        rw [hEk 2 (by decide), hEk 3 (by decide), hEk 4 (by decide), hEk 6 (by decide), hEk 9 (by decide), hEk 10 (by decide), hEk 16 (by decide), hEk 17 (by decide), hE0]
                        exact ⟨hmY.1, hm70.2⟩
                    have hAE : sAg [2, 3, 4, 5, 6, 7, 8, 13, 14] V E := by
                        intro k hk
                        by_cases k0 : k = 0
                        · rw [k0, hE0]; exact hY0
                        · rw [hEk k k0, p70.1 k (fun z => hk ((by decide : ∀ k ∈ [13, 14], k ∈ [2, 3, 4, 5, 6, 7, 8, 13, 14]) k z)), hA66 k (fun z => by simp at z hk; omega), hA k hk]
                    obtain ⟨x90, e90⟩ : ∃ y : Int32, y = i + (1) := ⟨_, rfl⟩
                    refine lv_iinc (v := x90) (lv' := [(4, .int x90), (3, .int i), (0, .ref (a 0)), (1, .int v), (2, .int q)]) hx hb dX10_hidden_90 hl (k := 1) rfl (by rw [e90]; rfl) (by decide) rfl (fun ls hl => ?_)
                    refine lv_goto (tgt := 43) hx hb dX10_hidden_93 (by decide) ?_
                    exact ih43 x90 i E _ _ _ (by rw [i32_i e90 (by have := i32_hi (V 0 0); omega)]; omega) (hmE) (hAE) (fun hf => by
                        have hg := hf.t
                        have h2 := hv hf
                        have hY3b : Y 0 3 = 0 := by rw [hY0]; exact hf.1
                        rw [hY3b] at g4 g6 g0
                        have hq : mQuiet V66 := by
                          refine ⟨by rw [hA66 10 (by decide), hA 10 (by decide)]; exact hf.2.1, fun h hh => ?_⟩
                          have h5 : h = 0 := by rw [g0] at hh; have h6 : (h : Int) < 1 := hh; omega
                          subst h5
                          rw [g4, g6]
                          exact ⟨rfl, rfl⟩
                        have hy := p70.2.2.2 hq (by rw [hA66 15 (by decide), hA 15 (by decide)]; exact hf.2.2.1)
                        rw [hy, Int32.toInt_zero] at c74
                        have h9 : x90.toInt = i.toInt + 1 := i32_i e90 (by have := i32_hi (V 0 0); omega)
                        omega) (by rw [i32_i e90 (by have := i32_hi (V 0 0); omega)]; omega) X (lv_sub hl [0, 1, 2, 3, 4] rfl)
          exact L43 _ 0 (-9) V _ _ _ (by decide) (hm) (sAg.rf) (fun _ => Or.inl ⟨by decide, Or.inl rfl⟩) (Nat.lt_succ_self _) X (lv_sub hl [0, 1, 2, 3, 4] rfl)
        · skip
          refine lv_aload_n hx hb dX10_hidden_30 rfl (lv_at hl 0 rfl) ?_
          refine lv_bipush (v := (-6)) hx hb dX10_hidden_31 (by decide) ?_
          refine scI (ci := 9) (As := [.int (-6)]) (rest := []) G X (k_m_no ha V (-6) (by decide) (by decide)) iy_X10_no ml_X10_68 rfl rfl rfl rfl hl.1 (by decide) (by decide) (Nat.le_of_ble_eq_true rfl) dX10_hidden_33 (fun y33 V33 H locs p33 X => ?_)
          exact srI G X (rfl) dX10_hidden_36 (by exact ⟨(mK.ag hm ((sAg.mono p33.1 (by decide)) : sAg [1, 5, 7, 8, 11, 12, 13, 14, 15] V _) (by decide)), (fun hf => by have hg := hf.t; rw [p33.2]; unfold fHidden; (repeat' split) <;> first | rfl | (exfalso; omega))⟩)
    · skip
      refine lv_aload_n hx hb dX10_hidden_8 rfl (lv_at hl 0 rfl) ?_
      refine lv_bipush (v := (-4)) hx hb dX10_hidden_9 (by decide) ?_
      refine scI (ci := 9) (As := [.int (-4)]) (rest := []) G X (k_m_no ha V (-4) (by decide) (by decide)) iy_X10_no ml_X10_68 rfl rfl rfl rfl hl.1 (by decide) (by decide) (Nat.le_of_ble_eq_true rfl) dX10_hidden_11 (fun y11 V11 H locs p11 X => ?_)
      exact srI G X (rfl) dX10_hidden_14 (by exact ⟨(mK.ag hm ((sAg.mono p11.1 (by decide)) : sAg [1, 5, 7, 8, 11, 12, 13, 14, 15] V _) (by decide)), (fun hf => by have hg := hf.t; rw [p11.2]; unfold fHidden; (repeat' split) <;> first | rfl | (exfalso; omega))⟩)
def q_m_draw (V : sV) (dd : Nat) : Int32 → sV → Prop := fun x V1 => (0 ≤ x.toInt ∧ x.toInt < dd) ∧ ∃ y : Int32, V1 = sUp V 0 (upd (V 0) 20 y)
set_option maxRecDepth 100000 in
set_option maxHeartbeats 4000000 in
theorem k_m_draw {l : Launch} {D : va_G} {cI : ClassId} {a : Nat → Nat} (ha : sInj SM a) (V : sV) (q : Int32) (dd : Nat) (hd : 0 < dd ∧ dd ≤ 41) (hq : q = nI dd) : sMI l D cI SM a V yX10_draw cX10_draw 2 .int 0 [.ref (a 0), .int q] (q_m_draw V dd) := by
  refine sMIof ha (by decide +kernel) (Nat.le_of_ble_eq_true rfl) ?_
  intro p e s m below meth c ls G X hl
  obtain ⟨hx, hb, hml, hown, hts, hlocks, hr, hK⟩ := id G
  have hl : lv_has ls 2 [(0, .ref (a 0)), (1, .int q)] := hl
  refine lv_aload_n hx hb dX10_draw_0 rfl (lv_at hl 0 rfl) ?_
  refine lv_aload_n hx hb dX10_draw_1 rfl (lv_at hl 0 rfl) ?_
  refine sgI G X 0 20 rfl rfl fl_X10_182 dX10_draw_2 ?_
  refine lv_ldc hx hb hown (hts _ kc_X10_185) dX10_draw_5 ?_
  refine lv_imul hx hb dX10_draw_7 ?_
  refine lv_topi (fun x7 e7 => ?_)
  refine lv_ldc hx hb hown (hts _ kc_X10_186) dX10_draw_8 ?_
  refine lv_iadd hx hb dX10_draw_10 ?_
  refine lv_topi (fun x10 e10 => ?_)
  refine spI G X 0 20 rfl rfl fp_X10_182 dX10_draw_11 (fun H locs X => ?_)
  refine lv_aload_n hx hb dX10_draw_14 rfl (lv_at hl 0 rfl) ?_
  refine sgI G X 0 20 rfl rfl fl_X10_182 dX10_draw_15 ?_
  refine sTop (y := x10) rfl ?_
  refine lv_ldc hx hb hown (hts _ kc_X10_187) dX10_draw_18 ?_
  refine lv_iand hx hb dX10_draw_20 ?_
  refine lv_topi (fun x20 e20 => ?_)
  refine lv_sipush (v := 256) hx hb dX10_draw_21 (by decide) ?_
  refine lv_idiv hx hb dX10_draw_24 (by decide) ?_
  refine lv_topi (fun x24 e24 => ?_)
  refine lv_iload_n hx hb dX10_draw_25 rfl (lv_at hl 1 rfl) ?_
  refine lv_irem hx hb dX10_draw_26 (by intro h; rw [hq] at h; have := congrArg Int32.toInt h; rw [nI_toInt (by omega), Int32.toInt_zero] at this; omega) ?_
  refine lv_topi (fun x26 e26 => ?_)
  exact srI G X (rfl) dX10_draw_27 (by (subst hq; exact ⟨m_rem e26 (m_div256 e24 (m_and e20)) hd, _, rfl⟩))
def q_m_days (V : sV) (q w : Int32) : Int32 → sV → Prop := fun x V1 => mK V V1 ∧ (mFr V → x = fDays q)
set_option maxRecDepth 100000 in
set_option maxHeartbeats 4000000 in
theorem k_m_days {l : Launch} {D : va_G} {cI : ClassId} {a : Nat → Nat} (ha : sInj SM a) (V : sV) (q w : Int32) (hm : mI V) : sMI l D cI SM a V yX10_days cX10_days 7 .int 5 [.ref (a 0), .int q, .int w] (q_m_days V q w) := by
  refine sMIof ha (by decide +kernel) (Nat.le_of_ble_eq_true rfl) ?_
  intro p e s m below meth c ls G X hl
  obtain ⟨hx, hb, hml, hown, hts, hlocks, hr, hK⟩ := id G
  have hl : lv_has ls 7 [(0, .ref (a 0)), (1, .int q), (2, .int w)] := hl
  obtain ⟨mf0, mf1, mf3, mf11, mf14, mf15⟩ := hm.1
  refine lv_iload_n hx hb dX10_days_0 rfl (lv_at hl 1 rfl) ?_
  refine lv_iconst (v := 1) hx hb dX10_days_1 (by decide) ?_
  refine sIge (tgt := 12) hx hb (rfl : Int32.toInt q = _) (by decide : (1 : Int32).toInt = 1) dX10_days_2 (by decide) (fun c2 => ?_) (fun c2 => ?_)
  · skip
    refine lv_iload_n hx hb dX10_days_12 rfl (lv_at hl 1 rfl) ?_
    refine lv_bipush (v := 30) hx hb dX10_days_13 (by decide) ?_
    refine sIle (tgt := 25) hx hb (rfl : Int32.toInt q = _) (by decide : (30 : Int32).toInt = 30) dX10_days_15 (by decide) (fun c15 => ?_) (fun c15 => ?_)
    · skip
      refine lv_aload_n hx hb dX10_days_25 rfl (lv_at hl 0 rfl) ?_
      refine lv_iload_n hx hb dX10_days_26 rfl (lv_at hl 2 rfl) ?_
      refine spI G X 0 20 rfl rfl fp_X10_182 dX10_days_27 (fun H locs X => ?_)
      refine lv_iconst (v := 0) hx hb dX10_days_30 (by decide) ?_
      refine lv_istore_n (lv' := [(3, .int 0), (0, .ref (a 0)), (1, .int q), (2, .int w)]) hx hb dX10_days_31 rfl hl (by decide) rfl (fun ls hl => ?_)
      refine lv_iconst (v := 0) hx hb dX10_days_32 (by decide) ?_
      refine lv_istore (lv' := [(4, .int 0), (3, .int 0), (0, .ref (a 0)), (1, .int q), (2, .int w)]) hx hb dX10_days_33 hl (by decide) rfl (fun ls hl => ?_)
      have L35 : ∀ (fu35 : Nat) (i : Int32) (z : Int32) (Y : sV) (H : Heap) (locs : List Loc) (ls : Array Slot), (0 ≤ i.toInt) → (mI Y) → (sAg [0, 13, 14] V Y) → (∀ j, j ≠ 20 → Y 0 j = V 0 j) → (mFr V → z = 0) → (((q).toInt - i.toInt).toNat) < fu35 → sWS D cI SM a Y s.heap H locs → lv_has ls 7 [(4, .int i), (3, .int z), (0, .ref (a 0)), (1, .int q), (2, .int w)] → W p l e (rmD 5) s m ([.ref (a 0), .int q, .int w] : List Value).toArray below meth c H locs 0 0 (MQ below (va_Qi (q_m_days V q w) (fun V1 t => va_P D vwCl (sWd cI SM a V1) t.heap) (sA SM a s.heap.size)) ([.ref (a 0), .int q, .int w] : List Value).toArray s 0 0 (sA SM a s.heap.size)) (F0 m 35 ls []) := by
        intro fu35
        induction fu35 with
        | zero => intro i z Y H locs ls hi hmY hA hF hv hm35; exact absurd hm35 (Nat.not_lt_zero _)
        | succ fu35 ih35 =>
          intro i z Y H locs ls hi hmY hA hF hv hm35 X hl
          refine lv_iload hx hb dX10_days_35 (lv_at hl 0 rfl) ?_
          refine lv_iload_n hx hb dX10_days_37 rfl (lv_at hl 3 rfl) ?_
          refine sIge (tgt := 91) hx hb (rfl : Int32.toInt i = _) (rfl : Int32.toInt q = _) dX10_days_38 (by decide) (fun c38 => ?_) (fun c38 => ?_)
          · skip
            refine lv_iload_n hx hb dX10_days_91 rfl (lv_at hl 1 rfl) ?_
            exact srI G X (rfl) dX10_days_92 (by exact ⟨⟨hmY, hA 10 (by decide), hA 17 (by decide), hF 14 (by decide), hF 24 (by decide)⟩, fun hf => by rw [hv hf]; unfold fDays; rw [if_neg (by omega), if_neg (by omega)]⟩)
          · skip
            refine lv_aload_n hx hb dX10_days_41 rfl (lv_at hl 2 rfl) ?_
            refine lv_bipush (v := 41) hx hb dX10_days_42 (by decide) ?_
            refine scI (ci := 9) (As := [.int 41]) (rest := []) G X (k_m_draw ha Y 41 41 (by decide) (by decide)) iy_X10_draw ml_X10_188 rfl rfl rfl rfl hl.1 (by decide) (by decide) (Nat.le_of_ble_eq_true rfl) dX10_days_44 (fun y44 V44 H locs p44 X => ?_)
            obtain ⟨b44, d44, z44⟩ := p44
            refine lv_istore (lv' := [(5, .int y44), (4, .int i), (3, .int z), (0, .ref (a 0)), (1, .int q), (2, .int w)]) hx hb dX10_days_47 hl (by decide) rfl (fun ls hl => ?_)
            refine lv_aload_n hx hb dX10_days_49 rfl (lv_at hl 3 rfl) ?_
            refine lv_bipush (v := 21) hx hb dX10_days_50 (by decide) ?_
            refine scI (ci := 9) (As := [.int 21]) (rest := []) G X (k_m_draw ha V44 21 21 (by decide) (by decide)) iy_X10_draw ml_X10_188 rfl rfl rfl rfl hl.1 (by decide) (by decide) (Nat.le_of_ble_eq_true rfl) dX10_days_52 (fun y52 V52 H locs p52 X => ?_)
            obtain ⟨b52, d52, z52⟩ := p52
            refine lv_istore (lv' := [(6, .int y52), (5, .int y44), (4, .int i), (3, .int z), (0, .ref (a 0)), (1, .int q), (2, .int w)]) hx hb dX10_days_55 hl (by decide) rfl (fun ls hl => ?_)
            refine lv_aload_n hx hb dX10_days_57 rfl (lv_at hl 4 rfl) ?_
            refine lv_iload hx hb dX10_days_58 (lv_at hl 1 rfl) ?_
            refine lv_iload hx hb dX10_days_60 (lv_at hl 0 rfl) ?_
            refine lv_aload_n hx hb dX10_days_62 rfl (lv_at hl 4 rfl) ?_
            refine lv_iconst (v := 4) hx hb dX10_days_63 (by decide) ?_
            refine scI (ci := 9) (As := [.int 4]) (rest := [.int y52, .int y44, .ref (a 0)]) G X (k_m_draw ha V52 4 4 (by decide) (by decide)) iy_X10_draw ml_X10_188 rfl rfl rfl rfl hl.1 (by decide) (by decide) (Nat.le_of_ble_eq_true rfl) dX10_days_64 (fun y64 V64 H locs p64 X => ?_)
            obtain ⟨b64, d64, z64⟩ := p64
            have hAd : sAg [0, 13, 14] Y V64 := by rw [z64, z52, z44]; exact ((sAg.rf.up (by decide)).up (by decide)).up (by decide)
            have hFd : ∀ j, j ≠ 20 → V64 0 j = Y 0 j := fun j hj => by
                rw [z64, z52, z44]
                simp only [sUp_s, upd, if_neg hj]
            have hm64 : mI V64 := hmY.agF hAd (by decide) (by
                have h1 := hmY.1
                unfold mF at h1 ⊢
                rw [hFd 0 (by decide), hFd 1 (by decide), hFd 3 (by decide), hFd 11 (by decide), hFd 14 (by decide), hFd 15 (by decide)]
                exact h1)
            have hf64 : -50 ≤ (V64 0 14).toInt ∧ (V64 0 14).toInt ≤ 50 := hm64.1.2.2.2.2.1
            refine lv_aload_n hx hb dX10_days_67 rfl (lv_at hl 4 rfl) ?_
            refine sgI G X 0 14 rfl rfl fl_X10_125 dX10_days_68 ?_
            refine scI (ci := 9) (As := [.int y44, .int y52, .int y64, .int (V64 0 14)]) (rest := []) G X (k_m_by ha V64 y44 y52 y64 (V64 0 14) (by assumption) (by first | assumption | (constructor <;> first | omega | decide)) (by first | assumption | (constructor <;> first | omega | decide)) (by first | assumption | (constructor <;> first | omega | decide))) iy_X10_by ml_X10_178 rfl rfl rfl rfl hl.1 (by decide) (by decide) (Nat.le_of_ble_eq_true rfl) dX10_days_71 (fun y71 V71 H locs p71 X => ?_)
            obtain ⟨hA71, hP71, hO71, -⟩ := p71
            have hm71 : mI V71 := hm64.ag hA71 (by decide)
            refine lv_pop hx hb dX10_days_74 rfl ?_
            refine lv_aload_n hx hb dX10_days_75 rfl (lv_at hl 4 rfl) ?_
            refine scI (ci := 9) (As := []) (rest := []) G X (k_m_smoke ha V71 (by assumption) (by assumption) (by assumption)) iy_X10_smoke ml_X10_153 rfl rfl rfl rfl hl.1 (by decide) (by decide) (Nat.le_of_ble_eq_true rfl) dX10_days_76 (fun y76 V76 H locs p76 X => ?_)
            obtain ⟨p76, z76⟩ := p76
            subst V76
            refine sZeq (tgt := 85) hx hb (rfl : Int32.toInt y76 = _) dX10_days_79 (by decide) (fun c79 => ?_) (fun c79 => ?_)
            · skip
              obtain ⟨x85, e85⟩ : ∃ y : Int32, y = i + (1) := ⟨_, rfl⟩
              refine lv_iinc (v := x85) (lv' := [(4, .int x85), (6, .int y52), (5, .int y44), (3, .int z), (0, .ref (a 0)), (1, .int q), (2, .int w)]) hx hb dX10_days_85 hl (k := 2) rfl (by rw [e85]; rfl) (by decide) rfl (fun ls hl => ?_)
              refine lv_goto (tgt := 35) hx hb dX10_days_88 (by decide) ?_
              exact ih35 x85 z V71 _ _ _ (by rw [i32_i e85 (by have := i32_hi (q); omega)]; omega) (hm71) (((hA.tr hAd).tr (sAg.mono hA71 (by decide)))) (fun j hj => by rw [hA71 0 (by decide), hFd j hj]; exact hF j hj) (fun hf => by have h1 := p76.2 (by rw [hA71 0 (by decide), hFd 3 (by decide), hF 3 (by decide)]; exact hf.t.1); first | (exfalso; rw [h1] at c79; exact c79 rfl) | exact hv hf) (by rw [i32_i e85 (by have := i32_hi (q); omega)]; omega) X (lv_sub hl [0, 3, 4, 5, 6] rfl)
            · skip
              obtain ⟨x82, e82⟩ : ∃ y : Int32, y = z + (1) := ⟨_, rfl⟩
              refine lv_iinc (v := x82) (lv' := [(3, .int x82), (6, .int y52), (5, .int y44), (4, .int i), (0, .ref (a 0)), (1, .int q), (2, .int w)]) hx hb dX10_days_82 hl (k := 3) rfl (by rw [e82]; rfl) (by decide) rfl (fun ls hl => ?_)
              obtain ⟨x85, e85⟩ : ∃ y : Int32, y = i + (1) := ⟨_, rfl⟩
              refine lv_iinc (v := x85) (lv' := [(4, .int x85), (3, .int x82), (6, .int y52), (5, .int y44), (0, .ref (a 0)), (1, .int q), (2, .int w)]) hx hb dX10_days_85 hl (k := 3) rfl (by rw [e85]; rfl) (by decide) rfl (fun ls hl => ?_)
              refine lv_goto (tgt := 35) hx hb dX10_days_88 (by decide) ?_
              exact ih35 x85 x82 V71 _ _ _ (by rw [i32_i e85 (by have := i32_hi (q); omega)]; omega) (hm71) (((hA.tr hAd).tr (sAg.mono hA71 (by decide)))) (fun j hj => by rw [hA71 0 (by decide), hFd j hj]; exact hF j hj) (fun hf => by have h1 := p76.2 (by rw [hA71 0 (by decide), hFd 3 (by decide), hF 3 (by decide)]; exact hf.t.1); first | (exfalso; rw [h1] at c79; exact c79 rfl) | exact hv hf) (by rw [i32_i e85 (by have := i32_hi (q); omega)]; omega) X (lv_sub hl [0, 1, 4, 5, 6] rfl)
      exact L35 _ 0 0 (sUp V 0 (upd (V 0) 20 w)) _ _ _ (by decide) (hm.agF (sAg.rf.up (by decide) : sAg [0] V _) (by decide) hm.1) (sAg.rf.up (by decide)) (fun j hj => by rw [sUp_s]; exact if_neg hj) (fun _ => rfl) (Nat.lt_succ_self _) X (lv_sub hl [0, 1, 2, 3, 4] rfl)
    · skip
      refine lv_aload_n hx hb dX10_days_18 rfl (lv_at hl 0 rfl) ?_
      refine lv_bipush (v := (-6)) hx hb dX10_days_19 (by decide) ?_
      refine scI (ci := 9) (As := [.int (-6)]) (rest := []) G X (k_m_no ha V (-6) (by decide) (by decide)) iy_X10_no ml_X10_68 rfl rfl rfl rfl hl.1 (by decide) (by decide) (Nat.le_of_ble_eq_true rfl) dX10_days_21 (fun y21 V21 H locs p21 X => ?_)
      exact srI G X (rfl) dX10_days_24 (by exact ⟨(mK.ag hm ((sAg.mono p21.1 (by decide)) : sAg [1, 5, 7, 8, 11, 12, 13, 14, 15] V _) (by decide)), (fun hf => by have hg := hf.t; rw [p21.2]; unfold fDays; (repeat' split) <;> first | rfl | (exfalso; omega))⟩)
  · skip
    refine lv_aload_n hx hb dX10_days_5 rfl (lv_at hl 0 rfl) ?_
    refine lv_bipush (v := (-4)) hx hb dX10_days_6 (by decide) ?_
    refine scI (ci := 9) (As := [.int (-4)]) (rest := []) G X (k_m_no ha V (-4) (by decide) (by decide)) iy_X10_no ml_X10_68 rfl rfl rfl rfl hl.1 (by decide) (by decide) (Nat.le_of_ble_eq_true rfl) dX10_days_8 (fun y8 V8 H locs p8 X => ?_)
    exact srI G X (rfl) dX10_days_11 (by exact ⟨(mK.ag hm ((sAg.mono p8.1 (by decide)) : sAg [1, 5, 7, 8, 11, 12, 13, 14, 15] V _) (by decide)), (fun hf => by have hg := hf.t; rw [p8.2]; unfold fDays; (repeat' split) <;> first | rfl | (exfalso; omega))⟩)
def q_m_row (V : sV) (i : Int32) : Int32 → sV → Prop := fun x V1 => mK V V1 ∧ (mFr V → x = fRow i)
set_option maxRecDepth 100000 in
set_option maxHeartbeats 4000000 in
theorem k_m_row {l : Launch} {D : va_G} {cI : ClassId} {a : Nat → Nat} (ha : sInj SM a) (V : sV) (i : Int32) (hm : mI V) : sMI l D cI SM a V yX10_row cX10_row 2 .int 1 [.ref (a 0), .int i] (q_m_row V i) := by
  refine sMIof ha (by decide +kernel) (Nat.le_of_ble_eq_true rfl) ?_
  intro p e s m below meth c ls G X hl
  obtain ⟨hx, hb, hml, hown, hts, hlocks, hr, hK⟩ := id G
  have hl : lv_has ls 2 [(0, .ref (a 0)), (1, .int i)] := hl
  obtain ⟨mf0, mf1, mf3, mf11, mf14, mf15⟩ := hm.1
  refine lv_iload_n hx hb dX10_row_0 rfl (lv_at hl 1 rfl) ?_
  refine sZge (tgt := 11) hx hb (rfl : Int32.toInt i = _) dX10_row_1 (by decide) (fun c1 => ?_) (fun c1 => ?_)
  · skip
    refine lv_iload_n hx hb dX10_row_11 rfl (lv_at hl 1 rfl) ?_
    refine lv_iconst (v := 2) hx hb dX10_row_12 (by decide) ?_
    refine sIgt (tgt := 25) hx hb (rfl : Int32.toInt i = _) (by decide : (2 : Int32).toInt = 2) dX10_row_13 (by decide) (fun c13 => ?_) (fun c13 => ?_)
    · skip
      refine lv_aload_n hx hb dX10_row_25 rfl (lv_at hl 0 rfl) ?_
      refine lv_bipush (v := (-6)) hx hb dX10_row_26 (by decide) ?_
      refine scI (ci := 9) (As := [.int (-6)]) (rest := []) G X (k_m_no ha V (-6) (by decide) (by decide)) iy_X10_no ml_X10_68 rfl rfl rfl rfl hl.1 (by decide) (by decide) (Nat.le_of_ble_eq_true rfl) dX10_row_28 (fun y28 V28 H locs p28 X => ?_)
      exact srI G X (rfl) dX10_row_31 (by exact ⟨(mK.ag hm ((sAg.mono p28.1 (by decide)) : sAg [1, 5, 7, 8, 11, 12, 13, 14, 15] V _) (by decide)), (fun hf => by have hg := hf.t; rw [p28.2]; unfold fRow; (repeat' split) <;> first | rfl | (exfalso; omega))⟩)
    · skip
      refine lv_aload_n hx hb dX10_row_16 rfl (lv_at hl 0 rfl) ?_
      refine sgI G X 0 15 rfl rfl fl_X10_191 dX10_row_17 ?_
      refine lv_bipush (v := 10) hx hb dX10_row_20 (by decide) ?_
      refine sIne (tgt := 32) hx hb (rfl : Int32.toInt (V 0 15) = _) (by decide : (10 : Int32).toInt = 10) dX10_row_22 (by decide) (fun c22 => ?_) (fun c22 => ?_)
      · skip
        refine lv_aload_n hx hb dX10_row_32 rfl (lv_at hl 0 rfl) ?_
        refine sgR G X 0 16 rfl rfl fl_X10_40 dX10_row_33 ?_
        refine lv_aload_n hx hb dX10_row_36 rfl (lv_at hl 0 rfl) ?_
        refine sgI G X 0 15 rfl rfl fl_X10_191 dX10_row_37 ?_
        refine lv_iload_n hx hb dX10_row_40 rfl (lv_at hl 1 rfl) ?_
        refine sst G X 11 rfl (i32_in (by omega) (by omega)) dX10_row_41 (fun H locs X => ?_)
        refine lv_aload_n hx hb dX10_row_42 rfl (lv_at hl 0 rfl) ?_
        refine lv_dup hx hb dX10_row_43 rfl ?_
        refine sgI G X 0 15 rfl rfl fl_X10_191 dX10_row_44 ?_
        refine sTop (y := V 0 15) rfl ?_
        refine lv_iconst (v := 1) hx hb dX10_row_47 (by decide) ?_
        refine lv_iadd hx hb dX10_row_48 ?_
        refine lv_topi (fun x48 e48 => ?_)
        refine lv_dup_x1 hx hb dX10_row_49 rfl rfl ?_
        refine spI G X 0 15 rfl rfl fp_X10_191 dX10_row_50 (fun H locs X => ?_)
        exact srI G X (rfl) dX10_row_53 (by (have t48 : x48.toInt = (V 0 15).toInt + 1 := i32_i e48 (by omega); exact ⟨⟨hm.agF ((sAg.rf.up (by decide)).up (by decide) : sAg [0, 11] V _) (by decide) (mF_15 hm.1 (by omega)), rfl, rfl, rfl, rfl⟩, fun hf => by rw [e48, hf.2.2.2.2.2.2.1]; unfold fRow; rw [if_neg (by omega), if_neg (by omega)]; rfl⟩))
      · skip
        refine lv_aload_n hx hb dX10_row_25 rfl (lv_at hl 0 rfl) ?_
        refine lv_bipush (v := (-6)) hx hb dX10_row_26 (by decide) ?_
        refine scI (ci := 9) (As := [.int (-6)]) (rest := []) G X (k_m_no ha V (-6) (by decide) (by decide)) iy_X10_no ml_X10_68 rfl rfl rfl rfl hl.1 (by decide) (by decide) (Nat.le_of_ble_eq_true rfl) dX10_row_28 (fun y28 V28 H locs p28 X => ?_)
        exact srI G X (rfl) dX10_row_31 (by exact ⟨(mK.ag hm ((sAg.mono p28.1 (by decide)) : sAg [1, 5, 7, 8, 11, 12, 13, 14, 15] V _) (by decide)), (fun hf => by have hg := hf.t; rw [p28.2]; unfold fRow; (repeat' split) <;> first | rfl | (exfalso; omega))⟩)
  · skip
    refine lv_aload_n hx hb dX10_row_4 rfl (lv_at hl 0 rfl) ?_
    refine lv_bipush (v := (-4)) hx hb dX10_row_5 (by decide) ?_
    refine scI (ci := 9) (As := [.int (-4)]) (rest := []) G X (k_m_no ha V (-4) (by decide) (by decide)) iy_X10_no ml_X10_68 rfl rfl rfl rfl hl.1 (by decide) (by decide) (Nat.le_of_ble_eq_true rfl) dX10_row_7 (fun y7 V7 H locs p7 X => ?_)
    exact srI G X (rfl) dX10_row_10 (by exact ⟨(mK.ag hm ((sAg.mono p7.1 (by decide)) : sAg [1, 5, 7, 8, 11, 12, 13, 14, 15] V _) (by decide)), (fun hf => by have hg := hf.t; rw [p7.2]; unfold fRow; (repeat' split) <;> first | rfl | (exfalso; omega))⟩)
def q_m_judge (V : sV)  : Int32 → sV → Prop := fun x V1 => mK V V1 ∧ (mFr V → x = -9)
set_option maxRecDepth 100000 in
set_option maxHeartbeats 4000000 in
theorem k_m_judge {l : Launch} {D : va_G} {cI : ClassId} {a : Nat → Nat} (ha : sInj SM a) (V : sV)  (hm : mI V) : sMI l D cI SM a V yX10_judge cX10_judge 3 .int 3 [.ref (a 0)] (q_m_judge V ) := by
  refine sMIof ha (by decide +kernel) (Nat.le_of_ble_eq_true rfl) ?_
  intro p e s m below meth c ls G X hl
  obtain ⟨hx, hb, hml, hown, hts, hlocks, hr, hK⟩ := id G
  have hl : lv_has ls 3 [(0, .ref (a 0))] := hl
  obtain ⟨mf0, mf1, mf3, mf11, mf14, mf15⟩ := hm.1
  refine lv_aload_n hx hb dX10_judge_0 rfl (lv_at hl 0 rfl) ?_
  refine scV (ci := 9) (As := []) (rest := []) G X (k_m_settle ha V (by assumption)) iy_X10_settle ml_X10_144 rfl rfl rfl rfl hl.1 (by decide) (by decide) (Nat.le_of_ble_eq_true rfl) dX10_judge_1 (fun V1 H locs p1 X => ?_)
  obtain ⟨hA, hP, hO, hC⟩ := p1
  have hmS : mI V1 := hm.ag hA (by decide)
  have hV3 : (V1 0 3).toInt = (V 0 3).toInt := by rw [hA 0 (by decide)]
  have hV15 : (V1 0 15).toInt = (V 0 15).toInt := by rw [hA 0 (by decide)]
  refine lv_bipush (v := (-9)) hx hb dX10_judge_4 (by decide) ?_
  refine lv_istore_n (lv' := [(1, .int (-9)), (0, .ref (a 0))]) hx hb dX10_judge_6 rfl hl (by decide) rfl (fun ls hl => ?_)
  refine lv_iconst (v := 0) hx hb dX10_judge_7 (by decide) ?_
  refine lv_istore_n (lv' := [(2, .int 0), (1, .int (-9)), (0, .ref (a 0))]) hx hb dX10_judge_8 rfl hl (by decide) rfl (fun ls hl => ?_)
  have L9 : ∀ (fu9 : Nat) (i : Int32) (b : Int32) (H : Heap) (locs : List Loc) (ls : Array Slot), (0 ≤ i.toInt) → (mFr V → b.toInt = -9) → (((V1 0 3).toInt - i.toInt).toNat) < fu9 → sWS D cI SM a V1 s.heap H locs → lv_has ls 3 [(2, .int i), (1, .int b), (0, .ref (a 0))] → W p l e (rmD 3) s m ([.ref (a 0)] : List Value).toArray below meth c H locs 0 0 (MQ below (va_Qi (q_m_judge V ) (fun V1 t => va_P D vwCl (sWd cI SM a V1) t.heap) (sA SM a s.heap.size)) ([.ref (a 0)] : List Value).toArray s 0 0 (sA SM a s.heap.size)) (F0 m 9 ls []) := by
    intro fu9
    induction fu9 with
    | zero => intro i b H locs ls hi hv hm9; exact absurd hm9 (Nat.not_lt_zero _)
    | succ fu9 ih9 =>
      intro i b H locs ls hi hv hm9 X hl
      refine lv_iload_n hx hb dX10_judge_9 rfl (lv_at hl 0 rfl) ?_
      refine lv_aload_n hx hb dX10_judge_10 rfl (lv_at hl 2 rfl) ?_
      refine sgI G X 0 3 rfl rfl fl_X10_65 dX10_judge_11 ?_
      refine sIge (tgt := 51) hx hb (rfl : Int32.toInt i = _) (rfl : Int32.toInt (V1 0 3) = _) dX10_judge_14 (by decide) (fun c14 => ?_) (fun c14 => ?_)
      · skip
        refine lv_iload_n hx hb dX10_judge_51 rfl (lv_at hl 1 rfl) ?_
        refine sZge (tgt := 71) hx hb (rfl : Int32.toInt b = _) dX10_judge_52 (by decide) (fun c52 => ?_) (fun c52 => ?_)
        · skip
          refine lv_iload_n hx hb dX10_judge_71 rfl (lv_at hl 1 rfl) ?_
          refine sZge (tgt := 91) hx hb (rfl : Int32.toInt b = _) dX10_judge_72 (by decide) (fun c72 => ?_) (fun c72 => ?_)
          · skip
            refine lv_aload_n hx hb dX10_judge_91 rfl (lv_at hl 2 rfl) ?_
            refine lv_iconst (v := 0) hx hb dX10_judge_92 (by decide) ?_
            refine spI G X 0 15 rfl rfl fp_X10_191 dX10_judge_93 (fun H locs X => ?_)
            refine lv_iload_n hx hb dX10_judge_96 rfl (lv_at hl 1 rfl) ?_
            exact srI G X (rfl) dX10_judge_97 (by exact ⟨⟨hmS.agF (sAg.rf.up (by decide) : sAg [0] V1 _) (by decide) (mF_15 hmS.1 (by decide)), hA 10 (by decide), hA 17 (by decide), by show V1 0 14 = _; rw [hA 0 (by decide)], by show V1 0 24 = _; rw [hA 0 (by decide)]⟩, fun hf => by have hg := hf.t; have hw := hv hf; first | exact Int32.toInt_inj.mp (by rw [hw]; rfl) | (exfalso; omega)⟩)
          · skip
            refine lv_aload_n hx hb dX10_judge_75 rfl (lv_at hl 2 rfl) ?_
            refine sgI G X 0 15 rfl rfl fl_X10_191 dX10_judge_76 ?_
            refine lv_aload_n hx hb dX10_judge_79 rfl (lv_at hl 2 rfl) ?_
            refine sgI G X 0 3 rfl rfl fl_X10_65 dX10_judge_80 ?_
            refine sIle (tgt := 91) hx hb (rfl : Int32.toInt (V1 0 15) = _) (rfl : Int32.toInt (V1 0 3) = _) dX10_judge_83 (by decide) (fun c83 => ?_) (fun c83 => ?_)
            · skip
              refine lv_aload_n hx hb dX10_judge_91 rfl (lv_at hl 2 rfl) ?_
              refine lv_iconst (v := 0) hx hb dX10_judge_92 (by decide) ?_
              refine spI G X 0 15 rfl rfl fp_X10_191 dX10_judge_93 (fun H locs X => ?_)
              refine lv_iload_n hx hb dX10_judge_96 rfl (lv_at hl 1 rfl) ?_
              exact srI G X (rfl) dX10_judge_97 (by exact ⟨⟨hmS.agF (sAg.rf.up (by decide) : sAg [0] V1 _) (by decide) (mF_15 hmS.1 (by decide)), hA 10 (by decide), hA 17 (by decide), by show V1 0 14 = _; rw [hA 0 (by decide)], by show V1 0 24 = _; rw [hA 0 (by decide)]⟩, fun hf => by have hg := hf.t; have hw := hv hf; first | exact Int32.toInt_inj.mp (by rw [hw]; rfl) | (exfalso; omega)⟩)
            · skip
              refine lv_aload_n hx hb dX10_judge_86 rfl (lv_at hl 2 rfl) ?_
              refine sgI G X 0 3 rfl rfl fl_X10_65 dX10_judge_87 ?_
              refine lv_istore_n (lv' := [(1, .int (V1 0 3)), (2, .int i), (0, .ref (a 0))]) hx hb dX10_judge_90 rfl hl (by decide) rfl (fun ls hl => ?_)
              refine lv_aload_n hx hb dX10_judge_91 rfl (lv_at hl 2 rfl) ?_
              refine lv_iconst (v := 0) hx hb dX10_judge_92 (by decide) ?_
              refine spI G X 0 15 rfl rfl fp_X10_191 dX10_judge_93 (fun H locs X => ?_)
              refine lv_iload_n hx hb dX10_judge_96 rfl (lv_at hl 0 rfl) ?_
              exact srI G X (rfl) dX10_judge_97 (by exact ⟨⟨hmS.agF (sAg.rf.up (by decide) : sAg [0] V1 _) (by decide) (mF_15 hmS.1 (by decide)), hA 10 (by decide), hA 17 (by decide), by show V1 0 14 = _; rw [hA 0 (by decide)], by show V1 0 24 = _; rw [hA 0 (by decide)]⟩, fun hf => by have hg := hf.t; have hw := hv hf; first | exact Int32.toInt_inj.mp (by rw [hw]; rfl) | (exfalso; omega)⟩)
        · skip
          refine lv_aload_n hx hb dX10_judge_55 rfl (lv_at hl 2 rfl) ?_
          refine sgI G X 0 15 rfl rfl fl_X10_191 dX10_judge_56 ?_
          refine lv_aload_n hx hb dX10_judge_59 rfl (lv_at hl 2 rfl) ?_
          refine sgI G X 0 3 rfl rfl fl_X10_65 dX10_judge_60 ?_
          refine sIge (tgt := 71) hx hb (rfl : Int32.toInt (V1 0 15) = _) (rfl : Int32.toInt (V1 0 3) = _) dX10_judge_63 (by decide) (fun c63 => ?_) (fun c63 => ?_)
          · skip
            refine lv_iload_n hx hb dX10_judge_71 rfl (lv_at hl 1 rfl) ?_
            refine sZge (tgt := 91) hx hb (rfl : Int32.toInt b = _) dX10_judge_72 (by decide) (fun c72 => ?_) (fun c72 => ?_)
            · skip
              refine lv_aload_n hx hb dX10_judge_91 rfl (lv_at hl 2 rfl) ?_
              refine lv_iconst (v := 0) hx hb dX10_judge_92 (by decide) ?_
              refine spI G X 0 15 rfl rfl fp_X10_191 dX10_judge_93 (fun H locs X => ?_)
              refine lv_iload_n hx hb dX10_judge_96 rfl (lv_at hl 1 rfl) ?_
              exact srI G X (rfl) dX10_judge_97 (by exact ⟨⟨hmS.agF (sAg.rf.up (by decide) : sAg [0] V1 _) (by decide) (mF_15 hmS.1 (by decide)), hA 10 (by decide), hA 17 (by decide), by show V1 0 14 = _; rw [hA 0 (by decide)], by show V1 0 24 = _; rw [hA 0 (by decide)]⟩, fun hf => by have hg := hf.t; have hw := hv hf; first | exact Int32.toInt_inj.mp (by rw [hw]; rfl) | (exfalso; omega)⟩)
            · skip
              refine lv_aload_n hx hb dX10_judge_75 rfl (lv_at hl 2 rfl) ?_
              refine sgI G X 0 15 rfl rfl fl_X10_191 dX10_judge_76 ?_
              refine lv_aload_n hx hb dX10_judge_79 rfl (lv_at hl 2 rfl) ?_
              refine sgI G X 0 3 rfl rfl fl_X10_65 dX10_judge_80 ?_
              refine sIle (tgt := 91) hx hb (rfl : Int32.toInt (V1 0 15) = _) (rfl : Int32.toInt (V1 0 3) = _) dX10_judge_83 (by decide) (fun c83 => ?_) (fun c83 => ?_)
              · skip
                refine lv_aload_n hx hb dX10_judge_91 rfl (lv_at hl 2 rfl) ?_
                refine lv_iconst (v := 0) hx hb dX10_judge_92 (by decide) ?_
                refine spI G X 0 15 rfl rfl fp_X10_191 dX10_judge_93 (fun H locs X => ?_)
                refine lv_iload_n hx hb dX10_judge_96 rfl (lv_at hl 1 rfl) ?_
                exact srI G X (rfl) dX10_judge_97 (by exact ⟨⟨hmS.agF (sAg.rf.up (by decide) : sAg [0] V1 _) (by decide) (mF_15 hmS.1 (by decide)), hA 10 (by decide), hA 17 (by decide), by show V1 0 14 = _; rw [hA 0 (by decide)], by show V1 0 24 = _; rw [hA 0 (by decide)]⟩, fun hf => by have hg := hf.t; have hw := hv hf; first | exact Int32.toInt_inj.mp (by rw [hw]; rfl) | (exfalso; omega)⟩)
              · skip
                refine lv_aload_n hx hb dX10_judge_86 rfl (lv_at hl 2 rfl) ?_
                refine sgI G X 0 3 rfl rfl fl_X10_65 dX10_judge_87 ?_
                refine lv_istore_n (lv' := [(1, .int (V1 0 3)), (2, .int i), (0, .ref (a 0))]) hx hb dX10_judge_90 rfl hl (by decide) rfl (fun ls hl => ?_)
                refine lv_aload_n hx hb dX10_judge_91 rfl (lv_at hl 2 rfl) ?_
                refine lv_iconst (v := 0) hx hb dX10_judge_92 (by decide) ?_
                refine spI G X 0 15 rfl rfl fp_X10_191 dX10_judge_93 (fun H locs X => ?_)
                refine lv_iload_n hx hb dX10_judge_96 rfl (lv_at hl 0 rfl) ?_
                exact srI G X (rfl) dX10_judge_97 (by exact ⟨⟨hmS.agF (sAg.rf.up (by decide) : sAg [0] V1 _) (by decide) (mF_15 hmS.1 (by decide)), hA 10 (by decide), hA 17 (by decide), by show V1 0 14 = _; rw [hA 0 (by decide)], by show V1 0 24 = _; rw [hA 0 (by decide)]⟩, fun hf => by have hg := hf.t; have hw := hv hf; first | exact Int32.toInt_inj.mp (by rw [hw]; rfl) | (exfalso; omega)⟩)
          · skip
            refine lv_aload_n hx hb dX10_judge_66 rfl (lv_at hl 2 rfl) ?_
            refine sgI G X 0 15 rfl rfl fl_X10_191 dX10_judge_67 ?_
            refine lv_istore_n (lv' := [(1, .int (V1 0 15)), (2, .int i), (0, .ref (a 0))]) hx hb dX10_judge_70 rfl hl (by decide) rfl (fun ls hl => ?_)
            refine lv_iload_n hx hb dX10_judge_71 rfl (lv_at hl 0 rfl) ?_
            refine sZge (tgt := 91) hx hb (rfl : Int32.toInt (V1 0 15) = _) dX10_judge_72 (by decide) (fun c72 => ?_) (fun c72 => ?_)
            · skip
              refine lv_aload_n hx hb dX10_judge_91 rfl (lv_at hl 2 rfl) ?_
              refine lv_iconst (v := 0) hx hb dX10_judge_92 (by decide) ?_
              refine spI G X 0 15 rfl rfl fp_X10_191 dX10_judge_93 (fun H locs X => ?_)
              refine lv_iload_n hx hb dX10_judge_96 rfl (lv_at hl 0 rfl) ?_
              exact srI G X (rfl) dX10_judge_97 (by exact ⟨⟨hmS.agF (sAg.rf.up (by decide) : sAg [0] V1 _) (by decide) (mF_15 hmS.1 (by decide)), hA 10 (by decide), hA 17 (by decide), by show V1 0 14 = _; rw [hA 0 (by decide)], by show V1 0 24 = _; rw [hA 0 (by decide)]⟩, fun hf => by have hg := hf.t; have hw := hv hf; first | exact Int32.toInt_inj.mp (by rw [hw]; rfl) | (exfalso; omega)⟩)
            · skip
              refine lv_aload_n hx hb dX10_judge_75 rfl (lv_at hl 2 rfl) ?_
              refine sgI G X 0 15 rfl rfl fl_X10_191 dX10_judge_76 ?_
              refine lv_aload_n hx hb dX10_judge_79 rfl (lv_at hl 2 rfl) ?_
              refine sgI G X 0 3 rfl rfl fl_X10_65 dX10_judge_80 ?_
              refine sIle (tgt := 91) hx hb (rfl : Int32.toInt (V1 0 15) = _) (rfl : Int32.toInt (V1 0 3) = _) dX10_judge_83 (by decide) (fun c83 => ?_) (fun c83 => ?_)
              · skip
                refine lv_aload_n hx hb dX10_judge_91 rfl (lv_at hl 2 rfl) ?_
                refine lv_iconst (v := 0) hx hb dX10_judge_92 (by decide) ?_
                refine spI G X 0 15 rfl rfl fp_X10_191 dX10_judge_93 (fun H locs X => ?_)
                refine lv_iload_n hx hb dX10_judge_96 rfl (lv_at hl 0 rfl) ?_
                exact srI G X (rfl) dX10_judge_97 (by exact ⟨⟨hmS.agF (sAg.rf.up (by decide) : sAg [0] V1 _) (by decide) (mF_15 hmS.1 (by decide)), hA 10 (by decide), hA 17 (by decide), by show V1 0 14 = _; rw [hA 0 (by decide)], by show V1 0 24 = _; rw [hA 0 (by decide)]⟩, fun hf => by have hg := hf.t; have hw := hv hf; first | exact Int32.toInt_inj.mp (by rw [hw]; rfl) | (exfalso; omega)⟩)
              · skip
                refine lv_aload_n hx hb dX10_judge_86 rfl (lv_at hl 2 rfl) ?_
                refine sgI G X 0 3 rfl rfl fl_X10_65 dX10_judge_87 ?_
                refine lv_istore_n (lv' := [(1, .int (V1 0 3)), (2, .int i), (0, .ref (a 0))]) hx hb dX10_judge_90 rfl hl (by decide) rfl (fun ls hl => ?_)
                refine lv_aload_n hx hb dX10_judge_91 rfl (lv_at hl 2 rfl) ?_
                refine lv_iconst (v := 0) hx hb dX10_judge_92 (by decide) ?_
                refine spI G X 0 15 rfl rfl fp_X10_191 dX10_judge_93 (fun H locs X => ?_)
                refine lv_iload_n hx hb dX10_judge_96 rfl (lv_at hl 0 rfl) ?_
                exact srI G X (rfl) dX10_judge_97 (by exact ⟨⟨hmS.agF (sAg.rf.up (by decide) : sAg [0] V1 _) (by decide) (mF_15 hmS.1 (by decide)), hA 10 (by decide), hA 17 (by decide), by show V1 0 14 = _; rw [hA 0 (by decide)], by show V1 0 24 = _; rw [hA 0 (by decide)]⟩, fun hf => by have hg := hf.t; have hw := hv hf; first | exact Int32.toInt_inj.mp (by rw [hw]; rfl) | (exfalso; omega)⟩)
      · skip
        refine lv_iload_n hx hb dX10_judge_17 rfl (lv_at hl 0 rfl) ?_
        refine lv_aload_n hx hb dX10_judge_18 rfl (lv_at hl 2 rfl) ?_
        refine sgI G X 0 15 rfl rfl fl_X10_191 dX10_judge_19 ?_
        refine sIge (tgt := 51) hx hb (rfl : Int32.toInt i = _) (rfl : Int32.toInt (V1 0 15) = _) dX10_judge_22 (by decide) (fun c22 => ?_) (fun c22 => ?_)
        · skip
          refine lv_iload_n hx hb dX10_judge_51 rfl (lv_at hl 1 rfl) ?_
          refine sZge (tgt := 71) hx hb (rfl : Int32.toInt b = _) dX10_judge_52 (by decide) (fun c52 => ?_) (fun c52 => ?_)
          · skip
            refine lv_iload_n hx hb dX10_judge_71 rfl (lv_at hl 1 rfl) ?_
            refine sZge (tgt := 91) hx hb (rfl : Int32.toInt b = _) dX10_judge_72 (by decide) (fun c72 => ?_) (fun c72 => ?_)
            · skip
              refine lv_aload_n hx hb dX10_judge_91 rfl (lv_at hl 2 rfl) ?_
              refine lv_iconst (v := 0) hx hb dX10_judge_92 (by decide) ?_
              refine spI G X 0 15 rfl rfl fp_X10_191 dX10_judge_93 (fun H locs X => ?_)
              refine lv_iload_n hx hb dX10_judge_96 rfl (lv_at hl 1 rfl) ?_
              exact srI G X (rfl) dX10_judge_97 (by exact ⟨⟨hmS.agF (sAg.rf.up (by decide) : sAg [0] V1 _) (by decide) (mF_15 hmS.1 (by decide)), hA 10 (by decide), hA 17 (by decide), by show V1 0 14 = _; rw [hA 0 (by decide)], by show V1 0 24 = _; rw [hA 0 (by decide)]⟩, fun hf => by have hg := hf.t; have hw := hv hf; first | exact Int32.toInt_inj.mp (by rw [hw]; rfl) | (exfalso; omega)⟩)
            · skip
              refine lv_aload_n hx hb dX10_judge_75 rfl (lv_at hl 2 rfl) ?_
              refine sgI G X 0 15 rfl rfl fl_X10_191 dX10_judge_76 ?_
              refine lv_aload_n hx hb dX10_judge_79 rfl (lv_at hl 2 rfl) ?_
              refine sgI G X 0 3 rfl rfl fl_X10_65 dX10_judge_80 ?_
              refine sIle (tgt := 91) hx hb (rfl : Int32.toInt (V1 0 15) = _) (rfl : Int32.toInt (V1 0 3) = _) dX10_judge_83 (by decide) (fun c83 => ?_) (fun c83 => ?_)
              · skip
                refine lv_aload_n hx hb dX10_judge_91 rfl (lv_at hl 2 rfl) ?_
                refine lv_iconst (v := 0) hx hb dX10_judge_92 (by decide) ?_
                refine spI G X 0 15 rfl rfl fp_X10_191 dX10_judge_93 (fun H locs X => ?_)
                refine lv_iload_n hx hb dX10_judge_96 rfl (lv_at hl 1 rfl) ?_
                exact srI G X (rfl) dX10_judge_97 (by exact ⟨⟨hmS.agF (sAg.rf.up (by decide) : sAg [0] V1 _) (by decide) (mF_15 hmS.1 (by decide)), hA 10 (by decide), hA 17 (by decide), by show V1 0 14 = _; rw [hA 0 (by decide)], by show V1 0 24 = _; rw [hA 0 (by decide)]⟩, fun hf => by have hg := hf.t; have hw := hv hf; first | exact Int32.toInt_inj.mp (by rw [hw]; rfl) | (exfalso; omega)⟩)
              · skip
                refine lv_aload_n hx hb dX10_judge_86 rfl (lv_at hl 2 rfl) ?_
                refine sgI G X 0 3 rfl rfl fl_X10_65 dX10_judge_87 ?_
                refine lv_istore_n (lv' := [(1, .int (V1 0 3)), (2, .int i), (0, .ref (a 0))]) hx hb dX10_judge_90 rfl hl (by decide) rfl (fun ls hl => ?_)
                refine lv_aload_n hx hb dX10_judge_91 rfl (lv_at hl 2 rfl) ?_
                refine lv_iconst (v := 0) hx hb dX10_judge_92 (by decide) ?_
                refine spI G X 0 15 rfl rfl fp_X10_191 dX10_judge_93 (fun H locs X => ?_)
                refine lv_iload_n hx hb dX10_judge_96 rfl (lv_at hl 0 rfl) ?_
                exact srI G X (rfl) dX10_judge_97 (by exact ⟨⟨hmS.agF (sAg.rf.up (by decide) : sAg [0] V1 _) (by decide) (mF_15 hmS.1 (by decide)), hA 10 (by decide), hA 17 (by decide), by show V1 0 14 = _; rw [hA 0 (by decide)], by show V1 0 24 = _; rw [hA 0 (by decide)]⟩, fun hf => by have hg := hf.t; have hw := hv hf; first | exact Int32.toInt_inj.mp (by rw [hw]; rfl) | (exfalso; omega)⟩)
          · skip
            refine lv_aload_n hx hb dX10_judge_55 rfl (lv_at hl 2 rfl) ?_
            refine sgI G X 0 15 rfl rfl fl_X10_191 dX10_judge_56 ?_
            refine lv_aload_n hx hb dX10_judge_59 rfl (lv_at hl 2 rfl) ?_
            refine sgI G X 0 3 rfl rfl fl_X10_65 dX10_judge_60 ?_
            refine sIge (tgt := 71) hx hb (rfl : Int32.toInt (V1 0 15) = _) (rfl : Int32.toInt (V1 0 3) = _) dX10_judge_63 (by decide) (fun c63 => ?_) (fun c63 => ?_)
            · skip
              refine lv_iload_n hx hb dX10_judge_71 rfl (lv_at hl 1 rfl) ?_
              refine sZge (tgt := 91) hx hb (rfl : Int32.toInt b = _) dX10_judge_72 (by decide) (fun c72 => ?_) (fun c72 => ?_)
              · skip
                refine lv_aload_n hx hb dX10_judge_91 rfl (lv_at hl 2 rfl) ?_
                refine lv_iconst (v := 0) hx hb dX10_judge_92 (by decide) ?_
                refine spI G X 0 15 rfl rfl fp_X10_191 dX10_judge_93 (fun H locs X => ?_)
                refine lv_iload_n hx hb dX10_judge_96 rfl (lv_at hl 1 rfl) ?_
                exact srI G X (rfl) dX10_judge_97 (by exact ⟨⟨hmS.agF (sAg.rf.up (by decide) : sAg [0] V1 _) (by decide) (mF_15 hmS.1 (by decide)), hA 10 (by decide), hA 17 (by decide), by show V1 0 14 = _; rw [hA 0 (by decide)], by show V1 0 24 = _; rw [hA 0 (by decide)]⟩, fun hf => by have hg := hf.t; have hw := hv hf; first | exact Int32.toInt_inj.mp (by rw [hw]; rfl) | (exfalso; omega)⟩)
              · skip
                refine lv_aload_n hx hb dX10_judge_75 rfl (lv_at hl 2 rfl) ?_
                refine sgI G X 0 15 rfl rfl fl_X10_191 dX10_judge_76 ?_
                refine lv_aload_n hx hb dX10_judge_79 rfl (lv_at hl 2 rfl) ?_
                refine sgI G X 0 3 rfl rfl fl_X10_65 dX10_judge_80 ?_
                refine sIle (tgt := 91) hx hb (rfl : Int32.toInt (V1 0 15) = _) (rfl : Int32.toInt (V1 0 3) = _) dX10_judge_83 (by decide) (fun c83 => ?_) (fun c83 => ?_)
                · skip
                  refine lv_aload_n hx hb dX10_judge_91 rfl (lv_at hl 2 rfl) ?_
                  refine lv_iconst (v := 0) hx hb dX10_judge_92 (by decide) ?_
                  refine spI G X 0 15 rfl rfl fp_X10_191 dX10_judge_93 (fun H locs X => ?_)
                  refine lv_iload_n hx hb dX10_judge_96 rfl (lv_at hl 1 rfl) ?_
                  exact srI G X (rfl) dX10_judge_97 (by exact ⟨⟨hmS.agF (sAg.rf.up (by decide) : sAg [0] V1 _) (by decide) (mF_15 hmS.1 (by decide)), hA 10 (by decide), hA 17 (by decide), by show V1 0 14 = _; rw [hA 0 (by decide)], by show V1 0 24 = _; rw [hA 0 (by decide)]⟩, fun hf => by have hg := hf.t; have hw := hv hf; first | exact Int32.toInt_inj.mp (by rw [hw]; rfl) | (exfalso; omega)⟩)
                · skip
                  refine lv_aload_n hx hb dX10_judge_86 rfl (lv_at hl 2 rfl) ?_
                  refine sgI G X 0 3 rfl rfl fl_X10_65 dX10_judge_87 ?_
                  refine lv_istore_n (lv' := [(1, .int (V1 0 3)), (2, .int i), (0, .ref (a 0))]) hx hb dX10_judge_90 rfl hl (by decide) rfl (fun ls hl => ?_)
                  refine lv_aload_n hx hb dX10_judge_91 rfl (lv_at hl 2 rfl) ?_
                  refine lv_iconst (v := 0) hx hb dX10_judge_92 (by decide) ?_
                  refine spI G X 0 15 rfl rfl fp_X10_191 dX10_judge_93 (fun H locs X => ?_)
                  refine lv_iload_n hx hb dX10_judge_96 rfl (lv_at hl 0 rfl) ?_
                  exact srI G X (rfl) dX10_judge_97 (by exact ⟨⟨hmS.agF (sAg.rf.up (by decide) : sAg [0] V1 _) (by decide) (mF_15 hmS.1 (by decide)), hA 10 (by decide), hA 17 (by decide), by show V1 0 14 = _; rw [hA 0 (by decide)], by show V1 0 24 = _; rw [hA 0 (by decide)]⟩, fun hf => by have hg := hf.t; have hw := hv hf; first | exact Int32.toInt_inj.mp (by rw [hw]; rfl) | (exfalso; omega)⟩)
            · skip
              refine lv_aload_n hx hb dX10_judge_66 rfl (lv_at hl 2 rfl) ?_
              refine sgI G X 0 15 rfl rfl fl_X10_191 dX10_judge_67 ?_
              refine lv_istore_n (lv' := [(1, .int (V1 0 15)), (2, .int i), (0, .ref (a 0))]) hx hb dX10_judge_70 rfl hl (by decide) rfl (fun ls hl => ?_)
              refine lv_iload_n hx hb dX10_judge_71 rfl (lv_at hl 0 rfl) ?_
              refine sZge (tgt := 91) hx hb (rfl : Int32.toInt (V1 0 15) = _) dX10_judge_72 (by decide) (fun c72 => ?_) (fun c72 => ?_)
              · skip
                refine lv_aload_n hx hb dX10_judge_91 rfl (lv_at hl 2 rfl) ?_
                refine lv_iconst (v := 0) hx hb dX10_judge_92 (by decide) ?_
                refine spI G X 0 15 rfl rfl fp_X10_191 dX10_judge_93 (fun H locs X => ?_)
                refine lv_iload_n hx hb dX10_judge_96 rfl (lv_at hl 0 rfl) ?_
                exact srI G X (rfl) dX10_judge_97 (by exact ⟨⟨hmS.agF (sAg.rf.up (by decide) : sAg [0] V1 _) (by decide) (mF_15 hmS.1 (by decide)), hA 10 (by decide), hA 17 (by decide), by show V1 0 14 = _; rw [hA 0 (by decide)], by show V1 0 24 = _; rw [hA 0 (by decide)]⟩, fun hf => by have hg := hf.t; have hw := hv hf; first | exact Int32.toInt_inj.mp (by rw [hw]; rfl) | (exfalso; omega)⟩)
              · skip
                refine lv_aload_n hx hb dX10_judge_75 rfl (lv_at hl 2 rfl) ?_
                refine sgI G X 0 15 rfl rfl fl_X10_191 dX10_judge_76 ?_
                refine lv_aload_n hx hb dX10_judge_79 rfl (lv_at hl 2 rfl) ?_
                refine sgI G X 0 3 rfl rfl fl_X10_65 dX10_judge_80 ?_
                refine sIle (tgt := 91) hx hb (rfl : Int32.toInt (V1 0 15) = _) (rfl : Int32.toInt (V1 0 3) = _) dX10_judge_83 (by decide) (fun c83 => ?_) (fun c83 => ?_)
                · skip
                  refine lv_aload_n hx hb dX10_judge_91 rfl (lv_at hl 2 rfl) ?_
                  refine lv_iconst (v := 0) hx hb dX10_judge_92 (by decide) ?_
                  refine spI G X 0 15 rfl rfl fp_X10_191 dX10_judge_93 (fun H locs X => ?_)
                  refine lv_iload_n hx hb dX10_judge_96 rfl (lv_at hl 0 rfl) ?_
                  exact srI G X (rfl) dX10_judge_97 (by exact ⟨⟨hmS.agF (sAg.rf.up (by decide) : sAg [0] V1 _) (by decide) (mF_15 hmS.1 (by decide)), hA 10 (by decide), hA 17 (by decide), by show V1 0 14 = _; rw [hA 0 (by decide)], by show V1 0 24 = _; rw [hA 0 (by decide)]⟩, fun hf => by have hg := hf.t; have hw := hv hf; first | exact Int32.toInt_inj.mp (by rw [hw]; rfl) | (exfalso; omega)⟩)
                · skip
                  refine lv_aload_n hx hb dX10_judge_86 rfl (lv_at hl 2 rfl) ?_
                  refine sgI G X 0 3 rfl rfl fl_X10_65 dX10_judge_87 ?_
                  refine lv_istore_n (lv' := [(1, .int (V1 0 3)), (2, .int i), (0, .ref (a 0))]) hx hb dX10_judge_90 rfl hl (by decide) rfl (fun ls hl => ?_)
                  refine lv_aload_n hx hb dX10_judge_91 rfl (lv_at hl 2 rfl) ?_
                  refine lv_iconst (v := 0) hx hb dX10_judge_92 (by decide) ?_
                  refine spI G X 0 15 rfl rfl fp_X10_191 dX10_judge_93 (fun H locs X => ?_)
                  refine lv_iload_n hx hb dX10_judge_96 rfl (lv_at hl 0 rfl) ?_
                  exact srI G X (rfl) dX10_judge_97 (by exact ⟨⟨hmS.agF (sAg.rf.up (by decide) : sAg [0] V1 _) (by decide) (mF_15 hmS.1 (by decide)), hA 10 (by decide), hA 17 (by decide), by show V1 0 14 = _; rw [hA 0 (by decide)], by show V1 0 24 = _; rw [hA 0 (by decide)]⟩, fun hf => by have hg := hf.t; have hw := hv hf; first | exact Int32.toInt_inj.mp (by rw [hw]; rfl) | (exfalso; omega)⟩)
        · skip
          refine lv_iload_n hx hb dX10_judge_25 rfl (lv_at hl 1 rfl) ?_
          refine sZge (tgt := 51) hx hb (rfl : Int32.toInt b = _) dX10_judge_26 (by decide) (fun c26 => ?_) (fun c26 => ?_)
          · skip
            refine lv_iload_n hx hb dX10_judge_51 rfl (lv_at hl 1 rfl) ?_
            refine sZge (tgt := 71) hx hb (rfl : Int32.toInt b = _) dX10_judge_52 (by decide) (fun c52 => ?_) (fun c52 => ?_)
            · skip
              refine lv_iload_n hx hb dX10_judge_71 rfl (lv_at hl 1 rfl) ?_
              refine sZge (tgt := 91) hx hb (rfl : Int32.toInt b = _) dX10_judge_72 (by decide) (fun c72 => ?_) (fun c72 => ?_)
              · skip
                refine lv_aload_n hx hb dX10_judge_91 rfl (lv_at hl 2 rfl) ?_
                refine lv_iconst (v := 0) hx hb dX10_judge_92 (by decide) ?_
                refine spI G X 0 15 rfl rfl fp_X10_191 dX10_judge_93 (fun H locs X => ?_)
                refine lv_iload_n hx hb dX10_judge_96 rfl (lv_at hl 1 rfl) ?_
                exact srI G X (rfl) dX10_judge_97 (by exact ⟨⟨hmS.agF (sAg.rf.up (by decide) : sAg [0] V1 _) (by decide) (mF_15 hmS.1 (by decide)), hA 10 (by decide), hA 17 (by decide), by show V1 0 14 = _; rw [hA 0 (by decide)], by show V1 0 24 = _; rw [hA 0 (by decide)]⟩, fun hf => by have hg := hf.t; have hw := hv hf; first | exact Int32.toInt_inj.mp (by rw [hw]; rfl) | (exfalso; omega)⟩)
              · skip
                refine lv_aload_n hx hb dX10_judge_75 rfl (lv_at hl 2 rfl) ?_
                refine sgI G X 0 15 rfl rfl fl_X10_191 dX10_judge_76 ?_
                refine lv_aload_n hx hb dX10_judge_79 rfl (lv_at hl 2 rfl) ?_
                refine sgI G X 0 3 rfl rfl fl_X10_65 dX10_judge_80 ?_
                refine sIle (tgt := 91) hx hb (rfl : Int32.toInt (V1 0 15) = _) (rfl : Int32.toInt (V1 0 3) = _) dX10_judge_83 (by decide) (fun c83 => ?_) (fun c83 => ?_)
                · skip
                  refine lv_aload_n hx hb dX10_judge_91 rfl (lv_at hl 2 rfl) ?_
                  refine lv_iconst (v := 0) hx hb dX10_judge_92 (by decide) ?_
                  refine spI G X 0 15 rfl rfl fp_X10_191 dX10_judge_93 (fun H locs X => ?_)
                  refine lv_iload_n hx hb dX10_judge_96 rfl (lv_at hl 1 rfl) ?_
                  exact srI G X (rfl) dX10_judge_97 (by exact ⟨⟨hmS.agF (sAg.rf.up (by decide) : sAg [0] V1 _) (by decide) (mF_15 hmS.1 (by decide)), hA 10 (by decide), hA 17 (by decide), by show V1 0 14 = _; rw [hA 0 (by decide)], by show V1 0 24 = _; rw [hA 0 (by decide)]⟩, fun hf => by have hg := hf.t; have hw := hv hf; first | exact Int32.toInt_inj.mp (by rw [hw]; rfl) | (exfalso; omega)⟩)
                · skip
                  refine lv_aload_n hx hb dX10_judge_86 rfl (lv_at hl 2 rfl) ?_
                  refine sgI G X 0 3 rfl rfl fl_X10_65 dX10_judge_87 ?_
                  refine lv_istore_n (lv' := [(1, .int (V1 0 3)), (2, .int i), (0, .ref (a 0))]) hx hb dX10_judge_90 rfl hl (by decide) rfl (fun ls hl => ?_)
                  refine lv_aload_n hx hb dX10_judge_91 rfl (lv_at hl 2 rfl) ?_
                  refine lv_iconst (v := 0) hx hb dX10_judge_92 (by decide) ?_
                  refine spI G X 0 15 rfl rfl fp_X10_191 dX10_judge_93 (fun H locs X => ?_)
                  refine lv_iload_n hx hb dX10_judge_96 rfl (lv_at hl 0 rfl) ?_
                  exact srI G X (rfl) dX10_judge_97 (by exact ⟨⟨hmS.agF (sAg.rf.up (by decide) : sAg [0] V1 _) (by decide) (mF_15 hmS.1 (by decide)), hA 10 (by decide), hA 17 (by decide), by show V1 0 14 = _; rw [hA 0 (by decide)], by show V1 0 24 = _; rw [hA 0 (by decide)]⟩, fun hf => by have hg := hf.t; have hw := hv hf; first | exact Int32.toInt_inj.mp (by rw [hw]; rfl) | (exfalso; omega)⟩)
            · skip
              refine lv_aload_n hx hb dX10_judge_55 rfl (lv_at hl 2 rfl) ?_
              refine sgI G X 0 15 rfl rfl fl_X10_191 dX10_judge_56 ?_
              refine lv_aload_n hx hb dX10_judge_59 rfl (lv_at hl 2 rfl) ?_
              refine sgI G X 0 3 rfl rfl fl_X10_65 dX10_judge_60 ?_
              refine sIge (tgt := 71) hx hb (rfl : Int32.toInt (V1 0 15) = _) (rfl : Int32.toInt (V1 0 3) = _) dX10_judge_63 (by decide) (fun c63 => ?_) (fun c63 => ?_)
              · skip
                refine lv_iload_n hx hb dX10_judge_71 rfl (lv_at hl 1 rfl) ?_
                refine sZge (tgt := 91) hx hb (rfl : Int32.toInt b = _) dX10_judge_72 (by decide) (fun c72 => ?_) (fun c72 => ?_)
                · skip
                  refine lv_aload_n hx hb dX10_judge_91 rfl (lv_at hl 2 rfl) ?_
                  refine lv_iconst (v := 0) hx hb dX10_judge_92 (by decide) ?_
                  refine spI G X 0 15 rfl rfl fp_X10_191 dX10_judge_93 (fun H locs X => ?_)
                  refine lv_iload_n hx hb dX10_judge_96 rfl (lv_at hl 1 rfl) ?_
                  exact srI G X (rfl) dX10_judge_97 (by exact ⟨⟨hmS.agF (sAg.rf.up (by decide) : sAg [0] V1 _) (by decide) (mF_15 hmS.1 (by decide)), hA 10 (by decide), hA 17 (by decide), by show V1 0 14 = _; rw [hA 0 (by decide)], by show V1 0 24 = _; rw [hA 0 (by decide)]⟩, fun hf => by have hg := hf.t; have hw := hv hf; first | exact Int32.toInt_inj.mp (by rw [hw]; rfl) | (exfalso; omega)⟩)
                · skip
                  refine lv_aload_n hx hb dX10_judge_75 rfl (lv_at hl 2 rfl) ?_
                  refine sgI G X 0 15 rfl rfl fl_X10_191 dX10_judge_76 ?_
                  refine lv_aload_n hx hb dX10_judge_79 rfl (lv_at hl 2 rfl) ?_
                  refine sgI G X 0 3 rfl rfl fl_X10_65 dX10_judge_80 ?_
                  refine sIle (tgt := 91) hx hb (rfl : Int32.toInt (V1 0 15) = _) (rfl : Int32.toInt (V1 0 3) = _) dX10_judge_83 (by decide) (fun c83 => ?_) (fun c83 => ?_)
                  · skip
                    refine lv_aload_n hx hb dX10_judge_91 rfl (lv_at hl 2 rfl) ?_
                    refine lv_iconst (v := 0) hx hb dX10_judge_92 (by decide) ?_
                    refine spI G X 0 15 rfl rfl fp_X10_191 dX10_judge_93 (fun H locs X => ?_)
                    refine lv_iload_n hx hb dX10_judge_96 rfl (lv_at hl 1 rfl) ?_
                    exact srI G X (rfl) dX10_judge_97 (by exact ⟨⟨hmS.agF (sAg.rf.up (by decide) : sAg [0] V1 _) (by decide) (mF_15 hmS.1 (by decide)), hA 10 (by decide), hA 17 (by decide), by show V1 0 14 = _; rw [hA 0 (by decide)], by show V1 0 24 = _; rw [hA 0 (by decide)]⟩, fun hf => by have hg := hf.t; have hw := hv hf; first | exact Int32.toInt_inj.mp (by rw [hw]; rfl) | (exfalso; omega)⟩)
                  · skip
                    refine lv_aload_n hx hb dX10_judge_86 rfl (lv_at hl 2 rfl) ?_
                    refine sgI G X 0 3 rfl rfl fl_X10_65 dX10_judge_87 ?_
                    refine lv_istore_n (lv' := [(1, .int (V1 0 3)), (2, .int i), (0, .ref (a 0))]) hx hb dX10_judge_90 rfl hl (by decide) rfl (fun ls hl => ?_)
                    refine lv_aload_n hx hb dX10_judge_91 rfl (lv_at hl 2 rfl) ?_
                    refine lv_iconst (v := 0) hx hb dX10_judge_92 (by decide) ?_
                    refine spI G X 0 15 rfl rfl fp_X10_191 dX10_judge_93 (fun H locs X => ?_)
                    refine lv_iload_n hx hb dX10_judge_96 rfl (lv_at hl 0 rfl) ?_
                    exact srI G X (rfl) dX10_judge_97 (by exact ⟨⟨hmS.agF (sAg.rf.up (by decide) : sAg [0] V1 _) (by decide) (mF_15 hmS.1 (by decide)), hA 10 (by decide), hA 17 (by decide), by show V1 0 14 = _; rw [hA 0 (by decide)], by show V1 0 24 = _; rw [hA 0 (by decide)]⟩, fun hf => by have hg := hf.t; have hw := hv hf; first | exact Int32.toInt_inj.mp (by rw [hw]; rfl) | (exfalso; omega)⟩)
              · skip
                refine lv_aload_n hx hb dX10_judge_66 rfl (lv_at hl 2 rfl) ?_
                refine sgI G X 0 15 rfl rfl fl_X10_191 dX10_judge_67 ?_
                refine lv_istore_n (lv' := [(1, .int (V1 0 15)), (2, .int i), (0, .ref (a 0))]) hx hb dX10_judge_70 rfl hl (by decide) rfl (fun ls hl => ?_)
                refine lv_iload_n hx hb dX10_judge_71 rfl (lv_at hl 0 rfl) ?_
                refine sZge (tgt := 91) hx hb (rfl : Int32.toInt (V1 0 15) = _) dX10_judge_72 (by decide) (fun c72 => ?_) (fun c72 => ?_)
                · skip
                  refine lv_aload_n hx hb dX10_judge_91 rfl (lv_at hl 2 rfl) ?_
                  refine lv_iconst (v := 0) hx hb dX10_judge_92 (by decide) ?_
                  refine spI G X 0 15 rfl rfl fp_X10_191 dX10_judge_93 (fun H locs X => ?_)
                  refine lv_iload_n hx hb dX10_judge_96 rfl (lv_at hl 0 rfl) ?_
                  exact srI G X (rfl) dX10_judge_97 (by exact ⟨⟨hmS.agF (sAg.rf.up (by decide) : sAg [0] V1 _) (by decide) (mF_15 hmS.1 (by decide)), hA 10 (by decide), hA 17 (by decide), by show V1 0 14 = _; rw [hA 0 (by decide)], by show V1 0 24 = _; rw [hA 0 (by decide)]⟩, fun hf => by have hg := hf.t; have hw := hv hf; first | exact Int32.toInt_inj.mp (by rw [hw]; rfl) | (exfalso; omega)⟩)
                · skip
                  refine lv_aload_n hx hb dX10_judge_75 rfl (lv_at hl 2 rfl) ?_
                  refine sgI G X 0 15 rfl rfl fl_X10_191 dX10_judge_76 ?_
                  refine lv_aload_n hx hb dX10_judge_79 rfl (lv_at hl 2 rfl) ?_
                  refine sgI G X 0 3 rfl rfl fl_X10_65 dX10_judge_80 ?_
                  refine sIle (tgt := 91) hx hb (rfl : Int32.toInt (V1 0 15) = _) (rfl : Int32.toInt (V1 0 3) = _) dX10_judge_83 (by decide) (fun c83 => ?_) (fun c83 => ?_)
                  · skip
                    refine lv_aload_n hx hb dX10_judge_91 rfl (lv_at hl 2 rfl) ?_
                    refine lv_iconst (v := 0) hx hb dX10_judge_92 (by decide) ?_
                    refine spI G X 0 15 rfl rfl fp_X10_191 dX10_judge_93 (fun H locs X => ?_)
                    refine lv_iload_n hx hb dX10_judge_96 rfl (lv_at hl 0 rfl) ?_
                    exact srI G X (rfl) dX10_judge_97 (by exact ⟨⟨hmS.agF (sAg.rf.up (by decide) : sAg [0] V1 _) (by decide) (mF_15 hmS.1 (by decide)), hA 10 (by decide), hA 17 (by decide), by show V1 0 14 = _; rw [hA 0 (by decide)], by show V1 0 24 = _; rw [hA 0 (by decide)]⟩, fun hf => by have hg := hf.t; have hw := hv hf; first | exact Int32.toInt_inj.mp (by rw [hw]; rfl) | (exfalso; omega)⟩)
                  · skip
                    refine lv_aload_n hx hb dX10_judge_86 rfl (lv_at hl 2 rfl) ?_
                    refine sgI G X 0 3 rfl rfl fl_X10_65 dX10_judge_87 ?_
                    refine lv_istore_n (lv' := [(1, .int (V1 0 3)), (2, .int i), (0, .ref (a 0))]) hx hb dX10_judge_90 rfl hl (by decide) rfl (fun ls hl => ?_)
                    refine lv_aload_n hx hb dX10_judge_91 rfl (lv_at hl 2 rfl) ?_
                    refine lv_iconst (v := 0) hx hb dX10_judge_92 (by decide) ?_
                    refine spI G X 0 15 rfl rfl fp_X10_191 dX10_judge_93 (fun H locs X => ?_)
                    refine lv_iload_n hx hb dX10_judge_96 rfl (lv_at hl 0 rfl) ?_
                    exact srI G X (rfl) dX10_judge_97 (by exact ⟨⟨hmS.agF (sAg.rf.up (by decide) : sAg [0] V1 _) (by decide) (mF_15 hmS.1 (by decide)), hA 10 (by decide), hA 17 (by decide), by show V1 0 14 = _; rw [hA 0 (by decide)], by show V1 0 24 = _; rw [hA 0 (by decide)]⟩, fun hf => by have hg := hf.t; have hw := hv hf; first | exact Int32.toInt_inj.mp (by rw [hw]; rfl) | (exfalso; omega)⟩)
          · skip
            refine lv_aload_n hx hb dX10_judge_29 rfl (lv_at hl 2 rfl) ?_
            refine sgR G X 0 16 rfl rfl fl_X10_40 dX10_judge_30 ?_
            refine lv_iload_n hx hb dX10_judge_33 rfl (lv_at hl 0 rfl) ?_
            refine sld G X 11 rfl (i32_in (by omega) (by omega)) dX10_judge_34 ?_
            refine lv_topi (fun x34 e34 => ?_)
            refine lv_aload_n hx hb dX10_judge_35 rfl (lv_at hl 2 rfl) ?_
            refine lv_iload_n hx hb dX10_judge_36 rfl (lv_at hl 0 rfl) ?_
            refine scI (ci := 9) (As := [.int i]) (rest := [.int x34]) G X (k_m_leans ha V1 i (by assumption) (by assumption) (by assumption) (by first | assumption | omega) (by first | assumption | omega)) iy_X10_leans ml_X10_147 rfl rfl rfl rfl hl.1 (by decide) (by decide) (Nat.le_of_ble_eq_true rfl) dX10_judge_37 (fun y37 V37 H locs p37 X => ?_)
            obtain ⟨p37, z37⟩ := p37
            subst V37
            refine sIeq (tgt := 45) hx hb (rfl : Int32.toInt x34 = _) (rfl : Int32.toInt y37 = _) dX10_judge_40 (by decide) (fun c40 => ?_) (fun c40 => ?_)
            · skip
              obtain ⟨x45, e45⟩ : ∃ y : Int32, y = i + (1) := ⟨_, rfl⟩
              refine lv_iinc (v := x45) (lv' := [(2, .int x45), (1, .int b), (0, .ref (a 0))]) hx hb dX10_judge_45 hl (k := 0) rfl (by rw [e45]; rfl) (by decide) rfl (fun ls hl => ?_)
              refine lv_goto (tgt := 9) hx hb dX10_judge_48 (by decide) ?_
              exact ih9 x45 b _ _ _ (by rw [i32_i e45 (by have := i32_hi (V1 0 3); omega)]; omega) (fun hf => by exfalso; have hg := hf.t; omega) (by rw [i32_i e45 (by have := i32_hi (V1 0 3); omega)]; omega) X (lv_sub hl [0, 1, 2] rfl)
            · skip
              refine lv_iload_n hx hb dX10_judge_43 rfl (lv_at hl 0 rfl) ?_
              refine lv_istore_n (lv' := [(1, .int i), (2, .int i), (0, .ref (a 0))]) hx hb dX10_judge_44 rfl hl (by decide) rfl (fun ls hl => ?_)
              obtain ⟨x45, e45⟩ : ∃ y : Int32, y = i + (1) := ⟨_, rfl⟩
              refine lv_iinc (v := x45) (lv' := [(2, .int x45), (1, .int i), (0, .ref (a 0))]) hx hb dX10_judge_45 hl (k := 1) rfl (by rw [e45]; rfl) (by decide) rfl (fun ls hl => ?_)
              refine lv_goto (tgt := 9) hx hb dX10_judge_48 (by decide) ?_
              exact ih9 x45 i _ _ _ (by rw [i32_i e45 (by have := i32_hi (V1 0 3); omega)]; omega) (fun hf => by exfalso; have hg := hf.t; omega) (by rw [i32_i e45 (by have := i32_hi (V1 0 3); omega)]; omega) X (lv_sub hl [0, 1, 2] rfl)
  exact L9 _ 0 (-9) _ _ _ (by decide) (fun _ => by decide) (Nat.lt_succ_self _) X (lv_sub hl [0, 1, 2] rfl)
def q_m_count (V : sV) (w : Int32) : Int32 → sV → Prop := fun x V1 => (mFr V → x = fCount w) ∧ V1 = V
set_option maxRecDepth 100000 in
set_option maxHeartbeats 4000000 in
theorem k_m_count {l : Launch} {D : va_G} {cI : ClassId} {a : Nat → Nat} (ha : sInj SM a) (V : sV) (w : Int32) (hm : mI V) : sMI l D cI SM a V yX10_count cX10_count 4 .int 1 [.ref (a 0), .int w] (q_m_count V w) := by
  refine sMIof ha (by decide +kernel) (Nat.le_of_ble_eq_true rfl) ?_
  intro p e s m below meth c ls G X hl
  obtain ⟨hx, hb, hml, hown, hts, hlocks, hr, hK⟩ := id G
  have hl : lv_has ls 4 [(0, .ref (a 0)), (1, .int w)] := hl
  obtain ⟨mf0, mf1, mf3, mf11, mf14, mf15⟩ := hm.1
  refine lv_iconst (v := 0) hx hb dX10_count_0 (by decide) ?_
  refine lv_istore_n (lv' := [(2, .int 0), (0, .ref (a 0)), (1, .int w)]) hx hb dX10_count_1 rfl hl (by decide) rfl (fun ls hl => ?_)
  refine lv_iload_n hx hb dX10_count_2 rfl (lv_at hl 2 rfl) ?_
  by_cases hs3 : Int32.toInt w < 0 ∨ 6 < Int32.toInt w
  · refine lv_tableOut (tgt := 125) hx hb dX10_count_3 hs3 (by decide) ?_
    refine lv_iload_n hx hb dX10_count_125 rfl (lv_at hl 2 rfl) ?_
    refine lv_bipush (v := 10) hx hb dX10_count_126 (by decide) ?_
    refine sIle (tgt := 149) hx hb (rfl : Int32.toInt w = _) (by decide : (10 : Int32).toInt = 10) dX10_count_128 (by decide) (fun c128 => ?_) (fun c128 => ?_)
    · skip
      refine lv_bipush (v := (-9)) hx hb dX10_count_149 (by decide) ?_
      exact srI G X (rfl) dX10_count_151 (by first | exact ⟨fun hf => by rw [e145, hf.2.2.2.2.2.2.2.2.1]; unfold fCount; rw [if_neg (by omega), if_neg (by omega), if_pos (by omega)], rfl⟩ | exact ⟨fun hf => by unfold fCount; rw [if_neg (by omega), if_neg (by omega), if_neg (by omega)], rfl⟩)
    · skip
      refine lv_iload_n hx hb dX10_count_131 rfl (lv_at hl 2 rfl) ?_
      refine lv_bipush (v := 17) hx hb dX10_count_132 (by decide) ?_
      refine sIge (tgt := 149) hx hb (rfl : Int32.toInt w = _) (by decide : (17 : Int32).toInt = 17) dX10_count_134 (by decide) (fun c134 => ?_) (fun c134 => ?_)
      · skip
        refine lv_bipush (v := (-9)) hx hb dX10_count_149 (by decide) ?_
        exact srI G X (rfl) dX10_count_151 (by first | exact ⟨fun hf => by rw [e145, hf.2.2.2.2.2.2.2.2.1]; unfold fCount; rw [if_neg (by omega), if_neg (by omega), if_pos (by omega)], rfl⟩ | exact ⟨fun hf => by unfold fCount; rw [if_neg (by omega), if_neg (by omega), if_neg (by omega)], rfl⟩)
      · skip
        refine lv_aload_n hx hb dX10_count_137 rfl (lv_at hl 1 rfl) ?_
        refine sgR G X 0 17 rfl rfl fl_X10_43 dX10_count_138 ?_
        refine lv_iload_n hx hb dX10_count_141 rfl (lv_at hl 2 rfl) ?_
        refine lv_bipush (v := 10) hx hb dX10_count_142 (by decide) ?_
        refine lv_isub hx hb dX10_count_144 ?_
        refine lv_topi (fun x144 e144 => ?_)
        have t144 := i32_sube e144 (by show _ ≤ w.toInt - 10; omega) (by show w.toInt - 10 < _; omega)
        rw [show (10 : Int32).toInt = 10 from by decide] at t144
        refine sld G X 12 rfl (i32_in (by omega) (by omega)) dX10_count_145 ?_
        refine lv_topi (fun x145 e145 => ?_)
        refine lv_goto (tgt := 151) hx hb dX10_count_146 (by decide) ?_
        exact srI G X (rfl) dX10_count_151 (by first | exact ⟨fun hf => by rw [e145, hf.2.2.2.2.2.2.2.2.1]; unfold fCount; rw [if_neg (by omega), if_neg (by omega), if_pos (by omega)], rfl⟩ | exact ⟨fun hf => by unfold fCount; rw [if_neg (by omega), if_neg (by omega), if_neg (by omega)], rfl⟩)
  by_cases hs3_0 : Int32.toInt w = 0
  · refine lv_tableIn (tgt := 44) (off := 41) hx hb dX10_count_3 (by rw [hs3_0]; decide) (by rw [hs3_0]; decide) (by rw [hs3_0]; rfl) (by decide) ?_
    refine lv_aload_n hx hb dX10_count_44 rfl (lv_at hl 1 rfl) ?_
    refine sgI G X 0 0 rfl rfl fl_X10_61 dX10_count_45 ?_
    exact srI G X (rfl) dX10_count_48 (by exact ⟨fun hf => by rw [hf.2.2.2.2.1]; unfold fCount; rw [if_pos (by omega)], rfl⟩)
  by_cases hs3_1 : Int32.toInt w = 1
  · refine lv_tableIn (tgt := 49) (off := 46) hx hb dX10_count_3 (by rw [hs3_1]; decide) (by rw [hs3_1]; decide) (by rw [hs3_1]; rfl) (by decide) ?_
    refine lv_aload_n hx hb dX10_count_49 rfl (lv_at hl 1 rfl) ?_
    refine sgI G X 0 3 rfl rfl fl_X10_65 dX10_count_50 ?_
    exact srI G X (rfl) dX10_count_53 (by exact ⟨fun hf => by rw [hf.1]; unfold fCount; rw [if_neg (by omega), if_pos (by omega)], rfl⟩)
  by_cases hs3_2 : Int32.toInt w = 2
  · refine lv_tableIn (tgt := 54) (off := 51) hx hb dX10_count_3 (by rw [hs3_2]; decide) (by rw [hs3_2]; decide) (by rw [hs3_2]; rfl) (by decide) ?_
    refine lv_iconst (v := 0) hx hb dX10_count_54 (by decide) ?_
    refine lv_istore_n (lv' := [(3, .int 0), (2, .int 0), (0, .ref (a 0)), (1, .int w)]) hx hb dX10_count_55 rfl hl (by decide) rfl (fun ls hl => ?_)
    have L56 : ∀ (fu56 : Nat) (i : Int32) (z : Int32) (H : Heap) (locs : List Loc) (ls : Array Slot), (0 ≤ i.toInt) → (mFr V → z = 0) → (((V 0 3).toInt - i.toInt).toNat) < fu56 → sWS D cI SM a V s.heap H locs → lv_has ls 4 [(3, .int i), (2, .int z), (0, .ref (a 0)), (1, .int w)] → W p l e (rmD 1) s m ([.ref (a 0), .int w] : List Value).toArray below meth c H locs 0 0 (MQ below (va_Qi (q_m_count V w) (fun V1 t => va_P D vwCl (sWd cI SM a V1) t.heap) (sA SM a s.heap.size)) ([.ref (a 0), .int w] : List Value).toArray s 0 0 (sA SM a s.heap.size)) (F0 m 56 ls []) := by
      intro fu56
      induction fu56 with
      | zero => intro i z H locs ls hi hz hm56; exact absurd hm56 (Nat.not_lt_zero _)
      | succ fu56 ih56 =>
        intro i z H locs ls hi hz hm56 X hl
        refine lv_iload_n hx hb dX10_count_56 rfl (lv_at hl 0 rfl) ?_
        refine lv_aload_n hx hb dX10_count_57 rfl (lv_at hl 2 rfl) ?_
        refine sgI G X 0 3 rfl rfl fl_X10_65 dX10_count_58 ?_
        refine sIge (tgt := 81) hx hb (rfl : Int32.toInt i = _) (rfl : Int32.toInt (V 0 3) = _) dX10_count_61 (by decide) (fun c61 => ?_) (fun c61 => ?_)
        · skip
          refine lv_iload_n hx hb dX10_count_81 rfl (lv_at hl 1 rfl) ?_
          exact srI G X (rfl) dX10_count_82 (by exact ⟨fun hf => by rw [hz hf]; unfold fCount; rw [if_neg (by omega), if_pos (by omega)], rfl⟩)
        · skip
          refine lv_aload_n hx hb dX10_count_64 rfl (lv_at hl 2 rfl) ?_
          refine lv_iload_n hx hb dX10_count_65 rfl (lv_at hl 0 rfl) ?_
          refine scI (ci := 9) (As := [.int i]) (rest := []) G X (k_m_isDoor ha V i (by first | assumption | omega) (by first | assumption | omega)) iy_X10_isDoor ml_X10_129 rfl rfl rfl rfl hl.1 (by decide) (by decide) (Nat.le_of_ble_eq_true rfl) dX10_count_66 (fun y66 V66 H locs p66 X => ?_)
          obtain ⟨p66, z66⟩ := p66
          subst V66
          refine sZeq (tgt := 75) hx hb (rfl : Int32.toInt y66 = _) dX10_count_69 (by decide) (fun c69 => ?_) (fun c69 => ?_)
          · skip
            obtain ⟨x75, e75⟩ : ∃ y : Int32, y = i + (1) := ⟨_, rfl⟩
            refine lv_iinc (v := x75) (lv' := [(3, .int x75), (2, .int z), (0, .ref (a 0)), (1, .int w)]) hx hb dX10_count_75 hl (k := 0) rfl (by rw [e75]; rfl) (by decide) rfl (fun ls hl => ?_)
            refine lv_goto (tgt := 56) hx hb dX10_count_78 (by decide) ?_
            exact ih56 x75 z _ _ _ (by rw [i32_i e75 (by have := i32_hi (V 0 3); omega)]; omega) (fun hf => by exfalso; have hg := hf.t; omega) (by rw [i32_i e75 (by have := i32_hi (V 0 3); omega)]; omega) X (lv_sub hl [0, 1, 2, 3] rfl)
          · skip
            obtain ⟨x72, e72⟩ : ∃ y : Int32, y = z + (1) := ⟨_, rfl⟩
            refine lv_iinc (v := x72) (lv' := [(2, .int x72), (3, .int i), (0, .ref (a 0)), (1, .int w)]) hx hb dX10_count_72 hl (k := 1) rfl (by rw [e72]; rfl) (by decide) rfl (fun ls hl => ?_)
            obtain ⟨x75, e75⟩ : ∃ y : Int32, y = i + (1) := ⟨_, rfl⟩
            refine lv_iinc (v := x75) (lv' := [(3, .int x75), (2, .int x72), (0, .ref (a 0)), (1, .int w)]) hx hb dX10_count_75 hl (k := 1) rfl (by rw [e75]; rfl) (by decide) rfl (fun ls hl => ?_)
            refine lv_goto (tgt := 56) hx hb dX10_count_78 (by decide) ?_
            exact ih56 x75 x72 _ _ _ (by rw [i32_i e75 (by have := i32_hi (V 0 3); omega)]; omega) (fun hf => by exfalso; have hg := hf.t; omega) (by rw [i32_i e75 (by have := i32_hi (V 0 3); omega)]; omega) X (lv_sub hl [0, 1, 2, 3] rfl)
    exact L56 _ 0 0 _ _ _ (by decide) (fun _ => rfl) (Nat.lt_succ_self _) X (lv_sub hl [0, 1, 2, 3] rfl)
  by_cases hs3_3 : Int32.toInt w = 3
  · refine lv_tableIn (tgt := 83) (off := 80) hx hb dX10_count_3 (by rw [hs3_3]; decide) (by rw [hs3_3]; decide) (by rw [hs3_3]; rfl) (by decide) ?_
    refine lv_aload_n hx hb dX10_count_83 rfl (lv_at hl 1 rfl) ?_
    refine sgI G X 0 11 rfl rfl fl_X10_113 dX10_count_84 ?_
    exact srI G X (rfl) dX10_count_87 (by exact ⟨fun hf => by rw [hf.2.2.2.1]; unfold fCount; rw [if_neg (by omega), if_pos (by omega)], rfl⟩)
  by_cases hs3_4 : Int32.toInt w = 4
  · refine lv_tableIn (tgt := 88) (off := 85) hx hb dX10_count_3 (by rw [hs3_4]; decide) (by rw [hs3_4]; decide) (by rw [hs3_4]; rfl) (by decide) ?_
    refine lv_iconst (v := 0) hx hb dX10_count_88 (by decide) ?_
    refine lv_istore_n (lv' := [(3, .int 0), (2, .int 0), (0, .ref (a 0)), (1, .int w)]) hx hb dX10_count_89 rfl hl (by decide) rfl (fun ls hl => ?_)
    have L90 : ∀ (fu90 : Nat) (i : Int32) (z : Int32) (H : Heap) (locs : List Loc) (ls : Array Slot), (0 ≤ i.toInt) → (mFr V → z = 0) → (((V 0 3).toInt - i.toInt).toNat) < fu90 → sWS D cI SM a V s.heap H locs → lv_has ls 4 [(3, .int i), (2, .int z), (0, .ref (a 0)), (1, .int w)] → W p l e (rmD 1) s m ([.ref (a 0), .int w] : List Value).toArray below meth c H locs 0 0 (MQ below (va_Qi (q_m_count V w) (fun V1 t => va_P D vwCl (sWd cI SM a V1) t.heap) (sA SM a s.heap.size)) ([.ref (a 0), .int w] : List Value).toArray s 0 0 (sA SM a s.heap.size)) (F0 m 90 ls []) := by
      intro fu90
      induction fu90 with
      | zero => intro i z H locs ls hi hz hm90; exact absurd hm90 (Nat.not_lt_zero _)
      | succ fu90 ih90 =>
        intro i z H locs ls hi hz hm90 X hl
        refine lv_iload_n hx hb dX10_count_90 rfl (lv_at hl 0 rfl) ?_
        refine lv_aload_n hx hb dX10_count_91 rfl (lv_at hl 2 rfl) ?_
        refine sgI G X 0 3 rfl rfl fl_X10_65 dX10_count_92 ?_
        refine sIge (tgt := 113) hx hb (rfl : Int32.toInt i = _) (rfl : Int32.toInt (V 0 3) = _) dX10_count_95 (by decide) (fun c95 => ?_) (fun c95 => ?_)
        · skip
          refine lv_iload_n hx hb dX10_count_113 rfl (lv_at hl 1 rfl) ?_
          exact srI G X (rfl) dX10_count_114 (by exact ⟨fun hf => by rw [hz hf]; unfold fCount; rw [if_neg (by omega), if_pos (by omega)], rfl⟩)
        · skip
          refine lv_iload_n hx hb dX10_count_98 rfl (lv_at hl 1 rfl) ?_
          refine lv_aload_n hx hb dX10_count_99 rfl (lv_at hl 2 rfl) ?_
          refine sgR G X 0 7 rfl rfl fl_X10_22 dX10_count_100 ?_
          refine lv_iload_n hx hb dX10_count_103 rfl (lv_at hl 0 rfl) ?_
          refine sld G X 5 rfl (i32_in (by omega) (by omega)) dX10_count_104 ?_
          refine lv_topi (fun x104 e104 => ?_)
          refine lv_iadd hx hb dX10_count_105 ?_
          refine lv_topi (fun x105 e105 => ?_)
          refine lv_istore_n (lv' := [(2, .int x105), (3, .int i), (0, .ref (a 0)), (1, .int w)]) hx hb dX10_count_106 rfl hl (by decide) rfl (fun ls hl => ?_)
          obtain ⟨x107, e107⟩ : ∃ y : Int32, y = i + (1) := ⟨_, rfl⟩
          refine lv_iinc (v := x107) (lv' := [(3, .int x107), (2, .int x105), (0, .ref (a 0)), (1, .int w)]) hx hb dX10_count_107 hl (k := 1) rfl (by rw [e107]; rfl) (by decide) rfl (fun ls hl => ?_)
          refine lv_goto (tgt := 90) hx hb dX10_count_110 (by decide) ?_
          exact ih90 x107 x105 _ _ _ (by rw [i32_i e107 (by have := i32_hi (V 0 3); omega)]; omega) (fun hf => by exfalso; have hg := hf.t; omega) (by rw [i32_i e107 (by have := i32_hi (V 0 3); omega)]; omega) X (lv_sub hl [0, 1, 2, 3] rfl)
    exact L90 _ 0 0 _ _ _ (by decide) (fun _ => rfl) (Nat.lt_succ_self _) X (lv_sub hl [0, 1, 2, 3] rfl)
  by_cases hs3_5 : Int32.toInt w = 5
  · refine lv_tableIn (tgt := 115) (off := 112) hx hb dX10_count_3 (by rw [hs3_5]; decide) (by rw [hs3_5]; decide) (by rw [hs3_5]; rfl) (by decide) ?_
    refine lv_aload_n hx hb dX10_count_115 rfl (lv_at hl 1 rfl) ?_
    refine sgI G X 0 15 rfl rfl fl_X10_191 dX10_count_116 ?_
    exact srI G X (rfl) dX10_count_119 (by exact ⟨fun hf => by rw [hf.2.2.2.2.2.2.1]; unfold fCount; rw [if_neg (by omega), if_pos (by omega)], rfl⟩)
  by_cases hs3_6 : Int32.toInt w = 6
  · refine lv_tableIn (tgt := 120) (off := 117) hx hb dX10_count_3 (by rw [hs3_6]; decide) (by rw [hs3_6]; decide) (by rw [hs3_6]; rfl) (by decide) ?_
    refine lv_aload_n hx hb dX10_count_120 rfl (lv_at hl 1 rfl) ?_
    refine sgI G X 0 1 rfl rfl fl_X10_72 dX10_count_121 ?_
    exact srI G X (rfl) dX10_count_124 (by exact ⟨fun hf => by rw [hf.2.2.2.2.2.1]; unfold fCount; rw [if_neg (by omega), if_pos (by omega)], rfl⟩)
  exact absurd hs3 (by omega)
