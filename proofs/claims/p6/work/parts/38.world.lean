def aX (h0 : Nat) (u : Nat → Nat) : Nat → Nat := fun k => match k with | 0 => h0 | 1 => u 49 | k + 2 => u k
def aM (h0 : Nat) (u : Nat → Nat) : Nat → Nat := fun k => match k with | 0 => h0 | k + 1 => u k
def vX (f : Nat → Int32) : sV := fun k => match k with | 2 => upd (fun _ => 0) 0 2 | 15 => upd (fun _ => 0) 0 10 | 20 => upd (fun _ => 0) 0 2 | 33 => upd (fun _ => 0) 0 10 | 45 => f | _ => fun _ => 0
def vM (f : Nat → Int32) : sV := fun k => match k with | 0 => upd (fun _ => 0) 0 2 | 10 => upd (fun _ => 0) 0 10 | 15 => f | _ => fun _ => 0
theorem vX_fr {f : Nat → Int32} (h : f 0 = 0) : sFr (vX f) := ⟨rfl, rfl, h, rfl, rfl, rfl, rfl, rfl, fun _ => rfl, rfl, rfl, rfl⟩
theorem vM_fr {f : Nat → Int32} (h : f 0 = 0) : mFr (vM f) := ⟨rfl, rfl, h, rfl, rfl, rfl, rfl, rfl, fun _ => rfl, rfl, rfl, rfl⟩
theorem vM_I {f : Nat → Int32} : mI (vM f) := by
  have b5 : 0 ≤ (0 : Int32).toInt ∧ (0 : Int32).toInt ≤ 5 := by decide
  have b9 : 0 ≤ (0 : Int32).toInt ∧ (0 : Int32).toInt ≤ 9 := by decide
  have b40 : 0 ≤ (0 : Int32).toInt ∧ (0 : Int32).toInt ≤ 40 := by decide
  have b20 : 0 ≤ (0 : Int32).toInt ∧ (0 : Int32).toInt ≤ 20 := by decide
  have b99 : 0 ≤ (0 : Int32).toInt ∧ (0 : Int32).toInt ≤ 99 := by decide
  have b6 : 0 ≤ (0 : Int32).toInt ∧ (0 : Int32).toInt ≤ 6 := by decide
  have b10 : 0 ≤ (0 : Int32).toInt ∧ (0 : Int32).toInt ≤ 10 := by decide
  have b4 : 0 ≤ (0 : Int32).toInt ∧ (0 : Int32).toInt ≤ 4 := by decide
  have b50 : -50 ≤ (0 : Int32).toInt ∧ (0 : Int32).toInt ≤ 50 := by decide
  have c0 : mF (upd (fun _ => 0) 0 2) := by unfold mF; decide
  have c1 : mN (upd (fun _ => 0) 0 10) := by unfold mN; decide
  exact ⟨c0, fun _ _ => ⟨b5, fun _ => b5, b9⟩, c1, fun _ _ => ⟨b40, b20⟩, fun _ _ => b99, fun _ _ => ⟨b5, fun _ => b5, b9⟩, fun _ _ => ⟨b40, b20⟩, b6, b10, b4, ⟨b40, b20⟩, b50⟩
set_option maxRecDepth 100000 in
set_option maxHeartbeats 4000000 in
theorem wX_eq (cI : ClassId) (h0 h1 : Nat) (u v : cU) : ([0, 50] ++ List.range' 1 49 ++ List.range' 51 18).map (fun i => (w1_cMain cI h0 u ++ w1_cModel cI h1 v)[i]?) = (sWd cI SX (aX h0 u.1) (vX u.2) ++ sWd cI SM (aM h1 v.1) (vM v.2)).map some := rfl
theorem sInj_of {A : Nat → Prop} {cI : ClassId} {S : List sSh} {a : Nat → Nat} {V : sV} (h : va_D A (sWd cI S a V)) : sInj S a := fun i j hi hj e => h.1 i j _ _ (sWd_get (List.getElem?_eq_getElem hi)) (sWd_get (List.getElem?_eq_getElem hj)) e
theorem sAll_of {A : Nat → Prop} {cI : ClassId} {S : List sSh} {a : Nat → Nat} {V : sV} (h : va_D A (sWd cI S a V)) : ∀ k, k < S.length → A (a k) := fun k hk => h.2 k _ (sWd_get (List.getElem?_eq_getElem hk))
/-- the law's two worlds -/
def lW (D : va_G) (cI : ClassId) (A : Nat → Prop) (a b : Nat → Nat) (V U : sV) (H0 H : Heap) (locs : List Loc) : Prop :=
  sInj SX a ∧ sInj SM b ∧ (∀ i j, i < SX.length → j < SM.length → a i ≠ b j) ∧ (∀ k, k < SX.length → A (a k)) ∧ (∀ k, k < SM.length → A (b k)) ∧ va_P D vwCl (sWd cI SX a V) H ∧ va_P D vwCl (sWd cI SM b U) H ∧ va_S A H0 H locs
theorem lW_of {D : va_G} {cI : ClassId} {A : Nat → Prop} {h0 h1 : Nat} {u v : cU} {H0 H : Heap} {locs : List Loc} (X : cWS D A (w1_cMain cI h0 u ++ w1_cModel cI h1 v) H0 H locs) : lW D cI A (aX h0 u.1) (aM h1 v.1) (vX u.2) (vM v.2) H0 H locs := by
  have e := wX_eq cI h0 h1 u v
  have hD := X.2.1.sub _ (by decide +kernel) e
  have hP : va_P D vwCl (sWd cI SX (aX h0 u.1) (vX u.2) ++ sWd cI SM (aM h1 v.1) (vM v.2)) H := X.1.sub ([0, 50] ++ List.range' 1 49 ++ List.range' 51 18) (by
    have h := congrArg (List.filterMap id) e
    rw [List.filterMap_map, List.filterMap_map] at h
    simpa using h)
  generalize hw1 : sWd cI SX (aX h0 u.1) (vX u.2) = w1 at hD hP
  generalize hw2 : sWd cI SM (aM h1 v.1) (vM v.2) = w2 at hD hP
  have l1 : w1.length = 51 := by rw [← hw1, sWd_len]; rfl
  have g1 : ∀ k q, w1[k]? = some q → (w1 ++ w2)[k]? = some q := fun k q h => by rw [List.getElem?_append_left (List.getElem?_eq_some_iff.mp h).1]; exact h
  have g2 : ∀ k q, w2[k]? = some q → (w1 ++ w2)[w1.length + k]? = some q := fun k q h => by rw [List.getElem?_append_right (Nat.le_add_right _ _), Nat.add_sub_cancel_left]; exact h
  have hD1 : va_D A w1 := ⟨fun i j p q hi hj h => hD.1 i j p q (g1 _ _ hi) (g1 _ _ hj) h, fun k q h => hD.2 k q (g1 _ _ h)⟩
  have hD2 : va_D A w2 := ⟨fun i j p q hi hj h => Nat.add_left_cancel (hD.1 _ _ p q (g2 _ _ hi) (g2 _ _ hj) h), fun k q h => hD.2 _ q (g2 _ _ h)⟩
  have hP1 : va_P D vwCl w1 H := fun k q h => hP k q (g1 _ _ h)
  have hP2 : va_P D vwCl w2 H := fun k q h => hP _ q (g2 _ _ h)
  subst hw1 hw2
  refine ⟨sInj_of hD1, sInj_of hD2, fun i j hi hj e => ?_, sAll_of hD1, sAll_of hD2, hP1, hP2, X.2.2⟩
  have h := hD.1 _ _ _ _ (g1 _ _ (sWd_get (List.getElem?_eq_getElem hi))) (g2 _ _ (sWd_get (List.getElem?_eq_getElem hj))) e
  have : i < 51 := hi
  omega
section LW
variable {p : Program} {l : Launch} {e : Env} {R : Room} {s : State} {m : MethodId} {args : Array Value} {below : List Frame} {meth : Method} {c : Code} {H : Heap} {locs : List Loc} {cells slots : Nat} {Q : State → Prop}
variable {cc : ByteArray} {pc : Nat} {ls : Array Slot} {rest : List Value} {own : String} {nL : Nat} {ret : Option FieldType} {D : va_G} {cI : ClassId} {A : Nat → Prop} {S : List sSh} {a b : Nat → Nat} {V U : sV} {kk kv : Nat → Nat}
/-- a call of the law's on one of its two objects -/
theorem lcI {d' n nL' idx ci : Nat} {y : MethodName} {cc' : ByteArray} {ret' : FieldType} {As : List Value} {post : Int32 → sV → Prop} {C : String} {T : u_T} {N : Nat} {fs : List (Option Nat)} {st : List Value}
    (G : sCx p s m args meth c cc own nL ret D cI) (hAs : ∀ q, s.heap.size ≤ q → A q) (hAa : ∀ k, k < S.length → A (a k)) (hP : va_P D vwCl (sWd cI S a V) H) (hS0 : va_S A s.heap H locs)
    (hM : sMI l D cI S a V y cc' nL' ret' d' (.ref (a 0) :: As) post) (hI : sIY C y cc' nL' (some ret') n) (hL : Cond.methodLink own idx y ∈ wT) (hc : vwCl[ci]? = some (C, T, N)) (hS : S[0]? = some (.inr (ci, fs)))
    (hst : st = As.reverse ++ .ref (a 0) :: rest) (hn : As.length = n) (hls : ls.size = nL) (hd : d' + 1 ≤ R.frames) (hnl : 8 + (nL' + 11) + 32 * d' ≤ R.locals) (hW : (rest.map fun v => v.category).sum ≤ 8) (hdg : decode cc pc = .ok (.invokevirtual idx, 3)) (hcs : cells ≤ R.cells ∧ slots ≤ R.slots)
    (kk2 : ∀ (r : Int32) (V1 : sV) (H1 : Heap) (locs1 : List Loc), post r V1 → va_P D vwCl (sWd cI S a V1) H1 → va_S A s.heap H1 locs1 → (∀ q, q < H.size → ¬ sA S a H.size q → H1[q]? = H[q]?) → W p l e R s m args below meth c H1 locs1 cells slots Q (F0 m (pc + 3) ls (.int r :: rest))) : W p l e R s m args below meth c H locs cells slots Q (F0 m pc ls st) := by
  obtain ⟨hx, hb, hml, hown, hts, hlocks, hr, hK⟩ := G
  obtain ⟨i1, i2, i3, i4, i5, i6, i7, i8⟩ := hI
  subst hst
  have hG : GoodIn wT (wsV own idx C y (wM y cc' nL' (some ret'))) := by
    intro w hw
    rcases List.mem_append.mp hw with hw | hw
    · have hw2 : w ∈ wT := by
        rcases List.mem_cons.mp hw with rfl | hw
        · exact hL
        rcases List.mem_cons.mp hw with rfl | hw
        · exact i2
        rcases List.mem_cons.mp hw with rfl | hw
        · exact i3
        rcases List.mem_cons.mp hw with rfl | hw
        · exact i4
        · cases hw
      exact ⟨hw2, good_of_word (wT_good hw2)⟩
    · exact wM_in i5 w hw
  have hfr : ∀ q, sA S a H.size q → A q := fun q h => by
    rcases h with ⟨k, hk, rfl⟩ | h
    · exact hAa k hk
    · exact hAs q (Nat.le_trans hS0.1 h)
  refine va_calli (va_runV (nL := nL) (As := As) (rest := rest) ⟨hx, hb, hml, hown, hts⟩ (hM H.size) (cwV n hts hG rfl rfl rfl ⟨i1, i6, i7, i8⟩ ⟨hd, hnl⟩) ⟨sPc_blind, va_recv hK hP hc (sWd_get hS), fun U hU hWm => ⟨rfl, by rw [hU], by rw [hU]; exact hP, va_K.moved hWm.alike hK⟩⟩ rfl hn hls rfl (lv_room hW) hdg hcs) hS0 (fun q _ h => hfr q h) hfr (fun r u t H1 locs1 ht hvm hw hB hz1 hk1 hS1 => ?_)
  rw [ht] at hB
  exact kk2 r u H1 locs1 hw hB hS1 hk1
theorem lcK {d' n nL' idx ci : Nat} {y : MethodName} {cc' : ByteArray} {ret' : FieldType} {As : List Value} {post : Int32 → sV → Prop} {C : String} {T : u_T} {N : Nat} {fs : List (Option Nat)} {st : List Value}
    (G : sCx p s m args meth c cc own nL ret D cI) (hAs : ∀ q, s.heap.size ≤ q → A q) (hAa : ∀ k, k < S.length → A (a k)) (hP : va_P D vwCl (sWd cI S a V) H) (hS0 : va_S A s.heap H locs)
    (hE : kE kk kv A s s.heap) (hM : sMK l D cI S a V kk kv y cc' nL' ret' d' (.ref (a 0) :: As) post) (hI : sIY C y cc' nL' (some ret') n) (hL : Cond.methodLink own idx y ∈ wT) (hc : vwCl[ci]? = some (C, T, N)) (hS : S[0]? = some (.inr (ci, fs)))
    (hst : st = As.reverse ++ .ref (a 0) :: rest) (hn : As.length = n) (hls : ls.size = nL) (hd : d' + 1 ≤ R.frames) (hnl : 8 + (nL' + 11) + 32 * d' ≤ R.locals) (hW : (rest.map fun v => v.category).sum ≤ 8) (hdg : decode cc pc = .ok (.invokevirtual idx, 3)) (hcs : cells ≤ R.cells ∧ slots ≤ R.slots)
    (kk2 : ∀ (r : Int32) (V1 : sV) (H1 : Heap) (locs1 : List Loc), post r V1 → va_P D vwCl (sWd cI S a V1) H1 → va_S A s.heap H1 locs1 → (∀ q, q < H.size → ¬ sA S a H.size q → H1[q]? = H[q]?) → W p l e R s m args below meth c H1 locs1 cells slots Q (F0 m (pc + 3) ls (.int r :: rest))) : W p l e R s m args below meth c H locs cells slots Q (F0 m pc ls st) := by
  obtain ⟨hx, hb, hml, hown, hts, hlocks, hr, hK⟩ := G
  obtain ⟨i1, i2, i3, i4, i5, i6, i7, i8⟩ := hI
  subst hst
  have hG : GoodIn wT (wsV own idx C y (wM y cc' nL' (some ret'))) := by
    intro w hw
    rcases List.mem_append.mp hw with hw | hw
    · have hw2 : w ∈ wT := by
        rcases List.mem_cons.mp hw with rfl | hw
        · exact hL
        rcases List.mem_cons.mp hw with rfl | hw
        · exact i2
        rcases List.mem_cons.mp hw with rfl | hw
        · exact i3
        rcases List.mem_cons.mp hw with rfl | hw
        · exact i4
        · cases hw
      exact ⟨hw2, good_of_word (wT_good hw2)⟩
    · exact wM_in i5 w hw
  have hfr : ∀ q, sA S a H.size q → A q := fun q h => by
    rcases h with ⟨k, hk, rfl⟩ | h
    · exact hAa k hk
    · exact hAs q (Nat.le_trans hS0.1 h)
  refine va_calli (va_runV (nL := nL) (As := As) (rest := rest) ⟨hx, hb, hml, hown, hts⟩ (hM H.size) (cwV n hts hG rfl rfl rfl ⟨i1, i6, i7, i8⟩ ⟨hd, hnl⟩) ⟨sPK_blind, va_recv hK hP hc (sWd_get hS), fun U hU hWm => ⟨rfl, by rw [hU], by rw [hU]; exact hP, va_K.moved hWm.alike hK, by rw [hU]; exact hE.go hS0 hWm hfr⟩⟩ rfl hn hls rfl (lv_room hW) hdg hcs) hS0 (fun q _ h => hfr q h) hfr (fun r u t H1 locs1 ht hvm hw hB hz1 hk1 hS1 => ?_)
  rw [ht] at hB
  exact kk2 r u H1 locs1 hw hB hS1 hk1
theorem kept_of {S T : List sSh} {a b : Nat → Nat} {U : sV} {H1 : Heap} (hP : va_P D vwCl (sWd cI T b U) H) (hab : ∀ i j, i < S.length → j < T.length → a i ≠ b j) (hk : ∀ q, q < H.size → ¬ sA S a H.size q → H1[q]? = H[q]?) : va_P D vwCl (sWd cI T b U) H1 :=
  hP.kept (fun k q h => by
    obtain ⟨h1, h2⟩ := sWd_inv h
    have h3 := (hP k q h).lt
    refine hk q.1 h3 (fun z => ?_)
    rcases z with ⟨i, hi, e⟩ | z
    · exact hab i k hi h1 (by rw [← e, h2])
    · omega)
theorem lcX {d' n nL' idx ci : Nat} {y : MethodName} {cc' : ByteArray} {ret' : FieldType} {As : List Value} {post : Int32 → sV → Prop} {C : String} {T : u_T} {N : Nat} {fs : List (Option Nat)} {st : List Value}
    (G : sCx p s m args meth c cc own nL ret D cI) (hAs : ∀ q, s.heap.size ≤ q → A q) (Z : lW D cI A a b V U s.heap H locs) (hM : sMI l D cI SX a V y cc' nL' ret' d' (.ref (a 0) :: As) post) (hI : sIY C y cc' nL' (some ret') n) (hL : Cond.methodLink own idx y ∈ wT) (hc : vwCl[ci]? = some (C, T, N)) (hS : SX[0]? = some (.inr (ci, fs)))
    (hst : st = As.reverse ++ .ref (a 0) :: rest) (hn : As.length = n) (hls : ls.size = nL) (hd : d' + 1 ≤ R.frames) (hnl : 8 + (nL' + 11) + 32 * d' ≤ R.locals) (hW : (rest.map fun v => v.category).sum ≤ 8) (hdg : decode cc pc = .ok (.invokevirtual idx, 3)) (hcs : cells ≤ R.cells ∧ slots ≤ R.slots)
    (kk2 : ∀ (r : Int32) (V1 : sV) (H1 : Heap) (locs1 : List Loc), post r V1 → lW D cI A a b V1 U s.heap H1 locs1 → W p l e R s m args below meth c H1 locs1 cells slots Q (F0 m (pc + 3) ls (.int r :: rest))) : W p l e R s m args below meth c H locs cells slots Q (F0 m pc ls st) := by
  obtain ⟨z1, z2, z3, z4, z5, z6, z7, z8⟩ := Z
  exact lcI G hAs z4 z6 z8 hM hI hL hc hS hst hn hls hd hnl hW hdg hcs (fun r V1 H1 locs1 hp hP1 hS1 hk => kk2 r V1 H1 locs1 hp ⟨z1, z2, z3, z4, z5, hP1, kept_of z7 z3 hk, hS1⟩)
theorem lcM {d' n nL' idx ci : Nat} {y : MethodName} {cc' : ByteArray} {ret' : FieldType} {As : List Value} {post : Int32 → sV → Prop} {C : String} {T : u_T} {N : Nat} {fs : List (Option Nat)} {st : List Value}
    (G : sCx p s m args meth c cc own nL ret D cI) (hAs : ∀ q, s.heap.size ≤ q → A q) (Z : lW D cI A a b V U s.heap H locs) (hM : sMI l D cI SM b U y cc' nL' ret' d' (.ref (b 0) :: As) post) (hI : sIY C y cc' nL' (some ret') n) (hL : Cond.methodLink own idx y ∈ wT) (hc : vwCl[ci]? = some (C, T, N)) (hS : SM[0]? = some (.inr (ci, fs)))
    (hst : st = As.reverse ++ .ref (b 0) :: rest) (hn : As.length = n) (hls : ls.size = nL) (hd : d' + 1 ≤ R.frames) (hnl : 8 + (nL' + 11) + 32 * d' ≤ R.locals) (hW : (rest.map fun v => v.category).sum ≤ 8) (hdg : decode cc pc = .ok (.invokevirtual idx, 3)) (hcs : cells ≤ R.cells ∧ slots ≤ R.slots)
    (kk2 : ∀ (r : Int32) (V1 : sV) (H1 : Heap) (locs1 : List Loc), post r V1 → lW D cI A a b V V1 s.heap H1 locs1 → W p l e R s m args below meth c H1 locs1 cells slots Q (F0 m (pc + 3) ls (.int r :: rest))) : W p l e R s m args below meth c H locs cells slots Q (F0 m pc ls st) := by
  obtain ⟨z1, z2, z3, z4, z5, z6, z7, z8⟩ := Z
  exact lcI G hAs z5 z7 z8 hM hI hL hc hS hst hn hls hd hnl hW hdg hcs (fun r V1 H1 locs1 hp hP1 hS1 hk => kk2 r V1 H1 locs1 hp ⟨z1, z2, z3, z4, z5, kept_of z6 (fun i j hi hj e => z3 j i hj hi e.symm) hk, hP1, hS1⟩)
theorem lkX {d' n nL' idx ci : Nat} {y : MethodName} {cc' : ByteArray} {ret' : FieldType} {As : List Value} {post : Int32 → sV → Prop} {C : String} {T : u_T} {N : Nat} {fs : List (Option Nat)} {st : List Value}
    (G : sCx p s m args meth c cc own nL ret D cI) (hAs : ∀ q, s.heap.size ≤ q → A q) (Z : lW D cI A a b V U s.heap H locs) (hE : kE kk kv A s s.heap) (hM : sMK l D cI SX a V kk kv y cc' nL' ret' d' (.ref (a 0) :: As) post) (hI : sIY C y cc' nL' (some ret') n) (hL : Cond.methodLink own idx y ∈ wT) (hc : vwCl[ci]? = some (C, T, N)) (hS : SX[0]? = some (.inr (ci, fs)))
    (hst : st = As.reverse ++ .ref (a 0) :: rest) (hn : As.length = n) (hls : ls.size = nL) (hd : d' + 1 ≤ R.frames) (hnl : 8 + (nL' + 11) + 32 * d' ≤ R.locals) (hW : (rest.map fun v => v.category).sum ≤ 8) (hdg : decode cc pc = .ok (.invokevirtual idx, 3)) (hcs : cells ≤ R.cells ∧ slots ≤ R.slots)
    (kk2 : ∀ (r : Int32) (V1 : sV) (H1 : Heap) (locs1 : List Loc), post r V1 → lW D cI A a b V1 U s.heap H1 locs1 → W p l e R s m args below meth c H1 locs1 cells slots Q (F0 m (pc + 3) ls (.int r :: rest))) : W p l e R s m args below meth c H locs cells slots Q (F0 m pc ls st) := by
  obtain ⟨z1, z2, z3, z4, z5, z6, z7, z8⟩ := Z
  exact lcK G hAs z4 z6 z8 hE hM hI hL hc hS hst hn hls hd hnl hW hdg hcs (fun r V1 H1 locs1 hp hP1 hS1 hk => kk2 r V1 H1 locs1 hp ⟨z1, z2, z3, z4, z5, hP1, kept_of z7 z3 hk, hS1⟩)
theorem lkM {d' n nL' idx ci : Nat} {y : MethodName} {cc' : ByteArray} {ret' : FieldType} {As : List Value} {post : Int32 → sV → Prop} {C : String} {T : u_T} {N : Nat} {fs : List (Option Nat)} {st : List Value}
    (G : sCx p s m args meth c cc own nL ret D cI) (hAs : ∀ q, s.heap.size ≤ q → A q) (Z : lW D cI A a b V U s.heap H locs) (hE : kE kk kv A s s.heap) (hM : sMK l D cI SM b U kk kv y cc' nL' ret' d' (.ref (b 0) :: As) post) (hI : sIY C y cc' nL' (some ret') n) (hL : Cond.methodLink own idx y ∈ wT) (hc : vwCl[ci]? = some (C, T, N)) (hS : SM[0]? = some (.inr (ci, fs)))
    (hst : st = As.reverse ++ .ref (b 0) :: rest) (hn : As.length = n) (hls : ls.size = nL) (hd : d' + 1 ≤ R.frames) (hnl : 8 + (nL' + 11) + 32 * d' ≤ R.locals) (hW : (rest.map fun v => v.category).sum ≤ 8) (hdg : decode cc pc = .ok (.invokevirtual idx, 3)) (hcs : cells ≤ R.cells ∧ slots ≤ R.slots)
    (kk2 : ∀ (r : Int32) (V1 : sV) (H1 : Heap) (locs1 : List Loc), post r V1 → lW D cI A a b V V1 s.heap H1 locs1 → W p l e R s m args below meth c H1 locs1 cells slots Q (F0 m (pc + 3) ls (.int r :: rest))) : W p l e R s m args below meth c H locs cells slots Q (F0 m pc ls st) := by
  obtain ⟨z1, z2, z3, z4, z5, z6, z7, z8⟩ := Z
  exact lcK G hAs z5 z7 z8 hE hM hI hL hc hS hst hn hls hd hnl hW hdg hcs (fun r V1 H1 locs1 hp hP1 hS1 hk => kk2 r V1 H1 locs1 hp ⟨z1, z2, z3, z4, z5, kept_of z6 (fun i j hi hj e => z3 j i hj hi e.symm) hk, hP1, hS1⟩)
end LW
