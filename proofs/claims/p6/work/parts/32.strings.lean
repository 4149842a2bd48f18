def kLen : List Nat := [2, 4, 8, 6, 0, 7]
def kByt : List (List Int32) := [[57, 59], [57, 57, 57, 59], [57, 107, 57, 57, 57, 44, 35, 59], [35, 44, 35, 44, 57, 59], [], [112, 108, 116, 119, 99, 102, 115]]
theorem kLen_lt : ∀ i, i < 6 → kLen.getD i 0 ≤ 8 := by decide
/-- the texts, and the JDK's statics that they are read by -/
def kE (kk kv : Nat → Nat) (A : Nat → Prop) (U : State) (H : Heap) : Prop := vk_S 6 kLen kByt kk kv A U H ∧ va_Z "java/lang/String" "COMPACT_STRINGS" "Z" (.int 1) A U H ∧ va_Zq "jdk/internal/util/Preconditions" "SIOOBE_FORMATTER" "Ljava/util/function/BiFunction;" A U H ∧
  vk_R RX3 91 "9;" (kk 0) U ∧ vk_R RX3 93 "999;" (kk 1) U ∧ vk_R RX3 95 "9k999,#;" (kk 2) U ∧ vk_R RX3 97 "#,#,9;" (kk 3) U ∧ vk_R RX3 99 "" (kk 4) U ∧ vk_R RX3 114 "pltwcfs" (kk 5) U ∧ vk_R RX10 93 "pltwcfs" (kk 5) U
theorem kE.go {kk kv : Nat → Nat} {A B : Nat → Prop} {s U : State} {H0 H : Heap} {locs : List Loc} (h : kE kk kv A s H0) (hS : va_S A H0 H locs) (hW : s.WarmedH U.vm) (hAB : ∀ q, B q → A q) : kE kk kv B U H := by
  obtain ⟨h1, h2, h3, r1, r2, r3, r4, r5, r6, r7⟩ := h
  exact ⟨((h1.kept hS.2.1).moved hW.alike).narrow hAB, ((h2.kept hS.2.1).moved hW.alike).narrow hAB, ((h3.kept hS.2.1).moved hW.alike).narrow hAB, r1.warm hW, r2.warm hW, r3.warm hW, r4.warm hW, r5.warm hW, r6.warm hW, r7.warm hW⟩
theorem kE.same {kk kv : Nat → Nat} {A : Nat → Prop} {U : State} {H : Heap} (h : kE kk kv A U H) (g : JFrame) (mk : MethodId) (x : Array Value) : kE kk kv A (U.calling g mk x) H := by
  obtain ⟨h1, h2, h3, r1, r2, r3, r4, r5, r6, r7⟩ := h
  have hv : U.vm.Alike (U.calling g mk x).vm := Vm.Alike.refl U.vm
  exact ⟨h1.moved hv, h2.moved hv, h3.moved hv, r1.same rfl, r2.same rfl, r3.same rfl, r4.same rfl, r5.same rfl, r6.same rfl, r7.same rfl⟩
def sPK (D : va_G) (cI : ClassId) (S : List sSh) (a : Nat → Nat) (V : sV) (kk kv : Nat → Nat) (sz : Nat) (av : List Value) : Array Value → State → Prop := va_Pc av (fun U => U.heap.size = sz ∧ va_P D vwCl (sWd cI S a V) U.heap ∧ va_K D vwCl [(cI, .int)] U ∧ kE kk kv (sA S a sz) U U.heap)
def sMK (l : Launch) (D : va_G) (cI : ClassId) (S : List sSh) (a : Nat → Nat) (V : sV) (kk kv : Nat → Nat) (y : MethodName) (cc : ByteArray) (nL : Nat) (ret : FieldType) (d : Nat) (av : List Value) (post : Int32 → sV → Prop) : Prop :=
  ∀ sz : Nat, Met l y (wM y cc nL (some ret)) (rmD d) (sPK D cI S a V kk kv sz av) (va_Qi post (fun V' t => va_P D vwCl (sWd cI S a V') t.heap) (sA S a sz)) 0 0 (sA S a sz)
def sMKV (l : Launch) (D : va_G) (cI : ClassId) (S : List sSh) (a : Nat → Nat) (V : sV) (kk kv : Nat → Nat) (y : MethodName) (cc : ByteArray) (nL : Nat) (d : Nat) (av : List Value) (post : sV → Prop) : Prop :=
  ∀ sz : Nat, Met l y (wM y cc nL none) (rmD d) (sPK D cI S a V kk kv sz av) (va_Qv post (fun V' t => va_P D vwCl (sWd cI S a V') t.heap) (sA S a sz)) 0 0 (sA S a sz)
theorem sPK_blind {D : va_G} {cI : ClassId} {S : List sSh} {a : Nat → Nat} {V : sV} {kk kv : Nat → Nat} {sz : Nat} {av : List Value} : FrameBlind (sPK D cI S a V kk kv sz av) := by
  intro x U g mk q
  obtain ⟨q0, q1, qP, qK, qE⟩ := q
  exact ⟨q0, q1, qP, va_K.moved (u := U) (U := U.calling g mk x) (Vm.Alike.refl U.vm) qK, qE.same g mk x⟩
theorem sBodyK {l : Launch} {y : MethodName} {cc : ByteArray} {nL : Nat} {ret : Option FieldType} {d : Nat} {D : va_G} {cI : ClassId} {S : List sSh} {a : Nat → Nat} {V : sV} {kk kv : Nat → Nat} {sz : Nat} {av : List Value} {Qc : Array Value → State → Outcome → State → Prop}
    (hi : sInj S a) (hy : plainName y.cls = true) (hav : (lg_sl av).length ≤ nL)
    (body : ∀ (p : Program) (e : Env) (s : State) (m : MethodId) (below : List Frame) (meth : Method) (c : Code) (ls : Array Slot), s.heap.size = sz → sCx p s m av.toArray meth c cc y.cls nL ret D cI → sWS D cI S a V s.heap s.heap [] → kE kk kv (sA S a sz) s s.heap → lv_has ls nL (lv_args 0 av) →
      W p l e (rmD d) s m av.toArray below meth c s.heap [] 0 0 (MQ below Qc av.toArray s 0 0 (sA S a sz)) (F0 m 0 ls [])) :
    Met l y (wM y cc nL ret) (rmD d) (sPK D cI S a V kk kv sz av) Qc 0 0 (sA S a sz) := by
  refine Met.ofW (cc := cc) (maxL := nL) (ret := ret) hy rfl ?_
  intro p e s m args below meth c s₁ B hml hv
  obtain ⟨rfl, hsz, hP, hK, hE⟩ := hv
  have hts := atoms_spec (ws := wM y cc nL ret) B.pre
  rw [lg_entry_eq]
  exact body p e s m below meth c _ hsz ⟨B.exec, B.bytes, hml, findClass_of_methodNamed B.named, fun w hw => hts w (List.mem_cons_of_mem _ hw), B.notSynchronized, B.returns, hK⟩ ⟨hi, hP, va_S.rf⟩ hE (lv_entry av hav)
theorem sMKof {l : Launch} {D : va_G} {cI : ClassId} {S : List sSh} {a : Nat → Nat} {V : sV} {kk kv : Nat → Nat} {y : MethodName} {cc : ByteArray} {nL : Nat} {ret : FieldType} {d : Nat} {av : List Value} {post : Int32 → sV → Prop}
    (hi : sInj S a) (hy : plainName y.cls = true) (hav : (lg_sl av).length ≤ nL)
    (body : ∀ (p : Program) (e : Env) (s : State) (m : MethodId) (below : List Frame) (meth : Method) (c : Code) (ls : Array Slot), sCx p s m av.toArray meth c cc y.cls nL (some ret) D cI → sWS D cI S a V s.heap s.heap [] → kE kk kv (sA S a s.heap.size) s s.heap → lv_has ls nL (lv_args 0 av) →
      W p l e (rmD d) s m av.toArray below meth c s.heap [] 0 0 (MQ below (va_Qi post (fun V' t => va_P D vwCl (sWd cI S a V') t.heap) (sA S a s.heap.size)) av.toArray s 0 0 (sA S a s.heap.size)) (F0 m 0 ls [])) :
    sMK l D cI S a V kk kv y cc nL ret d av post := fun sz => sBodyK hi hy hav (fun p e s m below meth c ls hsz C X hE hl => by subst hsz; exact body p e s m below meth c ls C X hE hl)
theorem sMKVof {l : Launch} {D : va_G} {cI : ClassId} {S : List sSh} {a : Nat → Nat} {V : sV} {kk kv : Nat → Nat} {y : MethodName} {cc : ByteArray} {nL : Nat} {d : Nat} {av : List Value} {post : sV → Prop}
    (hi : sInj S a) (hy : plainName y.cls = true) (hav : (lg_sl av).length ≤ nL)
    (body : ∀ (p : Program) (e : Env) (s : State) (m : MethodId) (below : List Frame) (meth : Method) (c : Code) (ls : Array Slot), sCx p s m av.toArray meth c cc y.cls nL none D cI → sWS D cI S a V s.heap s.heap [] → kE kk kv (sA S a s.heap.size) s s.heap → lv_has ls nL (lv_args 0 av) →
      W p l e (rmD d) s m av.toArray below meth c s.heap [] 0 0 (MQ below (va_Qv post (fun V' t => va_P D vwCl (sWd cI S a V') t.heap) (sA S a s.heap.size)) av.toArray s 0 0 (sA S a s.heap.size)) (F0 m 0 ls [])) :
    sMKV l D cI S a V kk kv y cc nL d av post := fun sz => sBodyK hi hy hav (fun p e s m below meth c ls hsz C X hE hl => by subst hsz; exact body p e s m below meth c ls C X hE hl)
section SK
variable {p : Program} {l : Launch} {e : Env} {R : Room} {s : State} {m : MethodId} {args : Array Value} {below : List Frame} {meth : Method} {c : Code} {H : Heap} {locs : List Loc} {Q : State → Prop}
variable {cc : ByteArray} {pc : Nat} {ls : Array Slot} {rest : List Value} {own : String} {nL : Nat} {ret : Option FieldType} {D : va_G} {cI : ClassId} {S : List sSh} {a : Nat → Nat} {V : sV} {kk kv : Nat → Nat}
/-- a call on an object (of the world, or a text) by a contract that wants the texts -/
theorem skI {d d' n nL' idx b : Nat} {y : MethodName} {cc' : ByteArray} {ret' : FieldType} {As : List Value} {post : Int32 → sV → Prop} {C : String} {st : List Value}
    (G : sCx p s m args meth c cc own nL ret D cI) (X : sWS D cI S a V s.heap H locs) (hE : kE kk kv (sA S a s.heap.size) s s.heap) (hM : sMK l D cI S a V kk kv y cc' nL' ret' d' (.ref b :: As) post) (hI : sIY C y cc' nL' (some ret') n) (hL : Cond.methodLink own idx y ∈ wT) (hrec : ∃ cell : Cell, H[b]? = some cell ∧ cell.vm.isStatics = false ∧ s.vm.findClass C = some cell.cls)
    (hst : st = As.reverse ++ .ref b :: rest) (hn : As.length = n) (hls : ls.size = nL) (hd : d' + 1 ≤ d) (hnl : nL' ≤ 13) (hW : (rest.map fun v => v.category).sum ≤ 8) (hdg : decode cc pc = .ok (.invokevirtual idx, 3))
    (kk2 : ∀ (r : Int32) (V1 : sV) (H1 : Heap) (locs1 : List Loc), post r V1 → sWS D cI S a V1 s.heap H1 locs1 → W p l e (rmD d) s m args below meth c H1 locs1 0 0 Q (F0 m (pc + 3) ls (.int r :: rest))) : W p l e (rmD d) s m args below meth c H locs 0 0 Q (F0 m pc ls st) := by
  obtain ⟨hx, hb, hml, hown, hts, hlocks, hr, hK⟩ := G
  obtain ⟨hi, hP, hS0⟩ := X
  obtain ⟨i1, i2, i3, i4, i5, i6, i7, i8⟩ := hI
  subst hst
  have hG : GoodIn wT (wsV own idx C y (wM y cc' nL' (some ret'))) := by
    intro w hw
    rcases List.mem_append.mp hw with hw | hw
    · have hw2 : w ∈ wT := by
        rcases List.mem_cons.mp hw with rfl | hw
        · exact hL
        rcases List.mem_cons.mp hw with rfl | hw
        · exact i2
        rcases List.mem_cons.mp hw with rfl | hw
        · exact i3
        rcases List.mem_cons.mp hw with rfl | hw
        · exact i4
        · cases hw
      exact ⟨hw2, good_of_word (wT_good hw2)⟩
    · exact wM_in i5 w hw
  refine va_calli (va_runV (nL := nL) (As := As) (rest := rest) ⟨hx, hb, hml, hown, hts⟩ (hM H.size) (cwV n hts hG rfl rfl rfl ⟨i1, i6, i7, i8⟩ ⟨hd, by show 8 + (nL' + 11) + 32 * d' ≤ 32 * d; omega⟩) ⟨sPK_blind, hrec, fun U hU hWm => ⟨rfl, by rw [hU], by rw [hU]; exact hP, va_K.moved hWm.alike hK, by rw [hU]; exact hE.go hS0 hWm (fun q h => sAsub hS0.1 q h)⟩⟩ rfl hn hls rfl (lv_room hW) hdg ⟨Nat.zero_le _, Nat.zero_le _⟩) hS0 (fun q hq h => sAsub hS0.1 q h) (fun q h => sAsub hS0.1 q h) (fun r u t H1 locs1 ht hvm hw hB hz1 hk1 hS1 => ?_)
  rw [ht] at hB
  exact kk2 r u H1 locs1 hw ⟨hi, hB, hS1⟩
theorem skSI {d d' n nL' idx : Nat} {y : MethodName} {cc' : ByteArray} {ret' : FieldType} {As : List Value} {post : Int32 → sV → Prop} {st : List Value}
    (G : sCx p s m args meth c cc own nL ret D cI) (X : sWS D cI S a V s.heap H locs) (hE : kE kk kv (sA S a s.heap.size) s s.heap) (hM : sMK l D cI S a V kk kv y cc' nL' ret' d' As post) (hI : sSY y cc' nL' (some ret') n) (hL : Cond.methodLink own idx y ∈ wT)
    (hst : st = As.reverse ++ rest) (hn : As.length = n) (hls : ls.size = nL) (hd : d' + 1 ≤ d) (hnl : nL' ≤ 13) (hW : (rest.map fun v => v.category).sum ≤ 8) (hdg : decode cc pc = .ok (.invokestatic idx, 3))
    (kk2 : ∀ (r : Int32) (V1 : sV) (H1 : Heap) (locs1 : List Loc), post r V1 → sWS D cI S a V1 s.heap H1 locs1 → W p l e (rmD d) s m args below meth c H1 locs1 0 0 Q (F0 m (pc + 3) ls (.int r :: rest))) : W p l e (rmD d) s m args below meth c H locs 0 0 Q (F0 m pc ls st) := by
  obtain ⟨hx, hb, hml, hown, hts, hlocks, hr, hK⟩ := G
  obtain ⟨hi, hP, hS0⟩ := X
  have hG := sS_good hI hL
  obtain ⟨i1, i2, i5, i6, i7, i8⟩ := hI
  subst hst
  refine va_calli (va_runS (nL := nL) (As := As) (rest := rest) ⟨hx, hb, hml, hown, hts⟩ (hM H.size) (va_cwS n hts hG rfl rfl rfl ⟨i6, i7, i8⟩ ⟨hd, by show 8 + (nL' + 11) + 32 * d' ≤ 32 * d; omega⟩) ⟨sPK_blind, fun U hU hWm => ⟨rfl, by rw [hU], by rw [hU]; exact hP, va_K.moved hWm.alike hK, by rw [hU]; exact hE.go hS0 hWm (fun q h => sAsub hS0.1 q h)⟩⟩ rfl hn hls rfl (lv_room hW) hdg ⟨Nat.zero_le _, Nat.zero_le _⟩) hS0 (fun q hq h => sAsub hS0.1 q h) (fun q h => sAsub hS0.1 q h) (fun r u t H1 locs1 ht hvm hw hB hz1 hk1 hS1 => ?_)
  rw [ht] at hB
  exact kk2 r u H1 locs1 hw ⟨hi, hB, hS1⟩
theorem skSV {d d' n nL' idx : Nat} {y : MethodName} {cc' : ByteArray} {As : List Value} {post : sV → Prop} {st : List Value}
    (G : sCx p s m args meth c cc own nL ret D cI) (X : sWS D cI S a V s.heap H locs) (hE : kE kk kv (sA S a s.heap.size) s s.heap) (hM : sMKV l D cI S a V kk kv y cc' nL' d' As post) (hI : sSY y cc' nL' none n) (hL : Cond.methodLink own idx y ∈ wT)
    (hst : st = As.reverse ++ rest) (hn : As.length = n) (hls : ls.size = nL) (hd : d' + 1 ≤ d) (hnl : nL' ≤ 13) (hW : (rest.map fun v => v.category).sum ≤ 8) (hdg : decode cc pc = .ok (.invokestatic idx, 3))
    (kk2 : ∀ (V1 : sV) (H1 : Heap) (locs1 : List Loc), post V1 → sWS D cI S a V1 s.heap H1 locs1 → W p l e (rmD d) s m args below meth c H1 locs1 0 0 Q (F0 m (pc + 3) ls rest)) : W p l e (rmD d) s m args below meth c H locs 0 0 Q (F0 m pc ls st) := by
  obtain ⟨hx, hb, hml, hown, hts, hlocks, hr, hK⟩ := G
  obtain ⟨hi, hP, hS0⟩ := X
  have hG := sS_good hI hL
  obtain ⟨i1, i2, i5, i6, i7, i8⟩ := hI
  subst hst
  refine va_callv (va_runS (nL := nL) (As := As) (rest := rest) ⟨hx, hb, hml, hown, hts⟩ (hM H.size) (va_cwS n hts hG rfl rfl rfl ⟨i6, i7, i8⟩ ⟨hd, by show 8 + (nL' + 11) + 32 * d' ≤ 32 * d; omega⟩) ⟨sPK_blind, fun U hU hWm => ⟨rfl, by rw [hU], by rw [hU]; exact hP, va_K.moved hWm.alike hK, by rw [hU]; exact hE.go hS0 hWm (fun q h => sAsub hS0.1 q h)⟩⟩ rfl hn hls rfl (lv_room hW) hdg ⟨Nat.zero_le _, Nat.zero_le _⟩) hS0 (fun q hq h => sAsub hS0.1 q h) (fun q h => sAsub hS0.1 q h) (fun u t H1 locs1 ht hvm hw hB hz1 hk1 hS1 => ?_)
  rw [ht] at hB
  exact kk2 u H1 locs1 hw ⟨hi, hB, hS1⟩
theorem skRec (X : sWS D cI S a V s.heap H locs) (hE : kE kk kv (sA S a s.heap.size) s s.heap) {i : Nat} (hi : i < 6) : ∃ cell : Cell, H[kk i]? = some cell ∧ cell.vm.isStatics = false ∧ s.vm.findClass "java/lang/String" = some cell.cls := vk_recv hE.1 hi X.2.2
theorem swRec (G : sCx p s m args meth c cc own nL ret D cI) (X : sWS D cI S a V s.heap H locs) {k ci N : Nat} {C : String} {T : u_T} {fs : List (Option Nat)} (hc : vwCl[ci]? = some (C, T, N)) (hS : S[k]? = some (.inr (ci, fs))) : ∃ cell : Cell, H[a k]? = some cell ∧ cell.vm.isStatics = false ∧ s.vm.findClass C = some cell.cls :=
  va_recv G.2.2.2.2.2.2.2 X.2.1 hc (sWd_get hS)
theorem skVal (G : sCx p s m args meth c cc own nL ret D cI) (X : sWS D cI S a V s.heap H locs) (hE : kE kk kv (sA S a s.heap.size) s s.heap) {i idx : Nat} (hi : i < 6) (hL : Cond.fieldLink own idx "java/lang/String" "value" "[B" ∈ wT) (hdg : decode cc pc = .ok (.getfield idx, 3))
    (k : W p l e R s m args below meth c H locs 0 0 Q (F0 m (pc + 3) ls (.ref (kv i) :: rest))) : W p l e R s m args below meth c H locs 0 0 Q (F0 m pc ls (.ref (kk i) :: rest)) :=
  vk_getf G.1 G.2.1 (hE.1.1 i hi).2.2.1 X.2.2 G.2.2.2.1 (G.2.2.2.2.1 _ hL) (fun _ h => h) hdg k
theorem skCod (G : sCx p s m args meth c cc own nL ret D cI) (X : sWS D cI S a V s.heap H locs) (hE : kE kk kv (sA S a s.heap.size) s s.heap) {i idx : Nat} (hi : i < 6) (hL : Cond.fieldLink own idx "java/lang/String" "coder" "B" ∈ wT) (hdg : decode cc pc = .ok (.getfield idx, 3))
    (k : W p l e R s m args below meth c H locs 0 0 Q (F0 m (pc + 3) ls (.int 0 :: rest))) : W p l e R s m args below meth c H locs 0 0 Q (F0 m pc ls (.ref (kk i) :: rest)) :=
  vk_getf G.1 G.2.1 (hE.1.1 i hi).2.1 X.2.2 G.2.2.2.1 (G.2.2.2.2.1 _ hL) (fun _ h => h) hdg k
theorem skCS (G : sCx p s m args meth c cc own nL ret D cI) (X : sWS D cI S a V s.heap H locs) (hE : kE kk kv (sA S a s.heap.size) s s.heap) {idx : Nat} (hL : Cond.fieldLink own idx "java/lang/String" "COMPACT_STRINGS" "Z" ∈ wT) (hdg : decode cc pc = .ok (.getstatic idx, 3))
    (k : W p l e R s m args below meth c H locs 0 0 Q (F0 m (pc + 3) ls (.int 1 :: rest))) : W p l e R s m args below meth c H locs 0 0 Q (F0 m pc ls rest) :=
  va_gets G.1 G.2.1 hE.2.1 X.2.2 G.2.2.2.1 (G.2.2.2.2.1 _ hL) (fun _ h => h) hdg k
theorem skFm (G : sCx p s m args meth c cc own nL ret D cI) (X : sWS D cI S a V s.heap H locs) (hE : kE kk kv (sA S a s.heap.size) s s.heap) {idx : Nat} (hL : Cond.fieldLink own idx "jdk/internal/util/Preconditions" "SIOOBE_FORMATTER" "Ljava/util/function/BiFunction;" ∈ wT) (hdg : decode cc pc = .ok (.getstatic idx, 3))
    (k : ∀ v : Value, (v = .null ∨ ∃ t : Nat, v = .ref t) → W p l e R s m args below meth c H locs 0 0 Q (F0 m (pc + 3) ls (v :: rest))) : W p l e R s m args below meth c H locs 0 0 Q (F0 m pc ls rest) := by
  rcases hE.2.2.1 with h | ⟨t, h⟩
  · exact va_gets G.1 G.2.1 h X.2.2 G.2.2.2.1 (G.2.2.2.2.1 _ hL) (fun _ h => h) hdg (k _ (Or.inl rfl))
  · exact va_gets G.1 G.2.1 h X.2.2 G.2.2.2.1 (G.2.2.2.2.1 _ hL) (fun _ h => h) hdg (k _ (Or.inr ⟨t, rfl⟩))
theorem skLen (G : sCx p s m args meth c cc own nL ret D cI) (X : sWS D cI S a V s.heap H locs) (hE : kE kk kv (sA S a s.heap.size) s s.heap) {i : Nat} (hi : i < 6) (hdg : decode cc pc = .ok (.arraylength, 1))
    (k : W p l e R s m args below meth c H locs 0 0 Q (F0 m (pc + 1) ls (.int (nI (kLen.getD i 0)) :: rest))) : W p l e R s m args below meth c H locs 0 0 Q (F0 m pc ls (.ref (kv i) :: rest)) :=
  va_tlen G.1 G.2.1 (hE.1.1 i hi).2.2.2 X.2.2 rfl hdg k
theorem skLd (G : sCx p s m args meth c cc own nL ret D cI) (X : sWS D cI S a V s.heap H locs) (hE : kE kk kv (sA S a s.heap.size) s s.heap) {i : Nat} (hi : i < 6) {j : Int32} (hin : vp_in j (kLen.getD i 0)) (hdg : decode cc pc = .ok (.baload, 1))
    (k : ∀ x : Int32, W p l e R s m args below meth c H locs 0 0 Q (F0 m (pc + 1) ls (.int x :: rest))) : W p l e R s m args below meth c H locs 0 0 Q (F0 m pc ls (.int j :: .ref (kv i) :: rest)) :=
  va_tb G.1 G.2.1 (hE.1.1 i hi).2.2.2 X.2.2 hin rfl hdg (k _)
theorem skLdc (G : sCx p s m args meth c cc own nL ret D cI) {idx q : Nat} {tx : String} (hR : vk_R own idx tx q s) (hdg : decode cc pc = .ok (.ldc idx, 2))
    (k : W p l e R s m args below meth c H locs 0 0 Q (F0 m (pc + 2) ls (.ref q :: rest))) : W p l e R s m args below meth c H locs 0 0 Q (F0 m pc ls rest) := va_ldcS G.1 G.2.1 G.2.2.2.1 hR hdg k
end SK
