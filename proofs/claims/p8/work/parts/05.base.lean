/-! worlds of one form: places 0, 1, ..; a place is a row of ints of a length, or an object whose fields are ints or references to places; what all places hold is V : place -> number in it -> int -/
def wT : List Cond := lw_tbl.filter goodWord
theorem wT_mem {w : Cond} (i : Nat) (h : lw_tbl[i]? = some w) (hg : goodWord w = true) : w ∈ wT := List.mem_filter.mpr ⟨List.mem_of_getElem? h, hg⟩
theorem wT_good {w : Cond} (h : w ∈ wT) : goodWord w = true := (List.mem_filter.mp h).2
theorem wT_of {args : Array Value} {s : State} (h : ∀ w ∈ lw_tbl, w.before args s = true) : ∀ w ∈ wT, w.before args s = true := fun w hw => h w (List.mem_filter.mp hw).1
def wM (y : MethodName) (cc : ByteArray) (nL : Nat) (ret : Option FieldType) : List Cond := .code y cc nL ret :: wT
theorem wM_in {y : MethodName} {cc : ByteArray} {nL : Nat} {ret : Option FieldType} (h : Cond.code y cc nL ret ∈ wT) : GoodIn wT (wM y cc nL ret) := by
  intro w hw
  rcases List.mem_cons.mp hw with rfl | hw
  · exact ⟨h, good_of_word (wT_good h)⟩
  · exact ⟨hw, good_of_word (wT_good hw)⟩
def rmD (d : Nat) : Room := { frames := d, cells := 0, slots := 0, locals := 32 * d }
abbrev sSh : Type := Nat ⊕ (Nat × List (Option Nat))
abbrev sV : Type := Nat → Nat → Int32
def sFv (a : Nat → Nat) (f : Nat → Int32) : Nat → List (Option Nat) → List Value
  | _, [] => []
  | j, none :: t => .int (f j) :: sFv a f (j + 1) t
  | j, some p :: t => .ref (a p) :: sFv a f (j + 1) t
theorem sFv_len (a : Nat → Nat) (f : Nat → Int32) : ∀ (fs : List (Option Nat)) (j : Nat), (sFv a f j fs).length = fs.length
  | [], _ => rfl
  | none :: t, j => congrArg (· + 1) (sFv_len a f t (j + 1))
  | some _ :: t, j => congrArg (· + 1) (sFv_len a f t (j + 1))
theorem sFv_int (a : Nat → Nat) (f : Nat → Int32) : ∀ (fs : List (Option Nat)) (j k : Nat), fs[k]? = some none → (sFv a f j fs)[k]? = some (.int (f (j + k)))
  | [], _, k, h => by simp at h
  | o :: t, j, 0, h => by
    cases o with
    | none => rfl
    | some p => simp at h
  | o :: t, j, k + 1, h => by
    have h1 := sFv_int a f t (j + 1) k (by simpa using h)
    have e : j + 1 + k = j + (k + 1) := by omega
    rw [e] at h1
    cases o <;> exact h1
theorem sFv_ref (a : Nat → Nat) (f : Nat → Int32) : ∀ (fs : List (Option Nat)) (j k p : Nat), fs[k]? = some (some p) → (sFv a f j fs)[k]? = some (.ref (a p))
  | [], _, k, _, h => by simp at h
  | o :: t, j, 0, p, h => by
    cases o with
    | none => simp at h
    | some q => simp at h; subst h; rfl
  | o :: t, j, k + 1, p, h => by
    have h1 := sFv_ref a f t (j + 1) k p (by simpa using h)
    cases o <;> exact h1
theorem sFv_cong (a : Nat → Nat) (f g : Nat → Int32) : ∀ (fs : List (Option Nat)) (j : Nat), (∀ k, j ≤ k → f k = g k) → sFv a f j fs = sFv a g j fs
  | [], _, _ => rfl
  | none :: t, j, h => by
    show Value.int (f j) :: sFv a f (j + 1) t = Value.int (g j) :: sFv a g (j + 1) t
    rw [h j (Nat.le_refl j), sFv_cong a f g t (j + 1) (fun k hk => h k (by omega))]
  | some p :: t, j, h => by
    show Value.ref (a p) :: sFv a f (j + 1) t = Value.ref (a p) :: sFv a g (j + 1) t
    rw [sFv_cong a f g t (j + 1) (fun k hk => h k (by omega))]
theorem sFv_set (a : Nat → Nat) (f : Nat → Int32) (v : Int32) : ∀ (fs : List (Option Nat)) (j k : Nat), fs[k]? = some none → (sFv a f j fs).set k (.int v) = sFv a (upd f (j + k) v) j fs
  | [], _, k, h => by simp at h
  | o :: t, j, 0, h => by
    cases o with
    | none =>
      show Value.int v :: sFv a f (j + 1) t = Value.int (upd f (j + 0) v j) :: sFv a (upd f (j + 0) v) (j + 1) t
      rw [sFv_cong a f (upd f (j + 0) v) t (j + 1) (fun k hk => by simp only [upd]; rw [if_neg (by omega)])]
      simp [upd]
    | some p => simp at h
  | o :: t, j, k + 1, h => by
    have h1 := sFv_set a f v t (j + 1) k (by simpa using h)
    have e : j + 1 + k = j + (k + 1) := by omega
    rw [e] at h1
    cases o with
    | none =>
      show Value.int (f j) :: (sFv a f (j + 1) t).set k (.int v) = Value.int (upd f (j + (k + 1)) v j) :: sFv a (upd f (j + (k + 1)) v) (j + 1) t
      rw [h1]
      simp only [upd]
      rw [if_neg (by omega)]
    | some p =>
      show Value.ref (a p) :: (sFv a f (j + 1) t).set k (.int v) = Value.ref (a p) :: sFv a (upd f (j + (k + 1)) v) (j + 1) t
      rw [h1]
def sCe (cI : ClassId) (a : Nat → Nat) (sh : sSh) (f : Nat → Int32) : va_E := match sh with
  | .inl n => .inl (cI, n, .inl f)
  | .inr o => .inr (o.1, sFv a f 0 o.2)
def sWd (cI : ClassId) (S : List sSh) (a : Nat → Nat) (V : sV) : va_W := (List.range S.length).map (fun k => (a k, sCe cI a (S.getD k (.inl 0)) (V k)))
def sUp (V : sV) (k : Nat) (f : Nat → Int32) : sV := fun i => if i = k then f else V i
theorem sUp_s (V : sV) (k : Nat) (f : Nat → Int32) : sUp V k f k = f := if_pos rfl
theorem sUp_n (V : sV) {k i : Nat} (f : Nat → Int32) (h : i ≠ k) : sUp V k f i = V i := if_neg h
theorem sWd_len (cI : ClassId) (S : List sSh) (a : Nat → Nat) (V : sV) : (sWd cI S a V).length = S.length := by simp [sWd]
theorem sWd_get {cI : ClassId} {S : List sSh} {a : Nat → Nat} {V : sV} {k : Nat} {sh : sSh} (h : S[k]? = some sh) : (sWd cI S a V)[k]? = some (a k, sCe cI a sh (V k)) := by
  have hk := (List.getElem?_eq_some_iff.mp h).1
  simp [sWd, List.getElem?_map, List.getElem?_range hk, List.getD_eq_getElem?_getD, h]
theorem sWd_inv {cI : ClassId} {S : List sSh} {a : Nat → Nat} {V : sV} {k : Nat} {q : Nat × va_E} (h : (sWd cI S a V)[k]? = some q) : k < S.length ∧ q.1 = a k := by
  have hk := (List.getElem?_eq_some_iff.mp h).1
  rw [sWd_len] at hk
  refine ⟨hk, ?_⟩
  have h2 := sWd_get (cI := cI) (a := a) (V := V) (List.getElem?_eq_getElem hk)
  rw [h2] at h
  cases h
  rfl
theorem sWd_set {cI : ClassId} {S : List sSh} {a : Nat → Nat} {V : sV} {k : Nat} {sh : sSh} {e : va_E} {f : Nat → Int32} (h : S[k]? = some sh) (he : e = sCe cI a sh f) : (sWd cI S a V).set k (a k, e) = sWd cI S a (sUp V k f) := by
  subst he
  apply List.ext_getElem?
  intro i
  by_cases hi : i < S.length
  · have h1 := sWd_get (cI := cI) (a := a) (V := sUp V k f) (List.getElem?_eq_getElem hi)
    rw [h1]
    by_cases hik : i = k
    · subst hik
      rw [List.getElem?_set_self (by rw [sWd_len]; exact hi), sUp_s]
      rw [List.getElem?_eq_getElem hi] at h
      cases h
      rfl
    · rw [List.getElem?_set_ne (Ne.symm hik), sUp_n V f hik]
      exact sWd_get (List.getElem?_eq_getElem hi)
  · rw [List.getElem?_eq_none (by rw [List.length_set, sWd_len]; omega), List.getElem?_eq_none (by rw [sWd_len]; omega)]
def sInj (S : List sSh) (a : Nat → Nat) : Prop := ∀ i j, i < S.length → j < S.length → a i = a j → i = j
def sA (S : List sSh) (a : Nat → Nat) (sz : Nat) : Nat → Prop := fun q => (∃ k, k < S.length ∧ q = a k) ∨ sz ≤ q
theorem sA_D {cI : ClassId} {S : List sSh} {a : Nat → Nat} {V : sV} {sz : Nat} (h : sInj S a) : va_D (sA S a sz) (sWd cI S a V) := by
  refine ⟨fun i j p q hi hj hpq => ?_, fun k q hk => ?_⟩
  · obtain ⟨h1, h2⟩ := sWd_inv hi
    obtain ⟨h3, h4⟩ := sWd_inv hj
    exact h i j h1 h3 (by rw [← h2, ← h4, hpq])
  · obtain ⟨h1, h2⟩ := sWd_inv hk
    exact Or.inl ⟨k, h1, h2⟩
/-- two states agree but for some places -/
def sAg (L : List Nat) (V V' : sV) : Prop := ∀ k, k ∉ L → V' k = V k
theorem sAg.rf {L : List Nat} {V : sV} : sAg L V V := fun _ _ => rfl
theorem sAg.tr {L : List Nat} {V V' V'' : sV} (h : sAg L V V') (h2 : sAg L V' V'') : sAg L V V'' := fun k hk => (h2 k hk).trans (h k hk)
theorem sAg.mono {L L' : List Nat} {V V' : sV} (h : sAg L V V') (hL : ∀ k ∈ L, k ∈ L') : sAg L' V V' := fun k hk => h k (fun z => hk (hL k z))
theorem sAg.up {L : List Nat} {V V' : sV} (h : sAg L V V') {k : Nat} {f : Nat → Int32} (hk : k ∈ L) : sAg L V (sUp V' k f) := fun i hi => (sUp_n V' f (fun z => hi (by rw [z]; exact hk))).trans (h i hi)
/-- a row of length n read and written with a look at the number -/
def rAt (n : Nat) (f : Nat → Int32) (i : Int32) : Int32 := if 0 ≤ i.toInt ∧ i.toInt < n then f i.toNatClampNeg else 0
def rPut (n : Nat) (f : Nat → Int32) (i v : Int32) : Nat → Int32 := if 0 ≤ i.toInt ∧ i.toInt < n then upd f i.toNatClampNeg v else f
/-- what a method's body knows -/
def sCx (p : Program) (s : State) (m : MethodId) (args : Array Value) (meth : Method) (c : Code) (cc : ByteArray) (own : String) (nL : Nat) (ret : Option FieldType) (D : va_G) (cI : ClassId) : Prop :=
  p.tables.exec = Jvm.exec ∧ c.code = cc ∧ c.maxLocals = nL ∧ s.vm.findClass own = some m.cls ∧ (∀ w ∈ wT, w.before args s = true) ∧ meth.locks = false ∧ meth.sig.returnType = ret ∧ va_K D vwCl [(cI, .int)] s
/-- the world at a point of a body -/
def sWS (D : va_G) (cI : ClassId) (S : List sSh) (a : Nat → Nat) (V : sV) (H0 H : Heap) (locs : List Loc) : Prop := sInj S a ∧ va_P D vwCl (sWd cI S a V) H ∧ va_S (sA S a H0.size) H0 H locs
/-- contracts -/
def sPc (D : va_G) (cI : ClassId) (S : List sSh) (a : Nat → Nat) (V : sV) (sz : Nat) (av : List Value) : Array Value → State → Prop := va_Pc av (fun U => U.heap.size = sz ∧ va_P D vwCl (sWd cI S a V) U.heap ∧ va_K D vwCl [(cI, .int)] U)
def sMI (l : Launch) (D : va_G) (cI : ClassId) (S : List sSh) (a : Nat → Nat) (V : sV) (y : MethodName) (cc : ByteArray) (nL : Nat) (ret : FieldType) (d : Nat) (av : List Value) (post : Int32 → sV → Prop) : Prop :=
  ∀ sz : Nat, Met l y (wM y cc nL (some ret)) (rmD d) (sPc D cI S a V sz av) (va_Qi post (fun V' t => va_P D vwCl (sWd cI S a V') t.heap) (sA S a sz)) 0 0 (sA S a sz)
def sMV (l : Launch) (D : va_G) (cI : ClassId) (S : List sSh) (a : Nat → Nat) (V : sV) (y : MethodName) (cc : ByteArray) (nL : Nat) (d : Nat) (av : List Value) (post : sV → Prop) : Prop :=
  ∀ sz : Nat, Met l y (wM y cc nL none) (rmD d) (sPc D cI S a V sz av) (va_Qv post (fun V' t => va_P D vwCl (sWd cI S a V') t.heap) (sA S a sz)) 0 0 (sA S a sz)
def sML (l : Launch) (D : va_G) (cI : ClassId) (S : List sSh) (a : Nat → Nat) (V : sV) (y : MethodName) (cc : ByteArray) (nL : Nat) (d : Nat) (av : List Value) (post : Int64 → sV → Prop) : Prop :=
  ∀ sz : Nat, Met l y (wM y cc nL (some .long)) (rmD d) (sPc D cI S a V sz av) (va_Ql post (fun V' t => va_P D vwCl (sWd cI S a V') t.heap) (sA S a sz)) 0 0 (sA S a sz)
theorem sPc_blind {D : va_G} {cI : ClassId} {S : List sSh} {a : Nat → Nat} {V : sV} {sz : Nat} {av : List Value} : FrameBlind (sPc D cI S a V sz av) := by
  intro x U g mk q
  obtain ⟨q0, q1, qP, qK⟩ := q
  exact ⟨q0, q1, qP, va_K.moved (u := U) (U := U.calling g mk x) (Vm.Alike.refl U.vm) qK⟩
/-- into a body -/
theorem sBody {l : Launch} {y : MethodName} {cc : ByteArray} {nL : Nat} {ret : Option FieldType} {d : Nat} {D : va_G} {cI : ClassId} {S : List sSh} {a : Nat → Nat} {V : sV} {sz : Nat} {av : List Value} {Qc : Array Value → State → Outcome → State → Prop}
    (hi : sInj S a) (hy : plainName y.cls = true) (hav : (lg_sl av).length ≤ nL)
    (body : ∀ (p : Program) (e : Env) (s : State) (m : MethodId) (below : List Frame) (meth : Method) (c : Code) (ls : Array Slot), s.heap.size = sz → sCx p s m av.toArray meth c cc y.cls nL ret D cI → sWS D cI S a V s.heap s.heap [] → lv_has ls nL (lv_args 0 av) →
      W p l e (rmD d) s m av.toArray below meth c s.heap [] 0 0 (MQ below Qc av.toArray s 0 0 (sA S a sz)) (F0 m 0 ls [])) :
    Met l y (wM y cc nL ret) (rmD d) (sPc D cI S a V sz av) Qc 0 0 (sA S a sz) := by
  refine Met.ofW (cc := cc) (maxL := nL) (ret := ret) hy rfl ?_
  intro p e s m args below meth c s₁ B hml hv
  obtain ⟨rfl, hsz, hP, hK⟩ := hv
  have hts := atoms_spec (ws := wM y cc nL ret) B.pre
  rw [lg_entry_eq]
  exact body p e s m below meth c _ hsz ⟨B.exec, B.bytes, hml, findClass_of_methodNamed B.named, fun w hw => hts w (List.mem_cons_of_mem _ hw), B.notSynchronized, B.returns, hK⟩ ⟨hi, hP, va_S.rf⟩ (lv_entry av hav)
theorem sMIof {l : Launch} {D : va_G} {cI : ClassId} {S : List sSh} {a : Nat → Nat} {V : sV} {y : MethodName} {cc : ByteArray} {nL : Nat} {ret : FieldType} {d : Nat} {av : List Value} {post : Int32 → sV → Prop}
    (hi : sInj S a) (hy : plainName y.cls = true) (hav : (lg_sl av).length ≤ nL)
    (body : ∀ (p : Program) (e : Env) (s : State) (m : MethodId) (below : List Frame) (meth : Method) (c : Code) (ls : Array Slot), sCx p s m av.toArray meth c cc y.cls nL (some ret) D cI → sWS D cI S a V s.heap s.heap [] → lv_has ls nL (lv_args 0 av) →
      W p l e (rmD d) s m av.toArray below meth c s.heap [] 0 0 (MQ below (va_Qi post (fun V' t => va_P D vwCl (sWd cI S a V') t.heap) (sA S a s.heap.size)) av.toArray s 0 0 (sA S a s.heap.size)) (F0 m 0 ls [])) :
    sMI l D cI S a V y cc nL ret d av post := fun sz => sBody hi hy hav (fun p e s m below meth c ls hsz C X hl => by subst hsz; exact body p e s m below meth c ls C X hl)
theorem sMVof {l : Launch} {D : va_G} {cI : ClassId} {S : List sSh} {a : Nat → Nat} {V : sV} {y : MethodName} {cc : ByteArray} {nL : Nat} {d : Nat} {av : List Value} {post : sV → Prop}
    (hi : sInj S a) (hy : plainName y.cls = true) (hav : (lg_sl av).length ≤ nL)
    (body : ∀ (p : Program) (e : Env) (s : State) (m : MethodId) (below : List Frame) (meth : Method) (c : Code) (ls : Array Slot), sCx p s m av.toArray meth c cc y.cls nL none D cI → sWS D cI S a V s.heap s.heap [] → lv_has ls nL (lv_args 0 av) →
      W p l e (rmD d) s m av.toArray below meth c s.heap [] 0 0 (MQ below (va_Qv post (fun V' t => va_P D vwCl (sWd cI S a V') t.heap) (sA S a s.heap.size)) av.toArray s 0 0 (sA S a s.heap.size)) (F0 m 0 ls [])) :
    sMV l D cI S a V y cc nL d av post := fun sz => sBody hi hy hav (fun p e s m below meth c ls hsz C X hl => by subst hsz; exact body p e s m below meth c ls C X hl)
theorem sMLof {l : Launch} {D : va_G} {cI : ClassId} {S : List sSh} {a : Nat → Nat} {V : sV} {y : MethodName} {cc : ByteArray} {nL : Nat} {d : Nat} {av : List Value} {post : Int64 → sV → Prop}
    (hi : sInj S a) (hy : plainName y.cls = true) (hav : (lg_sl av).length ≤ nL)
    (body : ∀ (p : Program) (e : Env) (s : State) (m : MethodId) (below : List Frame) (meth : Method) (c : Code) (ls : Array Slot), sCx p s m av.toArray meth c cc y.cls nL (some .long) D cI → sWS D cI S a V s.heap s.heap [] → lv_has ls nL (lv_args 0 av) →
      W p l e (rmD d) s m av.toArray below meth c s.heap [] 0 0 (MQ below (va_Ql post (fun V' t => va_P D vwCl (sWd cI S a V') t.heap) (sA S a s.heap.size)) av.toArray s 0 0 (sA S a s.heap.size)) (F0 m 0 ls [])) :
    sML l D cI S a V y cc nL d av post := fun sz => sBody hi hy hav (fun p e s m below meth c ls hsz C X hl => by subst hsz; exact body p e s m below meth c ls C X hl)
/-- a field by its link: own class, pool number, class number in vwCl, field number -/
def sFL (own : String) (idx ci j : Nat) : Prop := ∃ (C : String) (T : u_T) (N : Nat) (ref : String), vwCl[ci]? = some (C, T, N) ∧ (∀ w ∈ u_ws C T N, w ∈ wT) ∧ j < N ∧ Cond.fieldLink own idx ref (T j).2.1 (T j).2.2.1 ∈ wT ∧ (T j).1 = ref
def sFP (own : String) (idx ci j : Nat) (ty : FieldType) : Prop := ∃ (C : String) (T : u_T) (N : Nat) (ref : String) (ty0 : Nat → FieldType), vwCl[ci]? = some (C, T, N) ∧ (∀ w ∈ u_ws C T N, w ∈ wT) ∧ j < N ∧ Cond.fieldLink own idx ref (T j).2.1 (T j).2.2.1 ∈ wT ∧ (T j).1 = ref ∧
  (∀ k, k < N → parseFieldDescriptor (T k).2.2.1 = some (ty0 k)) ∧ (∀ a, a < N → ∀ b, b < N → a ≠ b → (T a).2.1 ≠ (T b).2.1) ∧ (T j).2.2.2 = false ∧ parseFieldDescriptor (T j).2.2.1 = some ty
def sIY (C : String) (y : MethodName) (cc : ByteArray) (nL : Nat) (ret : Option FieldType) (n : Nat) : Prop :=
  y.cls = C ∧ Cond.instanceMethod y ∈ wT ∧ Cond.selects C y y ∈ wT ∧ Cond.initialized C ∈ wT ∧ Cond.code y cc nL ret ∈ wT ∧ y.cls ≠ "java/lang/invoke/MethodHandle" ∧ y.cls ≠ "java/lang/invoke/VarHandle" ∧ (parseMethodDescriptor y.desc).map (fun d => d.parameters.length) = some n
def sSY (y : MethodName) (cc : ByteArray) (nL : Nat) (ret : Option FieldType) (n : Nat) : Prop :=
  Cond.static y ∈ wT ∧ Cond.initialized y.cls ∈ wT ∧ Cond.code y cc nL ret ∈ wT ∧ y.cls ≠ "java/lang/invoke/MethodHandle" ∧ y.cls ≠ "java/lang/invoke/VarHandle" ∧ (parseMethodDescriptor y.desc).map (fun d => d.parameters.length) = some n
section SB
variable {p : Program} {l : Launch} {e : Env} {R : Room} {s : State} {m : MethodId} {args : Array Value} {below : List Frame} {meth : Method} {c : Code} {H : Heap} {locs : List Loc} {Q : State → Prop}
variable {cc : ByteArray} {pc : Nat} {ls : Array Slot} {rest : List Value} {own : String} {nL : Nat} {ret : Option FieldType} {D : va_G} {cI : ClassId} {S : List sSh} {a : Nat → Nat} {V : sV}
theorem sgI (G : sCx p s m args meth c cc own nL ret D cI) (X : sWS D cI S a V s.heap H locs) (k j : Nat) {ci : Nat} {fs : List (Option Nat)} (hS : S[k]? = some (.inr (ci, fs))) (hj : fs[j]? = some none) {idx : Nat} (hf : sFL own idx ci j) (hdg : decode cc pc = .ok (.getfield idx, 3))
    (kk : W p l e R s m args below meth c H locs 0 0 Q (F0 m (pc + 3) ls (.int (V k j) :: rest))) : W p l e R s m args below meth c H locs 0 0 Q (F0 m pc ls (.ref (a k) :: rest)) := by
  obtain ⟨hx, hb, hml, hown, hts, hlocks, hr, hK⟩ := G
  obtain ⟨C, T, N, ref, h1, h2, h3, h4, h5⟩ := hf
  have h6 := sFv_int a (V k) fs 0 j hj
  rw [Nat.zero_add] at h6
  exact va_get hx hb hts h2 hown hK X.2.1 k (sWd_get hS) h1 j h3 (hts _ h4) (fun x hx => by rw [← h5]; exact hx) h6 hdg kk
theorem sgR (G : sCx p s m args meth c cc own nL ret D cI) (X : sWS D cI S a V s.heap H locs) (k j : Nat) {ci t : Nat} {fs : List (Option Nat)} (hS : S[k]? = some (.inr (ci, fs))) (hj : fs[j]? = some (some t)) {idx : Nat} (hf : sFL own idx ci j) (hdg : decode cc pc = .ok (.getfield idx, 3))
    (kk : W p l e R s m args below meth c H locs 0 0 Q (F0 m (pc + 3) ls (.ref (a t) :: rest))) : W p l e R s m args below meth c H locs 0 0 Q (F0 m pc ls (.ref (a k) :: rest)) := by
  obtain ⟨hx, hb, hml, hown, hts, hlocks, hr, hK⟩ := G
  obtain ⟨C, T, N, ref, h1, h2, h3, h4, h5⟩ := hf
  have h6 := sFv_ref a (V k) fs 0 j t hj
  exact va_get hx hb hts h2 hown hK X.2.1 k (sWd_get hS) h1 j h3 (hts _ h4) (fun x hx => by rw [← h5]; exact hx) h6 hdg kk
theorem spT {ty : FieldType} (G : sCx p s m args meth c cc own nL ret D cI) (X : sWS D cI S a V s.heap H locs) (k j : Nat) {ci : Nat} {fs : List (Option Nat)} (hS : S[k]? = some (.inr (ci, fs))) (hj : fs[j]? = some none) {idx : Nat} (hf : sFP own idx ci j ty) (v : Int32) (hn : narrow ty (.int v) = .int v) (hft : fits ty (.int v) = true) (hdg : decode cc pc = .ok (.putfield idx, 3))
    (kk : ∀ (H1 : Heap) (locs1 : List Loc), sWS D cI S a (sUp V k (upd (V k) j v)) s.heap H1 locs1 → W p l e R s m args below meth c H1 locs1 0 0 Q (F0 m (pc + 3) ls rest)) : W p l e R s m args below meth c H locs 0 0 Q (F0 m pc ls (.int v :: .ref (a k) :: rest)) := by
  obtain ⟨hx, hb, hml, hown, hts, hlocks, hr, hK⟩ := G
  obtain ⟨C, T, N, ref, ty0, h1, h2, h3, h4, h5, h6, h7, h8, h9⟩ := hf
  obtain ⟨hi, hP, hS0⟩ := X
  have hjl : j < fs.length := (List.getElem?_eq_some_iff.mp hj).1
  refine va_put hx hb hts h2 ty0 h6 h7 hown hK hP (sA_D hi) hS0 k (sWd_get hS) h1 j h3 (hts _ h4) (fun x hx => by rw [← h5]; exact hx) h8 h9 hn hft (by rw [sFv_len]; exact hjl) hdg (fun H1 locs1 hP1 hD1 hS1 => ?_)
  have e1 : (sWd cI S a V).set k (a k, .inr (ci, (sFv a (V k) 0 fs).set j (.int v))) = sWd cI S a (sUp V k (upd (V k) j v)) := sWd_set hS (by
    have h := sFv_set a (V k) v fs 0 j hj
    rw [Nat.zero_add] at h
    rw [h]
    rfl)
  rw [e1] at hP1
  exact kk H1 locs1 ⟨hi, hP1, hS1⟩
theorem spI (G : sCx p s m args meth c cc own nL ret D cI) (X : sWS D cI S a V s.heap H locs) (k j : Nat) {ci : Nat} {fs : List (Option Nat)} (hS : S[k]? = some (.inr (ci, fs))) (hj : fs[j]? = some none) {idx : Nat} (hf : sFP own idx ci j .int) {v : Int32} (hdg : decode cc pc = .ok (.putfield idx, 3))
    (kk : ∀ (H1 : Heap) (locs1 : List Loc), sWS D cI S a (sUp V k (upd (V k) j v)) s.heap H1 locs1 → W p l e R s m args below meth c H1 locs1 0 0 Q (F0 m (pc + 3) ls rest)) : W p l e R s m args below meth c H locs 0 0 Q (F0 m pc ls (.int v :: .ref (a k) :: rest)) :=
  spT G X k j hS hj hf v rfl rfl hdg kk
theorem sld (G : sCx p s m args meth c cc own nL ret D cI) (X : sWS D cI S a V s.heap H locs) (k : Nat) {n : Nat} (hS : S[k]? = some (.inl n)) {i : Int32} (hin : vp_in i n) (hdg : decode cc pc = .ok (.iaload, 1))
    (kk : W p l e R s m args below meth c H locs 0 0 Q (F0 m (pc + 1) ls (.int (V k i.toNatClampNeg) :: rest))) : W p l e R s m args below meth c H locs 0 0 Q (F0 m pc ls (.int i :: .ref (a k) :: rest)) := by
  obtain ⟨hx, hb, hml, hown, hts, hlocks, hr, hK⟩ := G
  exact va_iald hx hb hK X.2.1 k 0 (sWd_get hS) rfl hin hdg kk
theorem sst (G : sCx p s m args meth c cc own nL ret D cI) (X : sWS D cI S a V s.heap H locs) (k : Nat) {n : Nat} (hS : S[k]? = some (.inl n)) {i v : Int32} (hin : vp_in i n) (hdg : decode cc pc = .ok (.iastore, 1))
    (kk : ∀ (H1 : Heap) (locs1 : List Loc), sWS D cI S a (sUp V k (upd (V k) i.toNatClampNeg v)) s.heap H1 locs1 → W p l e R s m args below meth c H1 locs1 0 0 Q (F0 m (pc + 1) ls rest)) : W p l e R s m args below meth c H locs 0 0 Q (F0 m pc ls (.int v :: .int i :: .ref (a k) :: rest)) := by
  obtain ⟨hx, hb, hml, hown, hts, hlocks, hr, hK⟩ := G
  obtain ⟨hi, hP, hS0⟩ := X
  refine va_iast hx hb hK hP (sA_D hi) hS0 k 0 (sWd_get hS) rfl hin hdg (fun H1 locs1 hP1 hD1 hS1 => ?_)
  have e1 : (sWd cI S a V).set k (a k, .inl (cI, n, .inl (upd (V k) i.toNatClampNeg v))) = sWd cI S a (sUp V k (upd (V k) i.toNatClampNeg v)) := sWd_set hS rfl
  rw [e1] at hP1
  exact kk H1 locs1 ⟨hi, hP1, hS1⟩
theorem sln (G : sCx p s m args meth c cc own nL ret D cI) (X : sWS D cI S a V s.heap H locs) (k : Nat) {n : Nat} (hS : S[k]? = some (.inl n)) (hdg : decode cc pc = .ok (.arraylength, 1))
    (kk : W p l e R s m args below meth c H locs 0 0 Q (F0 m (pc + 1) ls (.int (nI n) :: rest))) : W p l e R s m args below meth c H locs 0 0 Q (F0 m pc ls (.ref (a k) :: rest)) := by
  obtain ⟨hx, hb, hml, hown, hts, hlocks, hr, hK⟩ := G
  exact va_alen hx hb hK X.2.1 k 0 (sWd_get hS) rfl rfl hdg kk
theorem sAsub {sz sz' : Nat} (h : sz ≤ sz') (q : Nat) (hq : sA S a sz' q) : sA S a sz q := hq.elim Or.inl (fun z => Or.inr (Nat.le_trans h z))
/-- a call on an object of the world, the whole world handed in -/
theorem scI {d d' n nL' idx k ci : Nat} {y : MethodName} {cc' : ByteArray} {ret' : FieldType} {As : List Value} {post : Int32 → sV → Prop} {C : String} {T : u_T} {N : Nat} {fs : List (Option Nat)} {st : List Value}
    (G : sCx p s m args meth c cc own nL ret D cI) (X : sWS D cI S a V s.heap H locs) (hM : sMI l D cI S a V y cc' nL' ret' d' (.ref (a k) :: As) post) (hI : sIY C y cc' nL' (some ret') n) (hL : Cond.methodLink own idx y ∈ wT) (hc : vwCl[ci]? = some (C, T, N)) (hS : S[k]? = some (.inr (ci, fs)))
    (hst : st = As.reverse ++ .ref (a k) :: rest) (hn : As.length = n) (hls : ls.size = nL) (hd : d' + 1 ≤ d) (hnl : nL' ≤ 13) (hW : (rest.map fun v => v.category).sum ≤ 8) (hdg : decode cc pc = .ok (.invokevirtual idx, 3))
    (kk : ∀ (r : Int32) (V1 : sV) (H1 : Heap) (locs1 : List Loc), post r V1 → sWS D cI S a V1 s.heap H1 locs1 → W p l e (rmD d) s m args below meth c H1 locs1 0 0 Q (F0 m (pc + 3) ls (.int r :: rest))) : W p l e (rmD d) s m args below meth c H locs 0 0 Q (F0 m pc ls st) := by
  obtain ⟨hx, hb, hml, hown, hts, hlocks, hr, hK⟩ := G
  obtain ⟨hi, hP, hS0⟩ := X
  obtain ⟨i1, i2, i3, i4, i5, i6, i7, i8⟩ := hI
  subst hst
  have hG : GoodIn wT (wsV own idx C y (wM y cc' nL' (some ret'))) := by
    intro w hw
    rcases List.mem_append.mp hw with hw | hw
    · have hw2 : w ∈ wT := by
        rcases List.mem_cons.mp hw with rfl | hw
        · exact hL
        rcases List.mem_cons.mp hw with rfl | hw
        · exact i2
        rcases List.mem_cons.mp hw with rfl | hw
        · exact i3
        rcases List.mem_cons.mp hw with rfl | hw
        · exact i4
        · cases hw
      exact ⟨hw2, good_of_word (wT_good hw2)⟩
    · exact wM_in i5 w hw
  refine va_calli (va_runV (nL := nL) (As := As) (rest := rest) ⟨hx, hb, hml, hown, hts⟩ (hM H.size) (cwV n hts hG rfl rfl rfl ⟨i1, i6, i7, i8⟩ ⟨hd, by show 8 + (nL' + 11) + 32 * d' ≤ 32 * d; omega⟩) ⟨sPc_blind, va_recv hK hP hc (sWd_get hS), fun U hU hWm => ⟨rfl, by rw [hU], by rw [hU]; exact hP, va_K.moved hWm.alike hK⟩⟩ rfl hn hls rfl (lv_room hW) hdg ⟨Nat.zero_le _, Nat.zero_le _⟩) hS0 (fun q hq h => sAsub hS0.1 q h) (fun q h => sAsub hS0.1 q h) (fun r u t H1 locs1 ht hvm hw hB hz1 hk1 hS1 => ?_)
  rw [ht] at hB
  exact kk r u H1 locs1 hw ⟨hi, hB, hS1⟩
theorem scV {d d' n nL' idx k ci : Nat} {y : MethodName} {cc' : ByteArray} {As : List Value} {post : sV → Prop} {C : String} {T : u_T} {N : Nat} {fs : List (Option Nat)} {st : List Value}
    (G : sCx p s m args meth c cc own nL ret D cI) (X : sWS D cI S a V s.heap H locs) (hM : sMV l D cI S a V y cc' nL' d' (.ref (a k) :: As) post) (hI : sIY C y cc' nL' none n) (hL : Cond.methodLink own idx y ∈ wT) (hc : vwCl[ci]? = some (C, T, N)) (hS : S[k]? = some (.inr (ci, fs)))
    (hst : st = As.reverse ++ .ref (a k) :: rest) (hn : As.length = n) (hls : ls.size = nL) (hd : d' + 1 ≤ d) (hnl : nL' ≤ 13) (hW : (rest.map fun v => v.category).sum ≤ 8) (hdg : decode cc pc = .ok (.invokevirtual idx, 3))
    (kk : ∀ (V1 : sV) (H1 : Heap) (locs1 : List Loc), post V1 → sWS D cI S a V1 s.heap H1 locs1 → W p l e (rmD d) s m args below meth c H1 locs1 0 0 Q (F0 m (pc + 3) ls rest)) : W p l e (rmD d) s m args below meth c H locs 0 0 Q (F0 m pc ls st) := by
  obtain ⟨hx, hb, hml, hown, hts, hlocks, hr, hK⟩ := G
  obtain ⟨hi, hP, hS0⟩ := X
  obtain ⟨i1, i2, i3, i4, i5, i6, i7, i8⟩ := hI
  subst hst
  have hG : GoodIn wT (wsV own idx C y (wM y cc' nL' none)) := by
    intro w hw
    rcases List.mem_append.mp hw with hw | hw
    · have hw2 : w ∈ wT := by
        rcases List.mem_cons.mp hw with rfl | hw
        · exact hL
        rcases List.mem_cons.mp hw with rfl | hw
        · exact i2
        rcases List.mem_cons.mp hw with rfl | hw
        · exact i3
        rcases List.mem_cons.mp hw with rfl | hw
        · exact i4
        · cases hw
      exact ⟨hw2, good_of_word (wT_good hw2)⟩
    · exact wM_in i5 w hw
  refine va_callv (va_runV (nL := nL) (As := As) (rest := rest) ⟨hx, hb, hml, hown, hts⟩ (hM H.size) (cwV n hts hG rfl rfl rfl ⟨i1, i6, i7, i8⟩ ⟨hd, by show 8 + (nL' + 11) + 32 * d' ≤ 32 * d; omega⟩) ⟨sPc_blind, va_recv hK hP hc (sWd_get hS), fun U hU hWm => ⟨rfl, by rw [hU], by rw [hU]; exact hP, va_K.moved hWm.alike hK⟩⟩ rfl hn hls rfl (lv_room hW) hdg ⟨Nat.zero_le _, Nat.zero_le _⟩) hS0 (fun q hq h => sAsub hS0.1 q h) (fun q h => sAsub hS0.1 q h) (fun u t H1 locs1 ht hvm hw hB hz1 hk1 hS1 => ?_)
  rw [ht] at hB
  exact kk u H1 locs1 hw ⟨hi, hB, hS1⟩
theorem sS_good {idx : Nat} {y : MethodName} {cc' : ByteArray} {nL' n : Nat} {ret' : Option FieldType} (hI : sSY y cc' nL' ret' n) (hL : Cond.methodLink own idx y ∈ wT) : GoodIn wT (va_wsS own idx y (wM y cc' nL' ret')) := by
  obtain ⟨i1, i2, i3, -⟩ := hI
  intro w hw
  rcases List.mem_append.mp hw with hw | hw
  · have hw2 : w ∈ wT := by
      rcases List.mem_cons.mp hw with rfl | hw
      · exact hL
      rcases List.mem_cons.mp hw with rfl | hw
      · exact i1
      rcases List.mem_cons.mp hw with rfl | hw
      · exact i2
      · cases hw
    exact ⟨hw2, good_of_word (wT_good hw2)⟩
  · exact wM_in i3 w hw
theorem scSI {d d' n nL' idx : Nat} {y : MethodName} {cc' : ByteArray} {ret' : FieldType} {As : List Value} {post : Int32 → sV → Prop} {st : List Value}
    (G : sCx p s m args meth c cc own nL ret D cI) (X : sWS D cI S a V s.heap H locs) (hM : sMI l D cI S a V y cc' nL' ret' d' As post) (hI : sSY y cc' nL' (some ret') n) (hL : Cond.methodLink own idx y ∈ wT)
    (hst : st = As.reverse ++ rest) (hn : As.length = n) (hls : ls.size = nL) (hd : d' + 1 ≤ d) (hnl : nL' ≤ 13) (hW : (rest.map fun v => v.category).sum ≤ 8) (hdg : decode cc pc = .ok (.invokestatic idx, 3))
    (kk : ∀ (r : Int32) (V1 : sV) (H1 : Heap) (locs1 : List Loc), post r V1 → sWS D cI S a V1 s.heap H1 locs1 → W p l e (rmD d) s m args below meth c H1 locs1 0 0 Q (F0 m (pc + 3) ls (.int r :: rest))) : W p l e (rmD d) s m args below meth c H locs 0 0 Q (F0 m pc ls st) := by
  obtain ⟨hx, hb, hml, hown, hts, hlocks, hr, hK⟩ := G
  obtain ⟨hi, hP, hS0⟩ := X
  have hG := sS_good hI hL
  obtain ⟨i1, i2, i5, i6, i7, i8⟩ := hI
  subst hst
  refine va_calli (va_runS (nL := nL) (As := As) (rest := rest) ⟨hx, hb, hml, hown, hts⟩ (hM H.size) (va_cwS n hts hG rfl rfl rfl ⟨i6, i7, i8⟩ ⟨hd, by show 8 + (nL' + 11) + 32 * d' ≤ 32 * d; omega⟩) ⟨sPc_blind, fun U hU hWm => ⟨rfl, by rw [hU], by rw [hU]; exact hP, va_K.moved hWm.alike hK⟩⟩ rfl hn hls rfl (lv_room hW) hdg ⟨Nat.zero_le _, Nat.zero_le _⟩) hS0 (fun q hq h => sAsub hS0.1 q h) (fun q h => sAsub hS0.1 q h) (fun r u t H1 locs1 ht hvm hw hB hz1 hk1 hS1 => ?_)
  rw [ht] at hB
  exact kk r u H1 locs1 hw ⟨hi, hB, hS1⟩
theorem scSV {d d' n nL' idx : Nat} {y : MethodName} {cc' : ByteArray} {As : List Value} {post : sV → Prop} {st : List Value}
    (G : sCx p s m args meth c cc own nL ret D cI) (X : sWS D cI S a V s.heap H locs) (hM : sMV l D cI S a V y cc' nL' d' As post) (hI : sSY y cc' nL' none n) (hL : Cond.methodLink own idx y ∈ wT)
    (hst : st = As.reverse ++ rest) (hn : As.length = n) (hls : ls.size = nL) (hd : d' + 1 ≤ d) (hnl : nL' ≤ 13) (hW : (rest.map fun v => v.category).sum ≤ 8) (hdg : decode cc pc = .ok (.invokestatic idx, 3))
    (kk : ∀ (V1 : sV) (H1 : Heap) (locs1 : List Loc), post V1 → sWS D cI S a V1 s.heap H1 locs1 → W p l e (rmD d) s m args below meth c H1 locs1 0 0 Q (F0 m (pc + 3) ls rest)) : W p l e (rmD d) s m args below meth c H locs 0 0 Q (F0 m pc ls st) := by
  obtain ⟨hx, hb, hml, hown, hts, hlocks, hr, hK⟩ := G
  obtain ⟨hi, hP, hS0⟩ := X
  have hG := sS_good hI hL
  obtain ⟨i1, i2, i5, i6, i7, i8⟩ := hI
  subst hst
  refine va_callv (va_runS (nL := nL) (As := As) (rest := rest) ⟨hx, hb, hml, hown, hts⟩ (hM H.size) (va_cwS n hts hG rfl rfl rfl ⟨i6, i7, i8⟩ ⟨hd, by show 8 + (nL' + 11) + 32 * d' ≤ 32 * d; omega⟩) ⟨sPc_blind, fun U hU hWm => ⟨rfl, by rw [hU], by rw [hU]; exact hP, va_K.moved hWm.alike hK⟩⟩ rfl hn hls rfl (lv_room hW) hdg ⟨Nat.zero_le _, Nat.zero_le _⟩) hS0 (fun q hq h => sAsub hS0.1 q h) (fun q h => sAsub hS0.1 q h) (fun u t H1 locs1 ht hvm hw hB hz1 hk1 hS1 => ?_)
  rw [ht] at hB
  exact kk u H1 locs1 hw ⟨hi, hB, hS1⟩
/-- out of a body -/
theorem srI {v : Int32} {post : Int32 → sV → Prop} {rt : FieldType} (G : sCx p s m args meth c cc own nL (some rt) D cI) (X : sWS D cI S a V s.heap H locs) (hn : narrow rt (.int v) = .int v) (hdg : decode cc pc = .ok (.ireturn, 1)) (hp : post v V) :
    W p l e R s m args below meth c H locs 0 0 (MQ below (va_Qi post (fun V' t => va_P D vwCl (sWd cI S a V') t.heap) (sA S a s.heap.size)) args s 0 0 (sA S a s.heap.size)) (F0 m pc ls [.int v]) := by
  obtain ⟨hx, hb, hml, hown, hts, hlocks, hr, hK⟩ := G
  obtain ⟨hi, hP, hS0⟩ := X
  exact W.zret hx hb hr hn (fun t ht hW => ⟨⟨v, V, rfl, hp, by show va_P _ _ _ t.heap; rw [ht]; exact hP⟩, hS0.F ht⟩) hS0.2.2 hdg
theorem srV {post : sV → Prop} (G : sCx p s m args meth c cc own nL none D cI) (X : sWS D cI S a V s.heap H locs) (hdg : decode cc pc = .ok (.return_, 1)) (hp : post V) :
    W p l e R s m args below meth c H locs 0 0 (MQ below (va_Qv post (fun V' t => va_P D vwCl (sWd cI S a V') t.heap) (sA S a s.heap.size)) args s 0 0 (sA S a s.heap.size)) (F0 m pc ls []) := by
  obtain ⟨hx, hb, hml, hown, hts, hlocks, hr, hK⟩ := G
  obtain ⟨hi, hP, hS0⟩ := X
  exact W.vret hx hb hr (fun t ht hW => ⟨⟨V, rfl, hp, by show va_P _ _ _ t.heap; rw [ht]; exact hP⟩, hS0.F ht⟩) hS0.2.2 hdg
theorem srL {v : Int64} {post : Int64 → sV → Prop} (G : sCx p s m args meth c cc own nL (some .long) D cI) (X : sWS D cI S a V s.heap H locs) (hdg : decode cc pc = .ok (.lreturn, 1)) (hp : post v V) :
    W p l e R s m args below meth c H locs 0 0 (MQ below (va_Ql post (fun V' t => va_P D vwCl (sWd cI S a V') t.heap) (sA S a s.heap.size)) args s 0 0 (sA S a s.heap.size)) (F0 m pc ls [.long v]) := by
  obtain ⟨hx, hb, hml, hown, hts, hlocks, hr, hK⟩ := G
  obtain ⟨hi, hP, hS0⟩ := X
  exact W.lret hx hb hr (fun t ht hW => ⟨⟨v, V, rfl, hp, by show va_P _ _ _ t.heap; rw [ht]; exact hP⟩, hS0.F ht⟩) hS0.2.2 hdg
end SB
