def R_law : String := "DraughtsByCandleLaw"
def lw_P (b : Addr) (xs : List Int32) (args : Array Value) (s : State) : Prop := args = #[.ref b] ∧ s.IntsAt b xs ∧ xs.length ≤ 256 ∧ (Jvm.Cond.and given_1 narrow_1).before args s = true
def lw_Q (_ : Array Value) (s : State) (o : Outcome) (t : State) : Prop := o = .returned (some (.int 1)) ∧ Framed s o t [] 600000 7302250
def lw_Z (below : List Frame) (a : Array Value) (s : State) : State → Prop := fun t => ∃ o, t.status = .running ∧ Ended t below o ∧ lw_Q a s o t
/-- the law's own end, with 1 on the stack, nothing written that was there before, its room as the claim has it -/
theorem lw_ret {p : Program} {l : Launch} {e : Env} {s : State} {m : MethodId} {below : List Frame} {meth : Method} {c : Code} {b : Nat} (hx : p.tables.exec = Jvm.exec) (hb : c.code = code) (hr : meth.sig.returnType = ret) (hlocks : meth.locks = false) {pc : Nat} {H : Heap} {ls : Array Slot} (hdg : decode code pc = .ok (.ireturn, 1)) : W p l e room_1 s m #[Value.ref b] below meth c H [] 600000 7302250 (lw_Z below #[Value.ref b] s) (F0 m pc ls [.int 1]) := by
  intro T hT X
  obtain ⟨fs, hret, hrun, hended, hW, hframe⟩ := X.leave (v := some (.int 1)) (hlocks := hlocks) (fun h => by rw [hr] at h; cases h)
  have hmeth' : T.vm.method? m = some meth := X.method'
  refine ⟨T.setFrames fs, ?_, .returned (some (.int 1)), hrun, hended, rfl, ⟨_, rfl⟩, hW, hframe⟩
  jvm_step X.here [X.here.top, hx, hb, hdg, hmeth', hr, ret, narrow_b1]
  (try refine ⟨rfl, ?_⟩); (try refine ⟨rfl, ?_⟩)
  first | (intro acts; rw [hret _ acts rfl rfl rfl]) | rw [hret _ _ rfl rfl rfl]
  exact Steps.refl _
/-- what holds at the law's entry: the machine, the code, the tables' words (any of lw_tbl by 'hts w (by decide +kernel)'), the script of L ints xs at the cell b, what the Statement gives of the start (any of its parts by flat_of_before) -/
def lw_At (p : Program) (s : State) (m : MethodId) (meth : Method) (c : Code) (b L : Nat) (xs : Nat → Int32) : Prop :=
  p.tables.exec = Jvm.exec ∧ c.code = code ∧ meth.sig.returnType = ret ∧ c.maxLocals = 4 ∧ s.vm.findClass R_law = some m.cls ∧ (∀ w ∈ lw_tbl, w.before #[Value.ref b] s = true) ∧ va_X b L xs s s.heap ∧ b < s.heap.size ∧ meth.locks = false ∧ (Jvm.Cond.and given_1 narrow_1).before #[Value.ref b] s = true
abbrev lA (s : State) : Nat → Prop := fun q => s.heap.size ≤ q
/-- the relation of the two worlds that every call keeps -/
def lI (V U : sV) : Prop := mI U ∧ (∀ j, j < 4 → V 15 j = nowM U j) ∧ V 0 2 = U 0 24 ∧ (U 0 24 ≠ 0 → ∀ j, j < 4 → V 33 j = imM U j)
theorem lI.keep {V V1 U U1 : sV} {L : List Nat} (h : lI V U) (hA : sAg L V V1) (h15 : 15 ∉ L) (h0 : 0 ∉ L) (h33 : 33 ∉ L) (hK : mK U U1) : lI V1 U1 := by
  obtain ⟨h1, h2, h3, h4⟩ := h
  obtain ⟨k1, k2, k3, k4, k5⟩ := hK
  refine ⟨k1, fun j hj => ?_, by rw [hA 0 h0, k5]; exact h3, fun hi j hj => ?_⟩
  · rw [hA 15 h15, h2 j hj]; unfold nowM; rw [k2, k4]
  · rw [hA 33 h33, h4 (by rw [← k5]; exact hi) j hj]; unfold imM; rw [k3]
theorem nowF_cong {f g : Nat → Int32} (h : ∀ j, j < 4 → f j = g j) (w : Int32) : nowF f w = nowF g w := by
  unfold nowF; rw [h 0 (by decide), h 1 (by decide), h 2 (by decide), h 3 (by decide)]
theorem setX_cong {f g : Nat → Int32} (h : ∀ j, j < 4 → f j = g j) (w v : Int32) : setX f w v = setX g w v := by
  unfold setX; rw [nowF_cong h]
theorem upd_cong {f g : Nat → Int32} {i : Nat} {v : Int32} (h : ∀ j, j < 4 → f j = g j) : ∀ j, j < 4 → upd f i v j = upd g i v j := fun j hj => by
  unfold upd; rw [h j hj]
theorem setN_cong {f g : Nat → Int32} (h : ∀ j, j < 4 → f j = g j) (w v : Int32) : ∀ j, j < 4 → setN f w v j = setN g w v j := fun j hj => by
  unfold setN; (repeat' split) <;> first | exact h j hj | exact upd_cong h j hj
theorem fanN_cong {f g : Nat → Int32} (h : ∀ j, j < 4 → f j = g j) (v : Int32) : ∀ j, j < 4 → fanN f v j = fanN g v j := fun j hj => by
  unfold fanN; (repeat' split) <;> first | exact h j hj | exact upd_cong h j hj
theorem nowX_cong {f g : Nat → Int32} (h : ∀ j, j < 4 → f j = g j) (w : Int32) : nowX f w = nowX g w := by
  unfold nowX; rw [nowF_cong h]
/-- a call that writes NOW -/
theorem lI.now {V V1 U U1 : sV} (h : lI V U) (hA : sAg [1, 15] V V1) (hm : mI U1) (h17 : U1 17 = U 17) (h24 : U1 0 24 = U 0 24) (hn : ∀ j, j < 4 → V1 15 j = nowM U1 j) : lI V1 U1 := by
  obtain ⟨h1, h2, h3, h4⟩ := h
  refine ⟨hm, hn, by rw [hA 0 (by decide), h24]; exact h3, fun hi j hj => ?_⟩
  rw [hA 33 (by decide), h4 (by rw [← h24]; exact hi) j hj]; unfold imM; rw [h17]
theorem lI_set {V V1 U U1 : sV} {w v r x : Int32} (h : lI V U) (q1 : q_set V w v r V1) (q2 : q_m_set U w v x U1) : lI V1 U1 := by
  obtain ⟨a1, a2, a3⟩ := q1
  obtain ⟨b1, b2, b3, b4, b5⟩ := q2
  exact h.now a1 b1 b2 b3 (fun j hj => by rw [a3, b5 j hj]; exact setN_cong h.2.1 w v j hj)
theorem lE_set {V V1 U U1 : sV} {w v r x : Int32} (h : lI V U) (q1 : q_set V w v r V1) (q2 : q_m_set U w v x U1) : r = x := by rw [q1.2.1, q2.2.2.2.1]; exact setX_cong h.2.1 w v
theorem lI_fan {V V1 U U1 : sV} {v r x : Int32} (h : lI V U) (q1 : q_fan V v r V1) (q2 : q_m_fan U v x U1) : lI V1 U1 := by
  obtain ⟨a1, a2, a3⟩ := q1
  obtain ⟨b1, b2, b3, b4, b5⟩ := q2
  exact h.now a1 b1 b2 b3 (fun j hj => by rw [a3, b5 j hj]; exact fanN_cong h.2.1 v j hj)
theorem lE_fan {V V1 U U1 : sV} {v r x : Int32} (q1 : q_fan V v r V1) (q2 : q_m_fan U v x U1) : r = x := by rw [q1.2.1, q2.2.2.2.1]
theorem lE_now {V V1 U U1 : sV} {w r x : Int32} (h : lI V U) (q1 : q_now V w r V1) (q2 : q_m_now U w x U1) : r = x := by rw [q1.2, q2.2]; exact nowX_cong h.2.1 w
theorem lI_image {V V1 U U1 : sV} {r x : Int32} (h : lI V U) (q1 : q_image V r V1) (q2 : q_m_image U x U1) : lI V1 U1 := by
  obtain ⟨a1, ⟨a20, a21, a22, a23⟩, a3, -⟩ := q1
  obtain ⟨b1, b2, b3, b4, b5, -⟩ := q2
  obtain ⟨h1, h2, h3, h4⟩ := h
  have hn : ∀ j, j < 4 → nowM U1 j = nowM U j := fun j hj => by unfold nowM; rw [b3, b4]
  refine ⟨b1, fun j hj => by rw [a1 15 (by decide), hn j hj]; exact h2 j hj, by rw [a3, b5], fun _ j hj => ?_⟩
  rw [b2 j hj, ← h2 j hj]
  rcases (show j = 0 ∨ j = 1 ∨ j = 2 ∨ j = 3 by omega) with rfl | rfl | rfl | rfl
  · exact a20
  · exact a21
  · exact a22
  · exact a23
theorem lI_on {V V1 U U1 : sV} {r x : Int32} (h : lI V U) (q1 : q_on V r V1) (q2 : q_m_on U x U1) : lI V1 U1 := by
  obtain ⟨a1, a2, a3⟩ := q1
  obtain ⟨b1, b2, b3, b4, b5⟩ := q2
  obtain ⟨h1, h2, h3, h4⟩ := h
  refine ⟨b1, fun j hj => ?_, by rw [a1 0 (by decide), b3]; exact h3, fun hi j hj => ?_⟩
  · by_cases hz : U 0 24 = 0
    · obtain ⟨c1, c2, c3⟩ := b4 hz
      rw [(a2 (by rw [h3]; exact hz)).2, h2 j hj]
      unfold nowM
      rw [c2, c3]
    · rw [b5 hz j hj, ← h4 hz j hj]
      obtain ⟨c0, c1, c2, c3⟩ := a3 (by rw [h3]; exact hz)
      rcases (show j = 0 ∨ j = 1 ∨ j = 2 ∨ j = 3 by omega) with rfl | rfl | rfl | rfl
      · exact c0
      · exact c1
      · exact c2
      · exact c3
  · rw [a1 33 (by decide), h4 (by rw [← b3]; exact hi) j hj]; unfold imM; rw [b2]
theorem lI_fresh {f g : Nat → Int32} : lI (vX f) (vM g) := by
  refine ⟨vM_I, fun j hj => ?_, rfl, fun h => absurd rfl h⟩
  rcases (show j = 0 ∨ j = 1 ∨ j = 2 ∨ j = 3 by omega) with rfl | rfl | rfl | rfl <;> rfl
/-- what the law's walk knows of its start -/
def lG (p : Program) (s : State) (m : MethodId) (meth : Method) (c : Code) (b L : Nat) (xs : Nat → Int32) (D : va_G) (cI : ClassId) (kk kv : Nat → Nat) : Prop :=
  sCx p s m #[Value.ref b] meth c cL_law RL 4 ret D cI ∧ va_X b L xs s s.heap ∧ b < s.heap.size ∧ kE kk kv (lA s) s s.heap ∧ L ≤ 256
abbrev lLs (b : Nat) (a a2 : Nat → Nat) (i : Nat) : List (Nat × Value) := [(3, .int (nI i)), (2, .ref (a2 0)), (1, .ref (a 0)), (0, .ref b)]
section LH
variable {p : Program} {l : Launch} {e : Env} {s : State} {m : MethodId} {below : List Frame} {meth : Method} {c : Code} {H : Heap} {locs : List Loc} {cells slots : Nat} {Q : State → Prop}
variable {pc : Nat} {ls : Array Slot} {rest : List Value} {D : va_G} {cI : ClassId} {a a2 : Nat → Nat} {b L : Nat} {xs : Nat → Int32} {kk kv : Nat → Nat}
theorem lArg {i k : Nat} {n : Int} (G : lG p s m meth c b L xs D cI kk kv) (hS : va_S (lA s) s.heap H locs) (hl : lv_has ls 4 (lLs b a a2 i)) (hk : i + k < L) (hv : Int32.ofInt n = nI k)
    (d0 : decode cL_law pc = .ok (.aload_n 0, 1)) (d1 : decode cL_law (pc + 1) = .ok (.iload_n 3, 1)) (d2 : decode cL_law (pc + 1 + 1) = .ok (.iconst n, 1)) (d3 : decode cL_law (pc + 1 + 1 + 1) = .ok (.iadd, 1)) (d4 : decode cL_law (pc + 1 + 1 + 1 + 1) = .ok (.iaload, 1))
    (kk2 : W p l e room_1 s m #[Value.ref b] below meth c H locs cells slots Q (F0 m (pc + 1 + 1 + 1 + 1 + 1) ls (.int (xs (i + k)) :: rest))) : W p l e room_1 s m #[Value.ref b] below meth c H locs cells slots Q (F0 m pc ls rest) := by
  obtain ⟨G0, hX, hbl, hE, hL⟩ := G
  obtain ⟨hx, hb, -⟩ := id G0
  have hbA : ¬ lA s b := Nat.not_le.mpr hbl
  refine lv_aload_n hx hb d0 rfl (lv_at hl 3 rfl) ?_
  refine lv_iload_n hx hb d1 rfl (lv_at hl 0 rfl) ?_
  refine lv_iconst hx hb d2 hv ?_
  refine lv_iadd hx hb d3 ?_
  refine sTop (nI_add i k) ?_
  refine va_sld hx hb hX hbl hbA hS (vp_in_nI hk (by omega)) d4 ?_
  rw [nI_clamp (show i + k < 2 ^ 31 by omega)]
  exact kk2
/-- one round of the law's loop more, or its end -/
theorem lHead {i : Nat} (G : lG p s m meth c b L xs D cI kk kv) (hS : va_S (lA s) s.heap H locs) (hl : lv_has ls 4 (lLs b a a2 i)) (hi : i ≤ L) (hc : cells ≤ 600000) (hs : slots ≤ 7302250)
    (kk2 : i + 4 ≤ L → W p l e room_1 s m #[Value.ref b] below meth c H locs cells slots (lw_Z below #[Value.ref b] s) (F0 m 26 ls [])) : W p l e room_1 s m #[Value.ref b] below meth c H locs cells slots (lw_Z below #[Value.ref b] s) (F0 m 18 ls []) := by
  obtain ⟨G0, hX, hbl, hE, hL⟩ := G
  obtain ⟨hx, hb, hml, hown, hts, hlocks, hr, hK⟩ := id G0
  have hbA : ¬ lA s b := Nat.not_le.mpr hbl
  refine lv_iload_n hx hb dL_law_18 rfl (lv_at hl 0 rfl) ?_
  refine lv_aload_n hx hb dL_law_19 rfl (lv_at hl 3 rfl) ?_
  refine va_slen hx hb hX hbl hbA hS dL_law_20 ?_
  refine lv_iconst (v := 4) hx hb dL_law_21 (by decide) ?_
  refine lv_isub hx hb dL_law_22 ?_
  refine lv_topi (fun z ez => ?_)
  have h4 : (4 : Int32).toInt = 4 := by decide
  have hLi : (Int32.ofNat L).toInt = (L : Int) := nI_toInt (n := L) (by omega)
  have hii : (nI i).toInt = (i : Int) := nI_toInt (by omega)
  have hz : z.toInt = (L : Int) - 4 := by
    have h := i32_sube ez (by omega) (by omega)
    rw [h, hLi, h4]
  refine sIgt (tgt := 891) hx hb hii hz dL_law_23 (by decide) (fun c23 => ?_) (fun c23 => ?_)
  · refine lv_iconst (v := 1) hx hb dL_law_891 (by decide) ?_
    refine va_forget (fun q hq => hS.2.2 q hq) ?_
    refine W.widen hc hs ?_
    exact lw_ret hx hb hr hlocks dL_law_892
  · exact kk2 (by omega)
theorem lNext {i : Nat} (G : lG p s m meth c b L xs D cI kk kv) (hl : lv_has ls 4 (lLs b a a2 i))
    (kk2 : ∀ ls' : Array Slot, lv_has ls' 4 (lLs b a a2 (i + 4)) → W p l e room_1 s m #[Value.ref b] below meth c H locs cells slots Q (F0 m 18 ls' [])) : W p l e room_1 s m #[Value.ref b] below meth c H locs cells slots Q (F0 m 885 ls []) := by
  obtain ⟨G0, hX, hbl, hE, hL⟩ := G
  obtain ⟨hx, hb, -⟩ := id G0
  refine lv_iinc (v := nI (i + 4)) (lv' := lLs b a a2 (i + 4)) hx hb dL_law_885 hl (k := 0) rfl (nI_add i 4) (by decide) rfl (fun ls hl => ?_)
  refine lv_goto (tgt := 18) hx hb dL_law_888 (by decide) ?_
  exact kk2 ls hl
end LH
