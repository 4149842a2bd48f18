section CL
variable {p : Program} {l : Launch} {e : Env} {R : Room} {s : State} {m : MethodId} {args : Array Value} {below : List Frame} {meth : Method} {c : Code} {H : Heap} {locs : List Loc} {cells slots : Nat} {Q : State → Prop}
variable {cc : ByteArray} {pc : Nat} {ls : Array Slot} {rest : List Value} {own : String} {nL : Nat} {ret : Option FieldType} {D : va_G} {cI : ClassId} {A : Nat → Prop} {ws : va_W}
theorem lCall {d' mc ms n nL' idx b : Nat} {y : MethodName} {cc' : ByteArray} {wc wr : va_W} {As : List Value} {post : cU → Prop} {W1 : cU → va_W} {st : List Value} (G : sCx p s m args meth c cc own nL ret D cI) (X : cWS D A ws s.heap H locs) (hA : ∀ q, s.heap.size ≤ q → A q)
    (hM : cM l D cI y cc' nL' d' mc ms wc (.ref b :: As) post W1) (isC isR : List Nat) (hC : isC.map (fun i => ws[i]?) = wc.map some) (hR : isR.map (fun i => ws[i]?) = wr.map some) (hnR : va_nd isR = true) (hnC : va_nd isC = true) (hdis : ∀ i ∈ isR, i ∉ isC)
    (hL : Cond.methodLink own idx y ∈ wT) (hy : Cond.instanceMethod y ∈ wT ∧ Cond.initialized y.cls ∈ wT ∧ Cond.code y cc' nL' none ∈ wT ∧ y.name = "<init>" ∧ y.cls ≠ "java/lang/invoke/MethodHandle" ∧ y.cls ≠ "java/lang/invoke/VarHandle" ∧ (parseMethodDescriptor y.desc).map (fun d => d.parameters.length) = some n)
    (hst : st = As.reverse ++ .ref b :: rest) (hn : As.length = n) (hls : ls.size = nL) (hd : d' + 1 ≤ R.frames) (hnl : 8 + (nL' + 11) + 32 * d' ≤ R.locals) (hW : (rest.map fun v => v.category).sum ≤ 8) (hc : cells + mc ≤ R.cells) (hs : slots + ms ≤ R.slots) (hdg : decode cc pc = .ok (.invokespecial idx, 3))
    (kk : ∀ (u : cU) (H1 : Heap) (locs1 : List Loc), post u → cWS D A (wr ++ W1 u) s.heap H1 locs1 → W p l e R s m args below meth c H1 locs1 (cells + mc) (slots + ms) Q (F0 m (pc + 3) ls rest)) : W p l e R s m args below meth c H locs cells slots Q (F0 m pc ls st) := by
  obtain ⟨hx, hb, hml, hown, hts, hlocks, hr, hK⟩ := G
  obtain ⟨hP, hD, hS⟩ := X
  obtain ⟨i1, i2, i3, i4, i5, i6, i7⟩ := hy
  subst hst
  have hCs : isC.filterMap (fun i => ws[i]?) = wc := by
    have h := congrArg (List.filterMap id) hC
    rw [List.filterMap_map, List.filterMap_map] at h
    simpa using h
  have hPc := hP.sub isC hCs
  have hDc := hD.sub isC hnC hC
  have hFc := va_free hD hS hA isC hC
  refine va_callv (va_runI (nL := nL) (As := As) (rest := rest) ⟨hx, hb, hml, hown, hts⟩ (hM H.size) (cwI n hts (wM_in i3) rfl rfl rfl (hts _ i2) (hts _ hL) (hts _ i1) i4 ⟨i5, i6, i7⟩ ⟨hd, hnl⟩) ⟨fun a U g mk q => by obtain ⟨q0, q1, qP, qK, qD⟩ := q; exact ⟨q0, q1, qP, va_K.moved (u := U) (U := U.calling g mk a) (Vm.Alike.refl U.vm) qK, qD⟩, fun U hU hWm => ⟨rfl, by rw [hU], by rw [hU]; exact hPc, va_K.moved hWm.alike hK, hDc.weaken (fun _ _ _ _ => trivial)⟩⟩ rfl hn hls rfl (lv_room hW) hdg ⟨hc, hs⟩) hS (fun q _ h => hFc q h) hFc (fun u t H1 locs1 ht hvm hw hB hz1 hk1 hS1 => ?_)
  obtain ⟨hP1, hD1⟩ := hB
  rw [ht] at hP1
  obtain ⟨hP2, hD2⟩ := va_join hP hD isC isR hC hR hnR hdis hk1 hFc hP1 hD1
  exact kk u H1 locs1 hw ⟨hP2, hD2, hS1⟩
end CL
/-- the classes as the law's start has them -/
theorem lK_of {s : State} {b : Nat} (hts : ∀ w ∈ lw_tbl, w.before #[Value.ref b] s = true) : ∃ (D : va_G) (cI : ClassId), va_K D vwCl [(cI, .int)] s := by
  have hk : ∀ k : Nat, ∃ q : ClassId × (Nat → Nat), ∀ r : vw_C, vwCl[k]? = some r → u_Kn s r.1 r.2.1 r.2.2 q.1 q.2 := by
    intro k
    sorry
  sorry
