theorem k_eqr {args : Array Value} {s : State} {t1 t2 : Term} {a : Nat} (h : (Cond.eq t1 t2).before args s = true) (h1 : t1.eval args s none [] s = some (.ref a)) : t2.eval args s none [] s = some (.ref a) := by
  cases hv : t2.eval args s none [] s with
  | none => simp [Cond.before, Cond.holds, Cond.value, h1, hv] at h
  | some w =>
    simp only [Cond.before, Cond.holds, Cond.value, h1, hv] at h
    cases w <;> simp_all
def kTm (i : Nat) : Term := .string RX3 ([91, 93, 95, 97, 99, 114].getD i 0)
set_option maxRecDepth 100000 in
set_option maxHeartbeats 4000000 in
theorem kE_of {s : State} {b : Nat} {A : Nat → Prop} (hA : ∀ a : Nat, a < s.heap.size → ¬ A a) (hts : ∀ w ∈ lw_tbl, w.before #[Value.ref b] s = true) (hg : (Cond.and given_1 narrow_1).before #[Value.ref b] s = true) : ∃ kk kv, kE kk kv A s s.heap := by
  have hs := flat_of_before _ hg
  obtain ⟨kk, kv, hS, hT⟩ := vk_Sof (args := #[Value.ref b]) (s := s) (N := 6) (tm := kTm) (len := kLen) (byt := kByt) (A := A) (by decide)
    (fun i hi => by rcases (show i = 0 ∨ i = 1 ∨ i = 2 ∨ i = 3 ∨ i = 4 ∨ i = 5 by omega) with rfl | rfl | rfl | rfl | rfl | rfl <;> exact hs _ (by decide +kernel))
    (fun i hi => by rcases (show i = 0 ∨ i = 1 ∨ i = 2 ∨ i = 3 ∨ i = 4 ∨ i = 5 by omega) with rfl | rfl | rfl | rfl | rfl | rfl <;> exact hs _ (by decide +kernel))
    (fun i hi => by rcases (show i = 0 ∨ i = 1 ∨ i = 2 ∨ i = 3 ∨ i = 4 ∨ i = 5 by omega) with rfl | rfl | rfl | rfl | rfl | rfl <;> exact hs _ (by decide +kernel))
    (fun i hi => by rcases (show i = 0 ∨ i = 1 ∨ i = 2 ∨ i = 3 ∨ i = 4 ∨ i = 5 by omega) with rfl | rfl | rfl | rfl | rfl | rfl <;> exact hs _ (by decide +kernel))
    (fun i hi j hj => by
      have h8 := kLen_lt i hi
      rcases (show i = 0 ∨ i = 1 ∨ i = 2 ∨ i = 3 ∨ i = 4 ∨ i = 5 by omega) with rfl | rfl | rfl | rfl | rfl | rfl <;> rcases (show j = 0 ∨ j = 1 ∨ j = 2 ∨ j = 3 ∨ j = 4 ∨ j = 5 ∨ j = 6 ∨ j = 7 by omega) with rfl | rfl | rfl | rfl | rfl | rfl | rfl | rfl <;> first | exact absurd hj (by decide) | exact hs _ (by decide +kernel))
    (fun i j hi hj hne => by
      rcases (show i = 0 ∨ i = 1 ∨ i = 2 ∨ i = 3 ∨ i = 4 ∨ i = 5 by omega) with rfl | rfl | rfl | rfl | rfl | rfl <;> rcases (show j = 0 ∨ j = 1 ∨ j = 2 ∨ j = 3 ∨ j = 4 ∨ j = 5 by omega) with rfl | rfl | rfl | rfl | rfl | rfl <;> first | exact absurd rfl hne | exact Or.inl (hs _ (by decide +kernel)) | exact Or.inr (hs _ (by decide +kernel)))
    hA
  have r : ∀ i, i < 6 → ∀ tx, Cond.stringRef RX3 ([91, 93, 95, 97, 99, 114].getD i 0) tx ∈ lw_tbl → vk_R RX3 ([91, 93, 95, 97, 99, 114].getD i 0) tx (kk i) s := fun i hi tx h => vk_R.of (hts _ h) (hT i hi)
  have h5 : (Term.string RX10 93).eval #[Value.ref b] s none [] s = some (.ref (kk 5)) := k_eqr (t1 := kTm 5) (hs _ (by decide +kernel)) (hT 5 (by decide))
  exact ⟨kk, kv, hS, va_Zof (hts _ (by decide +kernel)) (hts _ (by decide +kernel)) (va_eqi (hs _ (by decide +kernel))) hA, va_Zqof (hts _ (by decide +kernel)) (hts _ (by decide +kernel)) (hs _ (by decide +kernel)) hA,
    r 0 (by decide) _ (by decide +kernel), r 1 (by decide) _ (by decide +kernel), r 2 (by decide) _ (by decide +kernel), r 3 (by decide) _ (by decide +kernel), r 4 (by decide) _ (by decide +kernel), r 5 (by decide) _ (by decide +kernel), vk_R.of (hts _ (by decide +kernel)) h5⟩
