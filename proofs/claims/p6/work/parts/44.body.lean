set_option maxHeartbeats 4000000 in
set_option maxRecDepth 100000 in
/-- one round of the law's loop -/
theorem lBody {p : Program} {l : Launch} {e : Env} {s : State} {m : MethodId} {below : List Frame} {meth : Method} {c : Code} {H : Heap} {locs : List Loc} {Q : State → Prop} {ls : Array Slot} {D : va_G} {cI : ClassId} {a a2 : Nat → Nat} {b L : Nat} {xs : Nat → Int32} {kk kv : Nat → Nat} {V U : sV} {i : Nat} (GG : lG p s m meth c b L xs D cI kk kv) (Z : lW D cI (lA s) a a2 V U s.heap H locs) (hI : lI V U) (hi : i + 4 ≤ L) (hl : lv_has ls 4 (lLs b a a2 i))
    (kk2 : ∀ (V1 U1 : sV) (H1 : Heap) (locs1 : List Loc), lI V1 U1 → lW D cI (lA s) a a2 V1 U1 s.heap H1 locs1 → W p l e room_1 s m #[Value.ref b] below meth c H1 locs1 69 6105 Q (F0 m 885 ls [])) : W p l e room_1 s m #[Value.ref b] below meth c H locs 69 6105 Q (F0 m 26 ls []) := by
  obtain ⟨G, hX, hbl, hE, hL⟩ := id GG
  obtain ⟨hx, hb, -⟩ := id G
  have hbA : ¬ lA s b := Nat.not_le.mpr hbl
  refine lv_aload_n hx hb dL_law_26 rfl (lv_at hl 3 rfl) ?_
  refine lv_iload_n hx hb dL_law_27 rfl (lv_at hl 0 rfl) ?_
  refine va_sld hx hb hX hbl hbA Z.2.2.2.2.2.2.2 (vp_in_nI (show i < L by omega) (by omega)) dL_law_28 ?_
  refine lv_bipush (v := 31) hx hb dL_law_29 (by decide) ?_
  refine lv_iand hx hb dL_law_31 ?_
  refine lv_topi (fun y ey => ?_)
  by_cases hs : y.toInt < 0 ∨ 30 < y.toInt
  · refine lv_tableOut (tgt := 885) hx hb dL_law_32 hs (by decide) ?_
    exact kk2 V U H locs hI Z
  by_cases h0 : y.toInt = 0
  · refine lv_tableIn (tgt := 172) (off := 140) hx hb dL_law_32 (by rw [h0]; decide) (by rw [h0]; decide) (by rw [h0]; rfl) (by decide) ?_
    exact lB_letter GG Z hI hi hl (fun r V1 x U1 H1 locs1 q1 q2 Z1 => kk2 V1 U1 H1 locs1 (hI.keep q1.1 (by decide) (by decide) (by decide) q2.1) Z1)
  by_cases h1 : y.toInt = 1
  · refine lv_tableIn (tgt := 195) (off := 163) hx hb dL_law_32 (by rw [h1]; decide) (by rw [h1]; decide) (by rw [h1]; rfl) (by decide) ?_
    exact lB_house GG Z hI hi hl (fun r V1 x U1 H1 locs1 q1 q2 Z1 => kk2 V1 U1 H1 locs1 (hI.keep q1.1 (by decide) (by decide) (by decide) q2.1) Z1)
  by_cases h2 : y.toInt = 2
  · refine lv_tableIn (tgt := 208) (off := 176) hx hb dL_law_32 (by rw [h2]; decide) (by rw [h2]; decide) (by rw [h2]; rfl) (by decide) ?_
    exact lB_hole GG Z hI hi hl (fun r V1 x U1 H1 locs1 q1 q2 Z1 => kk2 V1 U1 H1 locs1 (hI.keep q1.1 (by decide) (by decide) (by decide) q2.1) Z1)
  by_cases h3 : y.toInt = 3
  · refine lv_tableIn (tgt := 241) (off := 209) hx hb dL_law_32 (by rw [h3]; decide) (by rw [h3]; decide) (by rw [h3]; rfl) (by decide) ?_
    exact lB_weather GG Z hI hi hl (fun r V1 x U1 H1 locs1 q1 q2 Z1 => kk2 V1 U1 H1 locs1 (hI.keep q1.1 (by decide) (by decide) (by decide) q2.1) Z1)
  by_cases h4 : y.toInt = 4
  · refine lv_tableIn (tgt := 274) (off := 242) hx hb dL_law_32 (by rw [h4]; decide) (by rw [h4]; decide) (by rw [h4]; rfl) (by decide) ?_
    exact lB_set GG Z hI hi hl (fun r V1 x U1 q1 q2 => lE_set hI q1 q2) (fun r V1 x U1 H1 locs1 q1 q2 Z1 => kk2 V1 U1 H1 locs1 (lI_set hI q1 q2) Z1)
  by_cases h5 : y.toInt = 5
  · refine lv_tableIn (tgt := 307) (off := 275) hx hb dL_law_32 (by rw [h5]; decide) (by rw [h5]; decide) (by rw [h5]; rfl) (by decide) ?_
    exact lB_fan GG Z hI hi hl (fun r V1 x U1 H1 locs1 q1 q2 Z1 => kk2 V1 U1 H1 locs1 (lI_fan hI q1 q2) Z1)
  by_cases h6 : y.toInt = 6
  · refine lv_tableIn (tgt := 330) (off := 298) hx hb dL_law_32 (by rw [h6]; decide) (by rw [h6]; decide) (by rw [h6]; rfl) (by decide) ?_
    exact lB_now GG Z hI hi hl (fun r V1 x U1 H1 locs1 q1 q2 Z1 => kk2 V1 U1 H1 locs1 (hI.keep q1.1 (by decide) (by decide) (by decide) q2.1) Z1)
  by_cases h7 : y.toInt = 7
  · refine lv_tableIn (tgt := 353) (off := 321) hx hb dL_law_32 (by rw [h7]; decide) (by rw [h7]; decide) (by rw [h7]; rfl) (by decide) ?_
    exact lB_size GG Z hI hi hl (fun r V1 x U1 H1 locs1 q1 q2 Z1 => kk2 V1 U1 H1 locs1 (hI.keep q1.1 (by decide) (by decide) (by decide) q2.1) Z1)
  by_cases h8 : y.toInt = 8
  · refine lv_tableIn (tgt := 386) (off := 354) hx hb dL_law_32 (by rw [h8]; decide) (by rw [h8]; decide) (by rw [h8]; rfl) (by decide) ?_
    exact lB_outside GG Z hI hi hl (fun r V1 x U1 H1 locs1 q1 q2 Z1 => kk2 V1 U1 H1 locs1 (hI.keep q1.1 (by decide) (by decide) (by decide) q2.1) Z1)
  by_cases h9 : y.toInt = 9
  · refine lv_tableIn (tgt := 409) (off := 377) hx hb dL_law_32 (by rw [h9]; decide) (by rw [h9]; decide) (by rw [h9]; rfl) (by decide) ?_
    exact lB_push GG Z hI hi hl (fun r V1 x U1 H1 locs1 q1 q2 Z1 => kk2 V1 U1 H1 locs1 (hI.keep q1.1 (by decide) (by decide) (by decide) q2.1) Z1)
  by_cases h10 : y.toInt = 10
  · refine lv_tableIn (tgt := 432) (off := 400) hx hb dL_law_32 (by rw [h10]; decide) (by rw [h10]; decide) (by rw [h10]; rfl) (by decide) ?_
    exact lB_flow GG Z hI hi hl (fun r V1 x U1 H1 locs1 q1 q2 Z1 => kk2 V1 U1 H1 locs1 (hI.keep q1.1 (by decide) (by decide) (by decide) q2.1) Z1)
  by_cases h11 : y.toInt = 11
  · refine lv_tableIn (tgt := 455) (off := 423) hx hb dL_law_32 (by rw [h11]; decide) (by rw [h11]; decide) (by rw [h11]; rfl) (by decide) ?_
    exact lB_lean GG Z hI hi hl (fun r V1 x U1 H1 locs1 q1 q2 Z1 => kk2 V1 U1 H1 locs1 (hI.keep q1.1 (by decide) (by decide) (by decide) q2.1) Z1)
  by_cases h12 : y.toInt = 12
  · refine lv_tableIn (tgt := 478) (off := 446) hx hb dL_law_32 (by rw [h12]; decide) (by rw [h12]; decide) (by rw [h12]; rfl) (by decide) ?_
    exact lB_coal GG Z hI hi hl (fun r V1 x U1 H1 locs1 q1 q2 Z1 => kk2 V1 U1 H1 locs1 (hI.keep q1.1 (by decide) (by decide) (by decide) (mK.ag hI.1 q2.1 (by decide))) Z1)
  by_cases h13 : y.toInt = 13
  · refine lv_tableIn (tgt := 491) (off := 459) hx hb dL_law_32 (by rw [h13]; decide) (by rw [h13]; decide) (by rw [h13]; rfl) (by decide) ?_
    exact lB_smokes GG Z hI hi hl (fun r V1 x U1 H1 locs1 q1 q2 Z1 => kk2 V1 U1 H1 locs1 (hI.keep q1.1 (by decide) (by decide) (by decide) q2.1) Z1)
  by_cases h14 : y.toInt = 14
  · refine lv_tableIn (tgt := 504) (off := 472) hx hb dL_law_32 (by rw [h14]; decide) (by rw [h14]; decide) (by rw [h14]; rfl) (by decide) ?_
    exact lB_stopped GG Z hI hi hl (fun r V1 x U1 H1 locs1 q1 q2 Z1 => kk2 V1 U1 H1 locs1 (hI.keep q1.1 (by decide) (by decide) (by decide) (mK.ag hI.1 q2.1 (by decide))) Z1)
  by_cases h15 : y.toInt = 15
  · refine lv_tableIn (tgt := 527) (off := 495) hx hb dL_law_32 (by rw [h15]; decide) (by rw [h15]; decide) (by rw [h15]; rfl) (by decide) ?_
    exact lB_best GG Z hI hi hl (fun r V1 x U1 H1 locs1 q1 q2 Z1 => kk2 V1 U1 H1 locs1 (hI.keep q1.1 (by decide) (by decide) (by decide) q2.1) Z1)
  by_cases h16 : y.toInt = 16
  · refine lv_tableIn (tgt := 560) (off := 528) hx hb dL_law_32 (by rw [h16]; decide) (by rw [h16]; decide) (by rw [h16]; rfl) (by decide) ?_
    exact lB_pairs GG Z hI hi hl (fun r V1 x U1 H1 locs1 q1 q2 Z1 => kk2 V1 U1 H1 locs1 (hI.keep q1.1 (by decide) (by decide) (by decide) q2.1) Z1)
  by_cases h17 : y.toInt = 17
  · refine lv_tableIn (tgt := 583) (off := 551) hx hb dL_law_32 (by rw [h17]; decide) (by rw [h17]; decide) (by rw [h17]; rfl) (by decide) ?_
    exact lB_shut GG Z hI hi hl (fun r V1 x U1 H1 locs1 q1 q2 Z1 => kk2 V1 U1 H1 locs1 (hI.keep q1.1 (by decide) (by decide) (by decide) q2.1) Z1)
  by_cases h18 : y.toInt = 18
  · refine lv_tableIn (tgt := 616) (off := 584) hx hb dL_law_32 (by rw [h18]; decide) (by rw [h18]; decide) (by rw [h18]; rfl) (by decide) ?_
    exact lB_chair GG Z hI hi hl (fun r V1 x U1 H1 locs1 q1 q2 Z1 => kk2 V1 U1 H1 locs1 (hI.keep q1.1 (by decide) (by decide) (by decide) q2.1) Z1)
  by_cases h19 : y.toInt = 19
  · refine lv_tableIn (tgt := 629) (off := 597) hx hb dL_law_32 (by rw [h19]; decide) (by rw [h19]; decide) (by rw [h19]; rfl) (by decide) ?_
    exact lB_finger GG Z hI hi hl (fun r V1 x U1 H1 locs1 q1 q2 Z1 => kk2 V1 U1 H1 locs1 (hI.keep q1.1 (by decide) (by decide) (by decide) q2.1) Z1)
  by_cases h20 : y.toInt = 20
  · refine lv_tableIn (tgt := 642) (off := 610) hx hb dL_law_32 (by rw [h20]; decide) (by rw [h20]; decide) (by rw [h20]; rfl) (by decide) ?_
    exact lB_number GG Z hI hi hl (fun r V1 x U1 H1 locs1 q1 q2 Z1 => kk2 V1 U1 H1 locs1 (hI.keep q1.1 (by decide) (by decide) (by decide) q2.1) Z1)
  by_cases h21 : y.toInt = 21
  · refine lv_tableIn (tgt := 665) (off := 633) hx hb dL_law_32 (by rw [h21]; decide) (by rw [h21]; decide) (by rw [h21]; rfl) (by decide) ?_
    exact lB_winter GG Z hI hi hl (fun r V1 x U1 H1 locs1 q1 q2 Z1 => kk2 V1 U1 H1 locs1 (hI.keep q1.1 (by decide) (by decide) (by decide) q2.1) Z1)
  by_cases h22 : y.toInt = 22
  · refine lv_tableIn (tgt := 678) (off := 646) hx hb dL_law_32 (by rw [h22]; decide) (by rw [h22]; decide) (by rw [h22]; rfl) (by decide) ?_
    exact lB_turnsAbout GG Z hI hi hl (fun r V1 x U1 H1 locs1 q1 q2 Z1 => kk2 V1 U1 H1 locs1 (hI.keep q1.1 (by decide) (by decide) (by decide) q2.1) Z1)
  by_cases h23 : y.toInt = 23
  · refine lv_tableIn (tgt := 691) (off := 659) hx hb dL_law_32 (by rw [h23]; decide) (by rw [h23]; decide) (by rw [h23]; rfl) (by decide) ?_
    exact lB_sizes GG Z hI hi hl (fun r V1 x U1 H1 locs1 q1 q2 Z1 => kk2 V1 U1 H1 locs1 (hI.keep q1.1 (by decide) (by decide) (by decide) q2.1) Z1)
  by_cases h24 : y.toInt = 24
  · refine lv_tableIn (tgt := 734) (off := 702) hx hb dL_law_32 (by rw [h24]; decide) (by rw [h24]; decide) (by rw [h24]; rfl) (by decide) ?_
    exact lB_hidden GG Z hI hi hl (fun r V1 x U1 H1 locs1 q1 q2 Z1 => kk2 V1 U1 H1 locs1 (hI.keep q1.1 (by decide) (by decide) (by decide) q2.1) Z1)
  by_cases h25 : y.toInt = 25
  · refine lv_tableIn (tgt := 767) (off := 735) hx hb dL_law_32 (by rw [h25]; decide) (by rw [h25]; decide) (by rw [h25]; rfl) (by decide) ?_
    exact lB_days GG Z hI hi hl (fun r V1 x U1 H1 locs1 q1 q2 Z1 => kk2 V1 U1 H1 locs1 (hI.keep q1.1 (by decide) (by decide) (by decide) q2.1) Z1)
  by_cases h26 : y.toInt = 26
  · refine lv_tableIn (tgt := 800) (off := 768) hx hb dL_law_32 (by rw [h26]; decide) (by rw [h26]; decide) (by rw [h26]; rfl) (by decide) ?_
    exact lB_row GG Z hI hi hl (fun r V1 x U1 H1 locs1 q1 q2 Z1 => kk2 V1 U1 H1 locs1 (hI.keep q1.1 (by decide) (by decide) (by decide) q2.1) Z1)
  by_cases h27 : y.toInt = 27
  · refine lv_tableIn (tgt := 823) (off := 791) hx hb dL_law_32 (by rw [h27]; decide) (by rw [h27]; decide) (by rw [h27]; rfl) (by decide) ?_
    exact lB_judge GG Z hI hi hl (fun r V1 x U1 H1 locs1 q1 q2 Z1 => kk2 V1 U1 H1 locs1 (hI.keep q1.1 (by decide) (by decide) (by decide) q2.1) Z1)
  by_cases h28 : y.toInt = 28
  · refine lv_tableIn (tgt := 836) (off := 804) hx hb dL_law_32 (by rw [h28]; decide) (by rw [h28]; decide) (by rw [h28]; rfl) (by decide) ?_
    exact lB_image GG Z hI hi hl (fun r V1 x U1 H1 locs1 q1 q2 Z1 => kk2 V1 U1 H1 locs1 (lI_image hI q1 q2) Z1)
  by_cases h29 : y.toInt = 29
  · refine lv_tableIn (tgt := 849) (off := 817) hx hb dL_law_32 (by rw [h29]; decide) (by rw [h29]; decide) (by rw [h29]; rfl) (by decide) ?_
    exact lB_on GG Z hI hi hl (fun r V1 x U1 H1 locs1 q1 q2 Z1 => kk2 V1 U1 H1 locs1 (lI_on hI q1 q2) Z1)
  by_cases h30 : y.toInt = 30
  · refine lv_tableIn (tgt := 862) (off := 830) hx hb dL_law_32 (by rw [h30]; decide) (by rw [h30]; decide) (by rw [h30]; rfl) (by decide) ?_
    exact lB_count GG Z hI hi hl (fun r V1 x U1 H1 locs1 q1 q2 Z1 => kk2 V1 U1 H1 locs1 ((by rw [q1.2, q2.2]; exact hI)) Z1)
  exact absurd hs (by omega)
