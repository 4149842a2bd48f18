theorem sMathI : Cond.initialized "java/lang/Math" ∈ wT := wT_mem 51 (by decide +kernel) (by decide +kernel)
theorem sMaxS : Cond.static Lib.Math.max.name ∈ wT := wT_mem 184 (by decide +kernel) (by decide +kernel)
theorem sMaxC : Cond.code Lib.Math.max.name Lib.Math.max.code 2 (some .int) ∈ wT := wT_mem 185 (by decide +kernel) (by decide +kernel)
theorem sMinS : Cond.static Lib.Math.min.name ∈ wT := wT_mem 453 (by decide +kernel) (by decide +kernel)
theorem sMinC : Cond.code Lib.Math.min.name Lib.Math.min.code 2 (some .int) ∈ wT := wT_mem 454 (by decide +kernel) (by decide +kernel)
theorem sAbsS : Cond.static Lib.Math.abs.name ∈ wT := wT_mem 638 (by decide +kernel) (by decide +kernel)
theorem sAbsC : Cond.code Lib.Math.abs.name Lib.Math.abs.code 1 (some .int) ∈ wT := wT_mem 639 (by decide +kernel) (by decide +kernel)
theorem mm_X4_7 : Cond.methodLink RX4 7 Lib.Math.max.name ∈ wT := wT_mem 183 (by decide +kernel) (by decide +kernel)
theorem ml_X3_74 : Cond.methodLink RX3 74 yJ0_isEmpty_aae02 ∈ wT := wT_mem 370 (by decide +kernel) (by decide +kernel)
theorem ml_X3_79 : Cond.methodLink RX3 79 yJ0_length_8abf5 ∈ wT := wT_mem 374 (by decide +kernel) (by decide +kernel)
theorem ml_X3_83 : Cond.methodLink RX3 83 yJ0_charAt_5068e ∈ wT := wT_mem 384 (by decide +kernel) (by decide +kernel)
theorem ml_X3_116 : Cond.methodLink RX3 116 yJ0_indexOf_0f7a4 ∈ wT := wT_mem 436 (by decide +kernel) (by decide +kernel)
theorem mm_X2_51 : Cond.methodLink RX2 51 Lib.Math.max.name ∈ wT := wT_mem 514 (by decide +kernel) (by decide +kernel)
theorem mm_X1_104 : Cond.methodLink RX1 104 Lib.Math.abs.name ∈ wT := wT_mem 637 (by decide +kernel) (by decide +kernel)
theorem mm_X1_109 : Cond.methodLink RX1 109 Lib.Math.min.name ∈ wT := wT_mem 640 (by decide +kernel) (by decide +kernel)
theorem ml_X1_98 : Cond.methodLink RX1 98 yJ6_compare_7cf53 ∈ wT := wT_mem 641 (by decide +kernel) (by decide +kernel)
theorem mm_X1_112 : Cond.methodLink RX1 112 Lib.Math.max.name ∈ wT := wT_mem 673 (by decide +kernel) (by decide +kernel)
theorem ml_X2_65 : Cond.methodLink RX2 65 yJ6_bitCount_0f7a4 ∈ wT := wT_mem 695 (by decide +kernel) (by decide +kernel)
theorem mm_X9_198 : Cond.methodLink RX9 198 Lib.Math.abs.name ∈ wT := wT_mem 713 (by decide +kernel) (by decide +kernel)
theorem mm_X9_261 : Cond.methodLink RX9 261 Lib.Math.min.name ∈ wT := wT_mem 792 (by decide +kernel) (by decide +kernel)
theorem ml_X10_95 : Cond.methodLink RX10 95 yJ0_indexOf_0f7a4 ∈ wT := wT_mem 950 (by decide +kernel) (by decide +kernel)
theorem mm_X10_100 : Cond.methodLink RX10 100 Lib.Math.max.name ∈ wT := wT_mem 959 (by decide +kernel) (by decide +kernel)
theorem mm_X10_132 : Cond.methodLink RX10 132 Lib.Math.abs.name ∈ wT := wT_mem 1017 (by decide +kernel) (by decide +kernel)
theorem ml_X10_170 : Cond.methodLink RX10 170 yJ6_bitCount_0f7a4 ∈ wT := wT_mem 1068 (by decide +kernel) (by decide +kernel)
theorem iy_J6_compare_7cf53 : sSY yJ6_compare_7cf53 cJ6_compare_7cf53 2 (some .int) 2 := ⟨wT_mem 642 (by decide +kernel) (by decide +kernel), wT_mem 62 (by decide +kernel) (by decide +kernel), wT_mem 643 (by decide +kernel) (by decide +kernel), by decide +kernel, by decide +kernel, by decide +kernel⟩
theorem iy_J6_bitCount_0f7a4 : sSY yJ6_bitCount_0f7a4 cJ6_bitCount_0f7a4 1 (some .int) 1 := ⟨wT_mem 696 (by decide +kernel) (by decide +kernel), wT_mem 62 (by decide +kernel) (by decide +kernel), wT_mem 697 (by decide +kernel) (by decide +kernel), by decide +kernel, by decide +kernel, by decide +kernel⟩
theorem kc_J2_227 : Cond.constant RJ2 227 (65536) ∈ wT := wT_mem 463 (by decide +kernel) (by decide +kernel)
theorem kc_J11_110 : Cond.constant RJ11 110 (55232) ∈ wT := wT_mem 488 (by decide +kernel) (by decide +kernel)
theorem kc_J11_76 : Cond.constant RJ11 76 (56320) ∈ wT := wT_mem 492 (by decide +kernel) (by decide +kernel)
theorem kc_X9_254 : Cond.constant RX9 254 (1000000000) ∈ wT := wT_mem 581 (by decide +kernel) (by decide +kernel)
theorem kc_J6_265 : Cond.constant RJ6 265 (1431655765) ∈ wT := wT_mem 698 (by decide +kernel) (by decide +kernel)
theorem kc_J6_266 : Cond.constant RJ6 266 (858993459) ∈ wT := wT_mem 699 (by decide +kernel) (by decide +kernel)
theorem kc_J6_267 : Cond.constant RJ6 267 (252645135) ∈ wT := wT_mem 700 (by decide +kernel) (by decide +kernel)
theorem kc_X6_13 : Cond.constant RX6 13 (1664525) ∈ wT := wT_mem 776 (by decide +kernel) (by decide +kernel)
theorem kc_X6_14 : Cond.constant RX6 14 (1013904223) ∈ wT := wT_mem 777 (by decide +kernel) (by decide +kernel)
theorem kc_X6_15 : Cond.constant RX6 15 (2147483647) ∈ wT := wT_mem 778 (by decide +kernel) (by decide +kernel)
theorem kc_X10_128 : Cond.constant RX10 128 (1000000000) ∈ wT := wT_mem 988 (by decide +kernel) (by decide +kernel)
theorem kc_X10_185 : Cond.constant RX10 185 (1664525) ∈ wT := wT_mem 1118 (by decide +kernel) (by decide +kernel)
theorem kc_X10_186 : Cond.constant RX10 186 (1013904223) ∈ wT := wT_mem 1119 (by decide +kernel) (by decide +kernel)
theorem kc_X10_187 : Cond.constant RX10 187 (2147483647) ∈ wT := wT_mem 1120 (by decide +kernel) (by decide +kernel)
section ST
variable {p : Program} {l : Launch} {e : Env} {R : Room} {s : State} {m : MethodId} {args : Array Value} {below : List Frame} {meth : Method} {c : Code} {H : Heap} {locs : List Loc} {cells slots : Nat} {Q : State → Prop}
variable {cc : ByteArray} {pc : Nat} {ls : Array Slot} {rest : List Value}
theorem sTop {x y : Int32} (h : x = y) (k : W p l e R s m args below meth c H locs cells slots Q (F0 m pc ls (.int y :: rest))) : W p l e R s m args below meth c H locs cells slots Q (F0 m pc ls (.int x :: rest)) := h ▸ k
theorem sIge (hx : p.tables.exec = Jvm.exec) (hb : c.code = cc) {x y : Int32} {X Y : Int} (h1 : x.toInt = X) (h2 : y.toInt = Y) {off : Int} {tgt : Nat} (hdg : decode cc pc = .ok (.if_icmp .ge off, 3)) (ht : (pc : Int) + off = (tgt : Int))
    (kt : Y ≤ X → W p l e R s m args below meth c H locs cells slots Q (F0 m tgt ls rest)) (kf : X < Y → W p l e R s m args below meth c H locs cells slots Q (F0 m (pc + 3) ls rest)) : W p l e R s m args below meth c H locs cells slots Q (F0 m pc ls (.int y :: .int x :: rest)) :=
  lv_icmp_ge hx hb hdg ht (fun h => kt (by rw [← h1, ← h2]; exact Int32.le_iff_toInt_le.mp h)) (fun h => kf (by rw [← h1, ← h2]; rw [Int32.le_iff_toInt_le] at h; omega))
theorem sIlt (hx : p.tables.exec = Jvm.exec) (hb : c.code = cc) {x y : Int32} {X Y : Int} (h1 : x.toInt = X) (h2 : y.toInt = Y) {off : Int} {tgt : Nat} (hdg : decode cc pc = .ok (.if_icmp .lt off, 3)) (ht : (pc : Int) + off = (tgt : Int))
    (kt : X < Y → W p l e R s m args below meth c H locs cells slots Q (F0 m tgt ls rest)) (kf : Y ≤ X → W p l e R s m args below meth c H locs cells slots Q (F0 m (pc + 3) ls rest)) : W p l e R s m args below meth c H locs cells slots Q (F0 m pc ls (.int y :: .int x :: rest)) :=
  lv_icmp_lt hx hb hdg ht (fun h => kt (by rw [← h1, ← h2]; exact Int32.lt_iff_toInt_lt.mp h)) (fun h => kf (by rw [← h1, ← h2]; rw [Int32.lt_iff_toInt_lt] at h; omega))
theorem sIgt (hx : p.tables.exec = Jvm.exec) (hb : c.code = cc) {x y : Int32} {X Y : Int} (h1 : x.toInt = X) (h2 : y.toInt = Y) {off : Int} {tgt : Nat} (hdg : decode cc pc = .ok (.if_icmp .gt off, 3)) (ht : (pc : Int) + off = (tgt : Int))
    (kt : Y < X → W p l e R s m args below meth c H locs cells slots Q (F0 m tgt ls rest)) (kf : X ≤ Y → W p l e R s m args below meth c H locs cells slots Q (F0 m (pc + 3) ls rest)) : W p l e R s m args below meth c H locs cells slots Q (F0 m pc ls (.int y :: .int x :: rest)) :=
  lv_icmp_gt hx hb hdg ht (fun h => kt (by rw [← h1, ← h2]; exact Int32.lt_iff_toInt_lt.mp h)) (fun h => kf (by rw [← h1, ← h2]; rw [Int32.lt_iff_toInt_lt] at h; omega))
theorem sIle (hx : p.tables.exec = Jvm.exec) (hb : c.code = cc) {x y : Int32} {X Y : Int} (h1 : x.toInt = X) (h2 : y.toInt = Y) {off : Int} {tgt : Nat} (hdg : decode cc pc = .ok (.if_icmp .le off, 3)) (ht : (pc : Int) + off = (tgt : Int))
    (kt : X ≤ Y → W p l e R s m args below meth c H locs cells slots Q (F0 m tgt ls rest)) (kf : Y < X → W p l e R s m args below meth c H locs cells slots Q (F0 m (pc + 3) ls rest)) : W p l e R s m args below meth c H locs cells slots Q (F0 m pc ls (.int y :: .int x :: rest)) :=
  lv_icmp_le hx hb hdg ht (fun h => kt (by rw [← h1, ← h2]; exact Int32.le_iff_toInt_le.mp h)) (fun h => kf (by rw [← h1, ← h2]; rw [Int32.le_iff_toInt_le] at h; omega))
theorem sIeq (hx : p.tables.exec = Jvm.exec) (hb : c.code = cc) {x y : Int32} {X Y : Int} (h1 : x.toInt = X) (h2 : y.toInt = Y) {off : Int} {tgt : Nat} (hdg : decode cc pc = .ok (.if_icmp .eq off, 3)) (ht : (pc : Int) + off = (tgt : Int))
    (kt : X = Y → W p l e R s m args below meth c H locs cells slots Q (F0 m tgt ls rest)) (kf : X ≠ Y → W p l e R s m args below meth c H locs cells slots Q (F0 m (pc + 3) ls rest)) : W p l e R s m args below meth c H locs cells slots Q (F0 m pc ls (.int y :: .int x :: rest)) :=
  lv_icmp_eq hx hb hdg ht (fun h => kt (by rw [← h1, ← h2, h])) (fun h => kf (by rw [← h1, ← h2]; exact fun z => h (Int32.toInt_inj.mp z)))
theorem sIne (hx : p.tables.exec = Jvm.exec) (hb : c.code = cc) {x y : Int32} {X Y : Int} (h1 : x.toInt = X) (h2 : y.toInt = Y) {off : Int} {tgt : Nat} (hdg : decode cc pc = .ok (.if_icmp .ne off, 3)) (ht : (pc : Int) + off = (tgt : Int))
    (kt : X ≠ Y → W p l e R s m args below meth c H locs cells slots Q (F0 m tgt ls rest)) (kf : X = Y → W p l e R s m args below meth c H locs cells slots Q (F0 m (pc + 3) ls rest)) : W p l e R s m args below meth c H locs cells slots Q (F0 m pc ls (.int y :: .int x :: rest)) :=
  lv_icmp_ne hx hb hdg ht (fun h => kt (by rw [← h1, ← h2]; exact fun z => h (Int32.toInt_inj.mp z))) (fun h => kf (by rw [← h1, ← h2]; exact congrArg Int32.toInt h))
theorem sZlt (hx : p.tables.exec = Jvm.exec) (hb : c.code = cc) {x : Int32} {X : Int} (h1 : x.toInt = X) {off : Int} {tgt : Nat} (hdg : decode cc pc = .ok (.ifCond .lt off, 3)) (ht : (pc : Int) + off = (tgt : Int))
    (kt : X < 0 → W p l e R s m args below meth c H locs cells slots Q (F0 m tgt ls rest)) (kf : 0 ≤ X → W p l e R s m args below meth c H locs cells slots Q (F0 m (pc + 3) ls rest)) : W p l e R s m args below meth c H locs cells slots Q (F0 m pc ls (.int x :: rest)) :=
  lv_if_lt hx hb hdg ht (fun h => kt (by rw [← h1]; rw [Int32.lt_iff_toInt_lt, Int32.toInt_zero] at h; exact h)) (fun h => kf (by rw [← h1]; rw [Int32.lt_iff_toInt_lt, Int32.toInt_zero] at h; omega))
theorem sZge (hx : p.tables.exec = Jvm.exec) (hb : c.code = cc) {x : Int32} {X : Int} (h1 : x.toInt = X) {off : Int} {tgt : Nat} (hdg : decode cc pc = .ok (.ifCond .ge off, 3)) (ht : (pc : Int) + off = (tgt : Int))
    (kt : 0 ≤ X → W p l e R s m args below meth c H locs cells slots Q (F0 m tgt ls rest)) (kf : X < 0 → W p l e R s m args below meth c H locs cells slots Q (F0 m (pc + 3) ls rest)) : W p l e R s m args below meth c H locs cells slots Q (F0 m pc ls (.int x :: rest)) :=
  lv_if_ge hx hb hdg ht (fun h => kt (by rw [← h1]; rw [Int32.le_iff_toInt_le, Int32.toInt_zero] at h; exact h)) (fun h => kf (by rw [← h1]; rw [Int32.le_iff_toInt_le, Int32.toInt_zero] at h; omega))
theorem sZgt (hx : p.tables.exec = Jvm.exec) (hb : c.code = cc) {x : Int32} {X : Int} (h1 : x.toInt = X) {off : Int} {tgt : Nat} (hdg : decode cc pc = .ok (.ifCond .gt off, 3)) (ht : (pc : Int) + off = (tgt : Int))
    (kt : 0 < X → W p l e R s m args below meth c H locs cells slots Q (F0 m tgt ls rest)) (kf : X ≤ 0 → W p l e R s m args below meth c H locs cells slots Q (F0 m (pc + 3) ls rest)) : W p l e R s m args below meth c H locs cells slots Q (F0 m pc ls (.int x :: rest)) :=
  lv_if_gt hx hb hdg ht (fun h => kt (by rw [← h1]; rw [Int32.lt_iff_toInt_lt, Int32.toInt_zero] at h; exact h)) (fun h => kf (by rw [← h1]; rw [Int32.lt_iff_toInt_lt, Int32.toInt_zero] at h; omega))
theorem sZle (hx : p.tables.exec = Jvm.exec) (hb : c.code = cc) {x : Int32} {X : Int} (h1 : x.toInt = X) {off : Int} {tgt : Nat} (hdg : decode cc pc = .ok (.ifCond .le off, 3)) (ht : (pc : Int) + off = (tgt : Int))
    (kt : X ≤ 0 → W p l e R s m args below meth c H locs cells slots Q (F0 m tgt ls rest)) (kf : 0 < X → W p l e R s m args below meth c H locs cells slots Q (F0 m (pc + 3) ls rest)) : W p l e R s m args below meth c H locs cells slots Q (F0 m pc ls (.int x :: rest)) :=
  lv_if_le hx hb hdg ht (fun h => kt (by rw [← h1]; rw [Int32.le_iff_toInt_le, Int32.toInt_zero] at h; exact h)) (fun h => kf (by rw [← h1]; rw [Int32.le_iff_toInt_le, Int32.toInt_zero] at h; omega))
theorem sZeq (hx : p.tables.exec = Jvm.exec) (hb : c.code = cc) {x : Int32} {X : Int} (h1 : x.toInt = X) {off : Int} {tgt : Nat} (hdg : decode cc pc = .ok (.ifCond .eq off, 3)) (ht : (pc : Int) + off = (tgt : Int))
    (kt : X = 0 → W p l e R s m args below meth c H locs cells slots Q (F0 m tgt ls rest)) (kf : X ≠ 0 → W p l e R s m args below meth c H locs cells slots Q (F0 m (pc + 3) ls rest)) : W p l e R s m args below meth c H locs cells slots Q (F0 m pc ls (.int x :: rest)) :=
  lv_if_eq hx hb hdg ht (fun h => kt (by rw [← h1, h]; rfl)) (fun h => kf (by rw [← h1]; exact fun z => h (Int32.toInt_inj.mp (z.trans Int32.toInt_zero.symm))))
theorem sZne (hx : p.tables.exec = Jvm.exec) (hb : c.code = cc) {x : Int32} {X : Int} (h1 : x.toInt = X) {off : Int} {tgt : Nat} (hdg : decode cc pc = .ok (.ifCond .ne off, 3)) (ht : (pc : Int) + off = (tgt : Int))
    (kt : X ≠ 0 → W p l e R s m args below meth c H locs cells slots Q (F0 m tgt ls rest)) (kf : X = 0 → W p l e R s m args below meth c H locs cells slots Q (F0 m (pc + 3) ls rest)) : W p l e R s m args below meth c H locs cells slots Q (F0 m pc ls (.int x :: rest)) :=
  lv_if_ne hx hb hdg ht (fun h => kt (by rw [← h1]; exact fun z => h (Int32.toInt_inj.mp (z.trans Int32.toInt_zero.symm)))) (fun h => kf (by rw [← h1, h]; rfl))
theorem sMax (hx : p.tables.exec = Jvm.exec) (hb : c.code = cc) {own : String} {idx nL d : Nat} {x y : Int32} (hml : c.maxLocals = nL) (hls : ls.size = nL) (hown : s.vm.findClass own = some m.cls) (hts : ∀ w ∈ wT, w.before args s = true) (hL : Cond.methodLink own idx Lib.Math.max.name ∈ wT) (hd : 1 ≤ d) (hW : (rest.map fun v => v.category).sum ≤ 8) (hdg : decode cc pc = .ok (.invokestatic idx, 3))
    (kk : ∀ z : Int32, z.toInt = max x.toInt y.toInt → W p l e (rmD d) s m args below meth c H locs 0 0 Q (F0 m (pc + 3) ls (.int z :: rest))) : W p l e (rmD d) s m args below meth c H locs 0 0 Q (F0 m pc ls (.int y :: .int x :: rest)) :=
  va_mmax hx hb (by rw [hml, hls]) hown (hts _ hL) (hts _ sMaxS) (hts _ sMathI) (hts _ sMaxC) hd (by show _ ≤ 32 * d; omega) (Nat.zero_le _) (Nat.zero_le _) hdg (kk _ (by
    by_cases h : x < y
    · rw [if_pos h]; rw [Int32.lt_iff_toInt_lt] at h; omega
    · rw [if_neg h]; rw [Int32.lt_iff_toInt_lt] at h; omega))
theorem sMin (hx : p.tables.exec = Jvm.exec) (hb : c.code = cc) {own : String} {idx nL d : Nat} {x y : Int32} (hml : c.maxLocals = nL) (hls : ls.size = nL) (hown : s.vm.findClass own = some m.cls) (hts : ∀ w ∈ wT, w.before args s = true) (hL : Cond.methodLink own idx Lib.Math.min.name ∈ wT) (hd : 1 ≤ d) (hW : (rest.map fun v => v.category).sum ≤ 8) (hdg : decode cc pc = .ok (.invokestatic idx, 3))
    (kk : ∀ z : Int32, z.toInt = min x.toInt y.toInt → W p l e (rmD d) s m args below meth c H locs 0 0 Q (F0 m (pc + 3) ls (.int z :: rest))) : W p l e (rmD d) s m args below meth c H locs 0 0 Q (F0 m pc ls (.int y :: .int x :: rest)) :=
  va_mmin hx hb (by rw [hml, hls]) hown (hts _ hL) (hts _ sMinS) (hts _ sMathI) (hts _ sMinC) hd (by show _ ≤ 32 * d; omega) (Nat.zero_le _) (Nat.zero_le _) hdg (kk _ (by
    by_cases h : y < x
    · rw [if_pos h]; rw [Int32.lt_iff_toInt_lt] at h; omega
    · rw [if_neg h]; rw [Int32.lt_iff_toInt_lt] at h; omega))
theorem sAbs (hx : p.tables.exec = Jvm.exec) (hb : c.code = cc) {own : String} {idx nL d : Nat} {x : Int32} (hml : c.maxLocals = nL) (hls : ls.size = nL) (hown : s.vm.findClass own = some m.cls) (hts : ∀ w ∈ wT, w.before args s = true) (hL : Cond.methodLink own idx Lib.Math.abs.name ∈ wT) (hd : 1 ≤ d) (hW : (rest.map fun v => v.category).sum ≤ 8) (hdg : decode cc pc = .ok (.invokestatic idx, 3))
    (kk : ∀ z : Int32, z = (if 0 ≤ x then x else 0 - x) → W p l e (rmD d) s m args below meth c H locs 0 0 Q (F0 m (pc + 3) ls (.int z :: rest))) : W p l e (rmD d) s m args below meth c H locs 0 0 Q (F0 m pc ls (.int x :: rest)) :=
  va_mabs hx hb (by rw [hml, hls]) hown (hts _ hL) (hts _ sAbsS) (hts _ sMathI) (hts _ sAbsC) hd (by show _ ≤ 32 * d; omega) (Nat.zero_le _) (Nat.zero_le _) hdg (kk _ rfl)
end ST
theorem i32_lo (x : Int32) : -2147483648 ≤ x.toInt := Int32.le_toInt x
theorem i32_hi (x : Int32) : x.toInt < 2147483648 := Int32.toInt_lt x
theorem i32_add {x y : Int32} (h1 : -2147483648 ≤ x.toInt + y.toInt) (h2 : x.toInt + y.toInt < 2147483648) : (x + y).toInt = x.toInt + y.toInt := by
  rw [Int32.toInt_add]; exact Int.bmod_eq_of_le (by omega) (by omega)
theorem i32_sub {x y : Int32} (h1 : -2147483648 ≤ x.toInt - y.toInt) (h2 : x.toInt - y.toInt < 2147483648) : (x - y).toInt = x.toInt - y.toInt := by
  rw [Int32.toInt_sub]; exact Int.bmod_eq_of_le (by omega) (by omega)
theorem i32_mul {x y : Int32} (h1 : -2147483648 ≤ x.toInt * y.toInt) (h2 : x.toInt * y.toInt < 2147483648) : (x * y).toInt = x.toInt * y.toInt := by
  rw [Int32.toInt_mul]; exact Int.bmod_eq_of_le (by omega) (by omega)
theorem i32_neg {x : Int32} (h1 : -2147483648 < x.toInt) : (-x).toInt = -x.toInt := by
  have h3 := i32_hi x
  rw [Int32.toInt_neg]; exact Int.bmod_eq_of_le (by omega) (by omega)
theorem i32_inc {x : Int32} {b : Int32} (h : x.toInt < b.toInt) : (x + 1).toInt = x.toInt + 1 := by
  have h2 := i32_hi b
  have h3 := i32_lo x
  exact i32_add (by show _ ≤ x.toInt + 1; omega) (by show x.toInt + 1 < _; omega)
theorem i32_cl {x : Int32} (h : 0 ≤ x.toInt) : (x.toNatClampNeg : Int) = x.toInt := by
  show ((x.toInt.toNat : Nat) : Int) = x.toInt
  omega
theorem i32_in {x : Int32} {n : Nat} (h1 : 0 ≤ x.toInt) (h2 : x.toInt < n) : vp_in x n := vp_in_iff.mpr ⟨h1, h2⟩
theorem rAt_in {n : Nat} {f : Nat → Int32} {i : Int32} (h1 : 0 ≤ i.toInt) (h2 : i.toInt < n) : rAt n f i = f i.toNatClampNeg := if_pos ⟨h1, h2⟩
theorem rAt_out {n : Nat} {f : Nat → Int32} {i : Int32} (h : i.toInt < 0 ∨ (n : Int) ≤ i.toInt) : rAt n f i = 0 := if_neg (by omega)
theorem rPut_in {n : Nat} {f : Nat → Int32} {i v : Int32} (h1 : 0 ≤ i.toInt) (h2 : i.toInt < n) : rPut n f i v = upd f i.toNatClampNeg v := if_pos ⟨h1, h2⟩
theorem rPut_out {n : Nat} {f : Nat → Int32} {i v : Int32} (h : i.toInt < 0 ∨ (n : Int) ≤ i.toInt) : rPut n f i v = f := if_neg (by omega)
