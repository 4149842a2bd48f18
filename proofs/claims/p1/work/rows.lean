section
-- ===== PART A: goes FIRST, ahead of the names: the tables' words, and 'selects' of the private methods out of them =====
/-- a private method of a class that the tables say can be made, by its rows of tables_1 -/
def lw_okq (q : MethodName × Nat) : Prop := (q.1.cls ≠ "java/lang/invoke/MethodHandle" ∧ q.1.cls ≠ "java/lang/invoke/VarHandle") ∧ Cond.instantiable q.1.cls q.2 ∈ tables_1 ∧ Cond.privateMethod q.1 ∈ tables_1 ∧ Cond.instanceMethod q.1 ∈ tables_1
theorem lw_p0 : lw_okq (⟨"DraughtsByCandle", "refuse", "(I)I"⟩, 8) := ⟨⟨by decide +kernel, by decide +kernel⟩, List.mem_of_getElem? (i := 20) (by decide +kernel), List.mem_of_getElem? (i := 278) (by decide +kernel), List.mem_of_getElem? (i := 279) (by decide +kernel)⟩
theorem lw_p1 : lw_okq (⟨"DraughtsByCandle$Reader", "passStatement", "()Z"⟩, 4) := ⟨⟨by decide +kernel, by decide +kernel⟩, List.mem_of_getElem? (i := 215) (by decide +kernel), List.mem_of_getElem? (i := 306) (by decide +kernel), List.mem_of_getElem? (i := 307) (by decide +kernel)⟩
theorem lw_p2 : lw_okq (⟨"DraughtsByCandle$Reader", "passPart", "(C)Z"⟩, 4) := ⟨⟨by decide +kernel, by decide +kernel⟩, List.mem_of_getElem? (i := 215) (by decide +kernel), List.mem_of_getElem? (i := 379) (by decide +kernel), List.mem_of_getElem? (i := 380) (by decide +kernel)⟩
theorem lw_p3 : lw_okq (⟨"DraughtsByCandle$Reader", "passNumber", "(I)Z"⟩, 4) := ⟨⟨by decide +kernel, by decide +kernel⟩, List.mem_of_getElem? (i := 215) (by decide +kernel), List.mem_of_getElem? (i := 383) (by decide +kernel), List.mem_of_getElem? (i := 384) (by decide +kernel)⟩
theorem lw_p4 : lw_okq (⟨"DraughtsByCandle$Reader", "passKind", "()Z"⟩, 4) := ⟨⟨by decide +kernel, by decide +kernel⟩, List.mem_of_getElem? (i := 215) (by decide +kernel), List.mem_of_getElem? (i := 388) (by decide +kernel), List.mem_of_getElem? (i := 389) (by decide +kernel)⟩
theorem lw_p5 : lw_okq (⟨"DraughtsByCandle$Reader", "passSign", "(C)Z"⟩, 4) := ⟨⟨by decide +kernel, by decide +kernel⟩, List.mem_of_getElem? (i := 215) (by decide +kernel), List.mem_of_getElem? (i := 450) (by decide +kernel), List.mem_of_getElem? (i := 451) (by decide +kernel)⟩
theorem lw_p6 : lw_okq (⟨"DraughtsByCandle$Reader", "takeStatement", "()Z"⟩, 4) := ⟨⟨by decide +kernel, by decide +kernel⟩, List.mem_of_getElem? (i := 215) (by decide +kernel), List.mem_of_getElem? (i := 458) (by decide +kernel), List.mem_of_getElem? (i := 459) (by decide +kernel)⟩
theorem lw_p7 : lw_okq (⟨"DraughtsByCandle$Reader", "takeRooms", "(I)Z"⟩, 4) := ⟨⟨by decide +kernel, by decide +kernel⟩, List.mem_of_getElem? (i := 215) (by decide +kernel), List.mem_of_getElem? (i := 462) (by decide +kernel), List.mem_of_getElem? (i := 463) (by decide +kernel)⟩
theorem lw_p8 : lw_okq (⟨"DraughtsByCandle$Reader", "takeDoor", "(III)Z"⟩, 4) := ⟨⟨by decide +kernel, by decide +kernel⟩, List.mem_of_getElem? (i := 215) (by decide +kernel), List.mem_of_getElem? (i := 472) (by decide +kernel), List.mem_of_getElem? (i := 473) (by decide +kernel)⟩
theorem lw_p9 : lw_okq (⟨"DraughtsByCandle$Reader", "takeHole", "()Z"⟩, 4) := ⟨⟨by decide +kernel, by decide +kernel⟩, List.mem_of_getElem? (i := 215) (by decide +kernel), List.mem_of_getElem? (i := 486) (by decide +kernel), List.mem_of_getElem? (i := 487) (by decide +kernel)⟩
theorem lw_p10 : lw_okq (⟨"DraughtsByCandle$Reader", "takeWeather", "(III)Z"⟩, 4) := ⟨⟨by decide +kernel, by decide +kernel⟩, List.mem_of_getElem? (i := 215) (by decide +kernel), List.mem_of_getElem? (i := 490) (by decide +kernel), List.mem_of_getElem? (i := 491) (by decide +kernel)⟩
theorem lw_p11 : lw_okq (⟨"DraughtsByCandle", "nowOf", "(I)I"⟩, 8) := ⟨⟨by decide +kernel, by decide +kernel⟩, List.mem_of_getElem? (i := 20) (by decide +kernel), List.mem_of_getElem? (i := 522) (by decide +kernel), List.mem_of_getElem? (i := 523) (by decide +kernel)⟩
theorem lw_p12 : lw_okq (⟨"DraughtsByCandle", "refuseFar", "(I)I"⟩, 8) := ⟨⟨by decide +kernel, by decide +kernel⟩, List.mem_of_getElem? (i := 20) (by decide +kernel), List.mem_of_getElem? (i := 534) (by decide +kernel), List.mem_of_getElem? (i := 535) (by decide +kernel)⟩
theorem lw_p13 : lw_okq (⟨"DraughtsByCandle", "settleNow", "(I)V"⟩, 8) := ⟨⟨by decide +kernel, by decide +kernel⟩, List.mem_of_getElem? (i := 20) (by decide +kernel), List.mem_of_getElem? (i := 563) (by decide +kernel), List.mem_of_getElem? (i := 564) (by decide +kernel)⟩
theorem lw_p14 : lw_okq (⟨"DraughtsByCandle$Draught", "begin", "(LDraughtsByCandle$Air;)V"⟩, 8) := ⟨⟨by decide +kernel, by decide +kernel⟩, List.mem_of_getElem? (i := 183) (by decide +kernel), List.mem_of_getElem? (i := 577) (by decide +kernel), List.mem_of_getElem? (i := 578) (by decide +kernel)⟩
theorem lw_p15 : lw_okq (⟨"DraughtsByCandle$Draught", "doRound", "()V"⟩, 8) := ⟨⟨by decide +kernel, by decide +kernel⟩, List.mem_of_getElem? (i := 183) (by decide +kernel), List.mem_of_getElem? (i := 586) (by decide +kernel), List.mem_of_getElem? (i := 587) (by decide +kernel)⟩
def lw_privs_1 : List (MethodName × Nat) := [(⟨"DraughtsByCandle", "refuse", "(I)I"⟩, 8), (⟨"DraughtsByCandle$Reader", "passStatement", "()Z"⟩, 4), (⟨"DraughtsByCandle$Reader", "passPart", "(C)Z"⟩, 4), (⟨"DraughtsByCandle$Reader", "passNumber", "(I)Z"⟩, 4), (⟨"DraughtsByCandle$Reader", "passKind", "()Z"⟩, 4), (⟨"DraughtsByCandle$Reader", "passSign", "(C)Z"⟩, 4), (⟨"DraughtsByCandle$Reader", "takeStatement", "()Z"⟩, 4), (⟨"DraughtsByCandle$Reader", "takeRooms", "(I)Z"⟩, 4), (⟨"DraughtsByCandle$Reader", "takeDoor", "(III)Z"⟩, 4), (⟨"DraughtsByCandle$Reader", "takeHole", "()Z"⟩, 4), (⟨"DraughtsByCandle$Reader", "takeWeather", "(III)Z"⟩, 4), (⟨"DraughtsByCandle", "nowOf", "(I)I"⟩, 8), (⟨"DraughtsByCandle", "refuseFar", "(I)I"⟩, 8), (⟨"DraughtsByCandle", "settleNow", "(I)V"⟩, 8), (⟨"DraughtsByCandle$Draught", "begin", "(LDraughtsByCandle$Air;)V"⟩, 8), (⟨"DraughtsByCandle$Draught", "doRound", "()V"⟩, 8)]
theorem lw_r1 : ∀ q ∈ lw_privs_1, lw_okq q := List.forall_mem_cons.mpr ⟨lw_p0, List.forall_mem_cons.mpr ⟨lw_p1, List.forall_mem_cons.mpr ⟨lw_p2, List.forall_mem_cons.mpr ⟨lw_p3, List.forall_mem_cons.mpr ⟨lw_p4, List.forall_mem_cons.mpr ⟨lw_p5, List.forall_mem_cons.mpr ⟨lw_p6, List.forall_mem_cons.mpr ⟨lw_p7, List.forall_mem_cons.mpr ⟨lw_p8, List.forall_mem_cons.mpr ⟨lw_p9, List.forall_mem_cons.mpr ⟨lw_p10, List.forall_mem_cons.mpr ⟨lw_p11, List.forall_mem_cons.mpr ⟨lw_p12, List.forall_mem_cons.mpr ⟨lw_p13, List.forall_mem_cons.mpr ⟨lw_p14, List.forall_mem_cons.mpr ⟨lw_p15, fun _ h => absurd h List.not_mem_nil⟩⟩⟩⟩⟩⟩⟩⟩⟩⟩⟩⟩⟩⟩⟩⟩
theorem lw_p16 : lw_okq (⟨"DraughtsByCandle$Draught", "isAsEarlier", "()Z"⟩, 8) := ⟨⟨by decide +kernel, by decide +kernel⟩, List.mem_of_getElem? (i := 183) (by decide +kernel), List.mem_of_getElem? (i := 601) (by decide +kernel), List.mem_of_getElem? (i := 602) (by decide +kernel)⟩
theorem lw_p17 : lw_okq (⟨"DraughtsByCandle", "leanOf", "(I)I"⟩, 8) := ⟨⟨by decide +kernel, by decide +kernel⟩, List.mem_of_getElem? (i := 20) (by decide +kernel), List.mem_of_getElem? (i := 614) (by decide +kernel), List.mem_of_getElem? (i := 615) (by decide +kernel)⟩
theorem lw_p18 : lw_okq (⟨"DraughtsByCandle", "coalWithout", "(I)I"⟩, 8) := ⟨⟨by decide +kernel, by decide +kernel⟩, List.mem_of_getElem? (i := 20) (by decide +kernel), List.mem_of_getElem? (i := 622) (by decide +kernel), List.mem_of_getElem? (i := 623) (by decide +kernel)⟩
theorem lw_p19 : lw_okq (⟨"DraughtsByCandle", "idleAlone", "(I)I"⟩, 8) := ⟨⟨by decide +kernel, by decide +kernel⟩, List.mem_of_getElem? (i := 20) (by decide +kernel), List.mem_of_getElem? (i := 662) (by decide +kernel), List.mem_of_getElem? (i := 663) (by decide +kernel)⟩
theorem lw_p20 : lw_okq (⟨"DraughtsByCandle", "settleSized", "(II)V"⟩, 8) := ⟨⟨by decide +kernel, by decide +kernel⟩, List.mem_of_getElem? (i := 20) (by decide +kernel), List.mem_of_getElem? (i := 683) (by decide +kernel), List.mem_of_getElem? (i := 684) (by decide +kernel)⟩
theorem lw_p21 : lw_okq (⟨"DraughtsByCandle", "settleInWeather", "(I)V"⟩, 8) := ⟨⟨by decide +kernel, by decide +kernel⟩, List.mem_of_getElem? (i := 20) (by decide +kernel), List.mem_of_getElem? (i := 703) (by decide +kernel), List.mem_of_getElem? (i := 704) (by decide +kernel)⟩
theorem lw_p22 : lw_okq (⟨"DraughtsByCandle", "firstNotSo", "()I"⟩, 8) := ⟨⟨by decide +kernel, by decide +kernel⟩, List.mem_of_getElem? (i := 20) (by decide +kernel), List.mem_of_getElem? (i := 744) (by decide +kernel), List.mem_of_getElem? (i := 745) (by decide +kernel)⟩
theorem lw_p23 : lw_okq (⟨"DraughtsByCandleModel", "no", "(I)I"⟩, 26) := ⟨⟨by decide +kernel, by decide +kernel⟩, List.mem_of_getElem? (i := 790) (by decide +kernel), List.mem_of_getElem? (i := 879) (by decide +kernel), List.mem_of_getElem? (i := 880) (by decide +kernel)⟩
theorem lw_p24 : lw_okq (⟨"DraughtsByCandleModel", "statement", "()I"⟩, 26) := ⟨⟨by decide +kernel, by decide +kernel⟩, List.mem_of_getElem? (i := 790) (by decide +kernel), List.mem_of_getElem? (i := 887) (by decide +kernel), List.mem_of_getElem? (i := 888) (by decide +kernel)⟩
theorem lw_p25 : lw_okq (⟨"DraughtsByCandleModel", "is", "(C)Z"⟩, 26) := ⟨⟨by decide +kernel, by decide +kernel⟩, List.mem_of_getElem? (i := 790) (by decide +kernel), List.mem_of_getElem? (i := 891) (by decide +kernel), List.mem_of_getElem? (i := 892) (by decide +kernel)⟩
theorem lw_p26 : lw_okq (⟨"DraughtsByCandleModel", "sign", "()I"⟩, 26) := ⟨⟨by decide +kernel, by decide +kernel⟩, List.mem_of_getElem? (i := 790) (by decide +kernel), List.mem_of_getElem? (i := 895) (by decide +kernel), List.mem_of_getElem? (i := 896) (by decide +kernel)⟩
theorem lw_p27 : lw_okq (⟨"DraughtsByCandleModel", "number", "(II)Z"⟩, 26) := ⟨⟨by decide +kernel, by decide +kernel⟩, List.mem_of_getElem? (i := 790) (by decide +kernel), List.mem_of_getElem? (i := 899) (by decide +kernel), List.mem_of_getElem? (i := 900) (by decide +kernel)⟩
theorem lw_p28 : lw_okq (⟨"DraughtsByCandleModel", "comes", "(I)Z"⟩, 26) := ⟨⟨by decide +kernel, by decide +kernel⟩, List.mem_of_getElem? (i := 790) (by decide +kernel), List.mem_of_getElem? (i := 908) (by decide +kernel), List.mem_of_getElem? (i := 909) (by decide +kernel)⟩
theorem lw_p29 : lw_okq (⟨"DraughtsByCandleModel", "toldOf", "()I"⟩, 26) := ⟨⟨by decide +kernel, by decide +kernel⟩, List.mem_of_getElem? (i := 790) (by decide +kernel), List.mem_of_getElem? (i := 912) (by decide +kernel), List.mem_of_getElem? (i := 913) (by decide +kernel)⟩
theorem lw_p30 : lw_okq (⟨"DraughtsByCandleModel", "put", "(IIIIIII)V"⟩, 26) := ⟨⟨by decide +kernel, by decide +kernel⟩, List.mem_of_getElem? (i := 790) (by decide +kernel), List.mem_of_getElem? (i := 917) (by decide +kernel), List.mem_of_getElem? (i := 918) (by decide +kernel)⟩
theorem lw_p31 : lw_okq (⟨"DraughtsByCandleModel", "isHole", "(I)Z"⟩, 26) := ⟨⟨by decide +kernel, by decide +kernel⟩, List.mem_of_getElem? (i := 790) (by decide +kernel), List.mem_of_getElem? (i := 925) (by decide +kernel), List.mem_of_getElem? (i := 926) (by decide +kernel)⟩
def lw_privs_2 : List (MethodName × Nat) := [(⟨"DraughtsByCandle$Draught", "isAsEarlier", "()Z"⟩, 8), (⟨"DraughtsByCandle", "leanOf", "(I)I"⟩, 8), (⟨"DraughtsByCandle", "coalWithout", "(I)I"⟩, 8), (⟨"DraughtsByCandle", "idleAlone", "(I)I"⟩, 8), (⟨"DraughtsByCandle", "settleSized", "(II)V"⟩, 8), (⟨"DraughtsByCandle", "settleInWeather", "(I)V"⟩, 8), (⟨"DraughtsByCandle", "firstNotSo", "()I"⟩, 8), (⟨"DraughtsByCandleModel", "no", "(I)I"⟩, 26), (⟨"DraughtsByCandleModel", "statement", "()I"⟩, 26), (⟨"DraughtsByCandleModel", "is", "(C)Z"⟩, 26), (⟨"DraughtsByCandleModel", "sign", "()I"⟩, 26), (⟨"DraughtsByCandleModel", "number", "(II)Z"⟩, 26), (⟨"DraughtsByCandleModel", "comes", "(I)Z"⟩, 26), (⟨"DraughtsByCandleModel", "toldOf", "()I"⟩, 26), (⟨"DraughtsByCandleModel", "put", "(IIIIIII)V"⟩, 26), (⟨"DraughtsByCandleModel", "isHole", "(I)Z"⟩, 26)]
theorem lw_r2 : ∀ q ∈ lw_privs_2, lw_okq q := List.forall_mem_cons.mpr ⟨lw_p16, List.forall_mem_cons.mpr ⟨lw_p17, List.forall_mem_cons.mpr ⟨lw_p18, List.forall_mem_cons.mpr ⟨lw_p19, List.forall_mem_cons.mpr ⟨lw_p20, List.forall_mem_cons.mpr ⟨lw_p21, List.forall_mem_cons.mpr ⟨lw_p22, List.forall_mem_cons.mpr ⟨lw_p23, List.forall_mem_cons.mpr ⟨lw_p24, List.forall_mem_cons.mpr ⟨lw_p25, List.forall_mem_cons.mpr ⟨lw_p26, List.forall_mem_cons.mpr ⟨lw_p27, List.forall_mem_cons.mpr ⟨lw_p28, List.forall_mem_cons.mpr ⟨lw_p29, List.forall_mem_cons.mpr ⟨lw_p30, List.forall_mem_cons.mpr ⟨lw_p31, fun _ h => absurd h List.not_mem_nil⟩⟩⟩⟩⟩⟩⟩⟩⟩⟩⟩⟩⟩⟩⟩⟩
theorem lw_p32 : lw_okq (⟨"DraughtsByCandleModel", "isDoor", "(I)Z"⟩, 26) := ⟨⟨by decide +kernel, by decide +kernel⟩, List.mem_of_getElem? (i := 790) (by decide +kernel), List.mem_of_getElem? (i := 954) (by decide +kernel), List.mem_of_getElem? (i := 955) (by decide +kernel)⟩
theorem lw_p33 : lw_okq (⟨"DraughtsByCandleModel", "outsidePush", "(I)I"⟩, 26) := ⟨⟨by decide +kernel, by decide +kernel⟩, List.mem_of_getElem? (i := 790) (by decide +kernel), List.mem_of_getElem? (i := 958) (by decide +kernel), List.mem_of_getElem? (i := 959) (by decide +kernel)⟩
theorem lw_p34 : lw_okq (⟨"DraughtsByCandleModel", "settle", "()V"⟩, 26) := ⟨⟨by decide +kernel, by decide +kernel⟩, List.mem_of_getElem? (i := 790) (by decide +kernel), List.mem_of_getElem? (i := 966) (by decide +kernel), List.mem_of_getElem? (i := 967) (by decide +kernel)⟩
theorem lw_p35 : lw_okq (⟨"DraughtsByCandleModel", "flows", "(I)I"⟩, 26) := ⟨⟨by decide +kernel, by decide +kernel⟩, List.mem_of_getElem? (i := 790) (by decide +kernel), List.mem_of_getElem? (i := 970) (by decide +kernel), List.mem_of_getElem? (i := 971) (by decide +kernel)⟩
theorem lw_p36 : lw_okq (⟨"DraughtsByCandleModel", "root", "(I)I"⟩, 26) := ⟨⟨by decide +kernel, by decide +kernel⟩, List.mem_of_getElem? (i := 790) (by decide +kernel), List.mem_of_getElem? (i := 975) (by decide +kernel), List.mem_of_getElem? (i := 976) (by decide +kernel)⟩
theorem lw_p37 : lw_okq (⟨"DraughtsByCandleModel", "leans", "(I)I"⟩, 26) := ⟨⟨by decide +kernel, by decide +kernel⟩, List.mem_of_getElem? (i := 790) (by decide +kernel), List.mem_of_getElem? (i := 987) (by decide +kernel), List.mem_of_getElem? (i := 988) (by decide +kernel)⟩
theorem lw_p38 : lw_okq (⟨"DraughtsByCandleModel", "flowsIn", "()I"⟩, 26) := ⟨⟨by decide +kernel, by decide +kernel⟩, List.mem_of_getElem? (i := 790) (by decide +kernel), List.mem_of_getElem? (i := 995) (by decide +kernel), List.mem_of_getElem? (i := 996) (by decide +kernel)⟩
theorem lw_p39 : lw_okq (⟨"DraughtsByCandleModel", "smoke", "()Z"⟩, 26) := ⟨⟨by decide +kernel, by decide +kernel⟩, List.mem_of_getElem? (i := 790) (by decide +kernel), List.mem_of_getElem? (i := 1003) (by decide +kernel), List.mem_of_getElem? (i := 1004) (by decide +kernel)⟩
theorem lw_p40 : lw_okq (⟨"DraughtsByCandleModel", "stop", "(I)J"⟩, 26) := ⟨⟨by decide +kernel, by decide +kernel⟩, List.mem_of_getElem? (i := 790) (by decide +kernel), List.mem_of_getElem? (i := 1011) (by decide +kernel), List.mem_of_getElem? (i := 1012) (by decide +kernel)⟩
theorem lw_p41 : lw_okq (⟨"DraughtsByCandleModel", "open", "(J)V"⟩, 26) := ⟨⟨by decide +kernel, by decide +kernel⟩, List.mem_of_getElem? (i := 790) (by decide +kernel), List.mem_of_getElem? (i := 1017) (by decide +kernel), List.mem_of_getElem? (i := 1018) (by decide +kernel)⟩
theorem lw_p42 : lw_okq (⟨"DraughtsByCandleModel", "by", "(IIII)I"⟩, 26) := ⟨⟨by decide +kernel, by decide +kernel⟩, List.mem_of_getElem? (i := 790) (by decide +kernel), List.mem_of_getElem? (i := 1047) (by decide +kernel), List.mem_of_getElem? (i := 1048) (by decide +kernel)⟩
theorem lw_p43 : lw_okq (⟨"DraughtsByCandleModel", "draw", "(I)I"⟩, 26) := ⟨⟨by decide +kernel, by decide +kernel⟩, List.mem_of_getElem? (i := 790) (by decide +kernel), List.mem_of_getElem? (i := 1071) (by decide +kernel), List.mem_of_getElem? (i := 1072) (by decide +kernel)⟩
def lw_privs_3 : List (MethodName × Nat) := [(⟨"DraughtsByCandleModel", "isDoor", "(I)Z"⟩, 26), (⟨"DraughtsByCandleModel", "outsidePush", "(I)I"⟩, 26), (⟨"DraughtsByCandleModel", "settle", "()V"⟩, 26), (⟨"DraughtsByCandleModel", "flows", "(I)I"⟩, 26), (⟨"DraughtsByCandleModel", "root", "(I)I"⟩, 26), (⟨"DraughtsByCandleModel", "leans", "(I)I"⟩, 26), (⟨"DraughtsByCandleModel", "flowsIn", "()I"⟩, 26), (⟨"DraughtsByCandleModel", "smoke", "()Z"⟩, 26), (⟨"DraughtsByCandleModel", "stop", "(I)J"⟩, 26), (⟨"DraughtsByCandleModel", "open", "(J)V"⟩, 26), (⟨"DraughtsByCandleModel", "by", "(IIII)I"⟩, 26), (⟨"DraughtsByCandleModel", "draw", "(I)I"⟩, 26)]
theorem lw_r3 : ∀ q ∈ lw_privs_3, lw_okq q := List.forall_mem_cons.mpr ⟨lw_p32, List.forall_mem_cons.mpr ⟨lw_p33, List.forall_mem_cons.mpr ⟨lw_p34, List.forall_mem_cons.mpr ⟨lw_p35, List.forall_mem_cons.mpr ⟨lw_p36, List.forall_mem_cons.mpr ⟨lw_p37, List.forall_mem_cons.mpr ⟨lw_p38, List.forall_mem_cons.mpr ⟨lw_p39, List.forall_mem_cons.mpr ⟨lw_p40, List.forall_mem_cons.mpr ⟨lw_p41, List.forall_mem_cons.mpr ⟨lw_p42, List.forall_mem_cons.mpr ⟨lw_p43, fun _ h => absurd h List.not_mem_nil⟩⟩⟩⟩⟩⟩⟩⟩⟩⟩⟩⟩
def lw_privs : List (MethodName × Nat) := lw_privs_1 ++ (lw_privs_2 ++ (lw_privs_3))
def lw_tbl : List Cond := k2_sels lw_privs ++ tables_1
theorem lw_privs_ok : ∀ q ∈ lw_privs, lw_okq q := by
  show ∀ q ∈ lw_privs_1 ++ (lw_privs_2 ++ (lw_privs_3)), lw_okq q
  exact List.forall_mem_append.mpr ⟨lw_r1, List.forall_mem_append.mpr ⟨lw_r2, lw_r3⟩⟩
def RX0 : String := "DraughtsByCandle$Air"
def TX0 : u_T := fun k => match k with
  | 0 => ("DraughtsByCandle$Air", "warm", "I", false)
  | 1 => ("DraughtsByCandle$Air", "wind", "I", false)
  | 2 => ("DraughtsByCandle$Air", "side", "I", false)
  | _ => ("DraughtsByCandle$Air", "fan", "I", false)
def tyX0 : Nat → FieldType := fun k => match k with
  | 0 => .int
  | 1 => .int
  | 2 => .int
  | _ => .int
abbrev wsX00 : List Cond := u_ws RX0 TX0 4
theorem nmX0 : ∀ a, a < 4 → ∀ b, b < 4 → a ≠ b → (TX0 a).2.1 ≠ (TX0 b).2.1 := by decide +kernel
theorem tyX0_ok : ∀ k, k < 4 → parseFieldDescriptor (TX0 k).2.2.1 = some (tyX0 k) := by decide +kernel
abbrev cX0_init : ByteArray := prog_2_method_1_code
def yX0_init : MethodName := ⟨RX0, "<init>", "()V"⟩
abbrev cX0_become : ByteArray := prog_2_method_2_code
def yX0_become : MethodName := ⟨RX0, "become", "(IIII)V"⟩
abbrev cX0_windAt : ByteArray := prog_2_method_3_code
def yX0_windAt : MethodName := ⟨RX0, "windAt", "(I)I"⟩
def RX1 : String := "DraughtsByCandle$Draught"
def TX1 : u_T := fun k => match k with
  | 0 => ("DraughtsByCandle$Draught", "told", "LDraughtsByCandle$Told;", true)
  | 1 => ("DraughtsByCandle$Draught", "sizes", "[I", true)
  | 2 => ("DraughtsByCandle$Draught", "from", "[I", true)
  | 3 => ("DraughtsByCandle$Draught", "into", "[I", true)
  | 4 => ("DraughtsByCandle$Draught", "outside", "[I", true)
  | 5 => ("DraughtsByCandle$Draught", "pushes", "[I", true)
  | 6 => ("DraughtsByCandle$Draught", "earlier", "[I", true)
  | _ => ("DraughtsByCandle$Draught", "roots", "[I", true)
def tyX1 : Nat → FieldType := fun k => match k with
  | 0 => .object "DraughtsByCandle$Told"
  | 1 => .array .int
  | 2 => .array .int
  | 3 => .array .int
  | 4 => .array .int
  | 5 => .array .int
  | 6 => .array .int
  | _ => .array .int
abbrev wsX10 : List Cond := u_ws RX1 TX1 8
theorem nmX1 : ∀ a, a < 8 → ∀ b, b < 8 → a ≠ b → (TX1 a).2.1 ≠ (TX1 b).2.1 := by decide +kernel
theorem tyX1_ok : ∀ k, k < 8 → parseFieldDescriptor (TX1 k).2.2.1 = some (tyX1 k) := by decide +kernel
abbrev cX1_init : ByteArray := prog_3_method_1_code
def yX1_init : MethodName := ⟨RX1, "<init>", "(LDraughtsByCandle$Told;)V"⟩
abbrev cX1_takeSizes : ByteArray := prog_3_method_2_code
def yX1_takeSizes : MethodName := ⟨RX1, "takeSizes", "(I)V"⟩
abbrev cX1_changeSize : ByteArray := prog_3_method_3_code
def yX1_changeSize : MethodName := ⟨RX1, "changeSize", "(II)V"⟩
abbrev cX1_settle : ByteArray := prog_3_method_4_code
def yX1_settle : MethodName := ⟨RX1, "settle", "(LDraughtsByCandle$Air;)V"⟩
abbrev cX1_begin : ByteArray := prog_3_method_5_code
def yX1_begin : MethodName := ⟨RX1, "begin", "(LDraughtsByCandle$Air;)V"⟩
abbrev cX1_doRound : ByteArray := prog_3_method_6_code
def yX1_doRound : MethodName := ⟨RX1, "doRound", "()V"⟩
abbrev cX1_isAsEarlier : ByteArray := prog_3_method_7_code
def yX1_isAsEarlier : MethodName := ⟨RX1, "isAsEarlier", "()Z"⟩
abbrev cX1_flowThrough : ByteArray := prog_3_method_8_code
def yX1_flowThrough : MethodName := ⟨RX1, "flowThrough", "(I)I"⟩
abbrev cX1_inflow : ByteArray := prog_3_method_9_code
def yX1_inflow : MethodName := ⟨RX1, "inflow", "()I"⟩
abbrev cX1_smoking : ByteArray := prog_3_method_10_code
def yX1_smoking : MethodName := ⟨RX1, "smoking", "()Z"⟩
abbrev cX1_throughRoom : ByteArray := prog_3_method_11_code
def yX1_throughRoom : MethodName := ⟨RX1, "throughRoom", "(I)I"⟩
def RX2 : String := "DraughtsByCandle$Openings"
def TX2 : u_T := fun k => match k with
  | 0 => ("DraughtsByCandle$Openings", "room", "[I", true)
  | 1 => ("DraughtsByCandle$Openings", "other", "[I", true)
  | 2 => ("DraughtsByCandle$Openings", "kind", "[I", true)
  | 3 => ("DraughtsByCandle$Openings", "size", "[I", true)
  | 4 => ("DraughtsByCandle$Openings", "height", "[I", true)
  | 5 => ("DraughtsByCandle$Openings", "side", "[I", true)
  | 6 => ("DraughtsByCandle$Openings", "price", "[I", true)
  | _ => ("DraughtsByCandle$Openings", "many", "I", false)
def tyX2 : Nat → FieldType := fun k => match k with
  | 0 => .array .int
  | 1 => .array .int
  | 2 => .array .int
  | 3 => .array .int
  | 4 => .array .int
  | 5 => .array .int
  | 6 => .array .int
  | _ => .int
abbrev wsX20 : List Cond := u_ws RX2 TX2 8
theorem nmX2 : ∀ a, a < 8 → ∀ b, b < 8 → a ≠ b → (TX2 a).2.1 ≠ (TX2 b).2.1 := by decide +kernel
theorem tyX2_ok : ∀ k, k < 8 → parseFieldDescriptor (TX2 k).2.2.1 = some (tyX2 k) := by decide +kernel
abbrev cX2_init : ByteArray := prog_4_method_1_code
def yX2_init : MethodName := ⟨RX2, "<init>", "()V"⟩
abbrev cX2_has : ByteArray := prog_4_method_2_code
def yX2_has : MethodName := ⟨RX2, "has", "(I)Z"⟩
abbrev cX2_isFull : ByteArray := prog_4_method_3_code
def yX2_isFull : MethodName := ⟨RX2, "isFull", "()Z"⟩
abbrev cX2_isDoor : ByteArray := prog_4_method_4_code
def yX2_isDoor : MethodName := ⟨RX2, "isDoor", "(I)Z"⟩
abbrev cX2_add : ByteArray := prog_4_method_5_code
def yX2_add : MethodName := ⟨RX2, "add", "(IIIIIII)V"⟩
abbrev cX2_dropLast : ByteArray := prog_4_method_6_code
def yX2_dropLast : MethodName := ⟨RX2, "dropLast", "()V"⟩
abbrev cX2_become : ByteArray := prog_4_method_7_code
def yX2_become : MethodName := ⟨RX2, "become", "(LDraughtsByCandle$Openings;)V"⟩
abbrev cX2_roomsToldOf : ByteArray := prog_4_method_8_code
def yX2_roomsToldOf : MethodName := ⟨RX2, "roomsToldOf", "()I"⟩
abbrev cX2_doors : ByteArray := prog_4_method_9_code
def yX2_doors : MethodName := ⟨RX2, "doors", "()I"⟩
abbrev cX2_allSizes : ByteArray := prog_4_method_10_code
def yX2_allSizes : MethodName := ⟨RX2, "allSizes", "()I"⟩
abbrev cX2_canBeStopped : ByteArray := prog_4_method_11_code
def yX2_canBeStopped : MethodName := ⟨RX2, "canBeStopped", "(II)Z"⟩
abbrev cX2_outsidePush : ByteArray := prog_4_method_12_code
def yX2_outsidePush : MethodName := ⟨RX2, "outsidePush", "(ILDraughtsByCandle$Air;)I"⟩
def RX3 : String := "DraughtsByCandle$Reader"
def TX3 : u_T := fun k => match k with
  | 0 => ("DraughtsByCandle$Reader", "told", "LDraughtsByCandle$Told;", true)
  | 1 => ("DraughtsByCandle$Reader", "numbers", "LDraughtsByCandle$Row;", true)
  | 2 => ("DraughtsByCandle$Reader", "place", "I", false)
  | _ => ("DraughtsByCandle$Reader", "verb", "I", false)
def tyX3 : Nat → FieldType := fun k => match k with
  | 0 => .object "DraughtsByCandle$Told"
  | 1 => .object "DraughtsByCandle$Row"
  | 2 => .int
  | _ => .int
abbrev wsX30 : List Cond := u_ws RX3 TX3 4
theorem nmX3 : ∀ a, a < 4 → ∀ b, b < 4 → a ≠ b → (TX3 a).2.1 ≠ (TX3 b).2.1 := by decide +kernel
theorem tyX3_ok : ∀ k, k < 4 → parseFieldDescriptor (TX3 k).2.2.1 = some (tyX3 k) := by decide +kernel
abbrev cX3_init : ByteArray := prog_5_method_1_code
def yX3_init : MethodName := ⟨RX3, "<init>", "(LDraughtsByCandle$Told;)V"⟩
abbrev cX3_faultOfLetters : ByteArray := prog_5_method_2_code
def yX3_faultOfLetters : MethodName := ⟨RX3, "faultOfLetters", "()I"⟩
abbrev cX3_takeStatements : ByteArray := prog_5_method_3_code
def yX3_takeStatements : MethodName := ⟨RX3, "takeStatements", "()I"⟩
abbrev cX3_passStatement : ByteArray := prog_5_method_4_code
def yX3_passStatement : MethodName := ⟨RX3, "passStatement", "()Z"⟩
abbrev cX3_shapeBehind : ByteArray := prog_5_method_5_code
def yX3_shapeBehind : MethodName := ⟨RX3, "shapeBehind", "(I)Ljava/lang/String;"⟩
abbrev cX3_passPart : ByteArray := prog_5_method_6_code
def yX3_passPart : MethodName := ⟨RX3, "passPart", "(C)Z"⟩
abbrev cX3_passNumber : ByteArray := prog_5_method_7_code
def yX3_passNumber : MethodName := ⟨RX3, "passNumber", "(I)Z"⟩
abbrev cX3_passKind : ByteArray := prog_5_method_8_code
def yX3_passKind : MethodName := ⟨RX3, "passKind", "()Z"⟩
abbrev cX3_passSign : ByteArray := prog_5_method_9_code
def yX3_passSign : MethodName := ⟨RX3, "passSign", "(C)Z"⟩
abbrev cX3_takeStatement : ByteArray := prog_5_method_10_code
def yX3_takeStatement : MethodName := ⟨RX3, "takeStatement", "()Z"⟩
abbrev cX3_takeRooms : ByteArray := prog_5_method_11_code
def yX3_takeRooms : MethodName := ⟨RX3, "takeRooms", "(I)Z"⟩
abbrev cX3_takeDoor : ByteArray := prog_5_method_12_code
def yX3_takeDoor : MethodName := ⟨RX3, "takeDoor", "(III)Z"⟩
abbrev cX3_takeHole : ByteArray := prog_5_method_13_code
def yX3_takeHole : MethodName := ⟨RX3, "takeHole", "()Z"⟩
abbrev cX3_takeWeather : ByteArray := prog_5_method_14_code
def yX3_takeWeather : MethodName := ⟨RX3, "takeWeather", "(III)Z"⟩
def RX4 : String := "DraughtsByCandle$Row"
def TX4 : u_T := fun k => match k with
  | 0 => ("DraughtsByCandle$Row", "numbers", "[I", true)
  | _ => ("DraughtsByCandle$Row", "many", "I", false)
def tyX4 : Nat → FieldType := fun k => match k with
  | 0 => .array .int
  | _ => .int
abbrev wsX40 : List Cond := u_ws RX4 TX4 2
theorem nmX4 : ∀ a, a < 2 → ∀ b, b < 2 → a ≠ b → (TX4 a).2.1 ≠ (TX4 b).2.1 := by decide +kernel
theorem tyX4_ok : ∀ k, k < 2 → parseFieldDescriptor (TX4 k).2.2.1 = some (tyX4 k) := by decide +kernel
abbrev cX4_init : ByteArray := prog_6_method_1_code
def yX4_init : MethodName := ⟨RX4, "<init>", "(I)V"⟩
abbrev cX4_isFull : ByteArray := prog_6_method_2_code
def yX4_isFull : MethodName := ⟨RX4, "isFull", "()Z"⟩
abbrev cX4_add : ByteArray := prog_6_method_3_code
def yX4_add : MethodName := ⟨RX4, "add", "(I)V"⟩
abbrev cX4_get : ByteArray := prog_6_method_4_code
def yX4_get : MethodName := ⟨RX4, "get", "(I)I"⟩
abbrev cX4_clear : ByteArray := prog_6_method_5_code
def yX4_clear : MethodName := ⟨RX4, "clear", "()V"⟩
abbrev cX4_become : ByteArray := prog_6_method_6_code
def yX4_become : MethodName := ⟨RX4, "become", "(LDraughtsByCandle$Row;)V"⟩
def RX5 : String := "DraughtsByCandle$Rows"
def TX5 : u_T := fun k => match k with
  | _ => ("", "", "", false)
def tyX5 : Nat → FieldType := fun k => match k with
  | _ => .int
abbrev wsX50 : List Cond := u_ws RX5 TX5 0
theorem nmX5 : ∀ a, a < 0 → ∀ b, b < 0 → a ≠ b → (TX5 a).2.1 ≠ (TX5 b).2.1 := by decide +kernel
theorem tyX5_ok : ∀ k, k < 0 → parseFieldDescriptor (TX5 k).2.2.1 = some (tyX5 k) := by decide +kernel
abbrev cX5_at : ByteArray := prog_7_method_2_code
def yX5_at : MethodName := ⟨RX5, "at", "([II)I"⟩
abbrev cX5_put : ByteArray := prog_7_method_3_code
def yX5_put : MethodName := ⟨RX5, "put", "([III)V"⟩
abbrev cX5_copy : ByteArray := prog_7_method_4_code
def yX5_copy : MethodName := ⟨RX5, "copy", "([I[I)V"⟩
def RX6 : String := "DraughtsByCandle$Seed"
def TX6 : u_T := fun k => match k with
  | _ => ("DraughtsByCandle$Seed", "z", "I", false)
def tyX6 : Nat → FieldType := fun k => match k with
  | _ => .int
abbrev wsX60 : List Cond := u_ws RX6 TX6 1
theorem nmX6 : ∀ a, a < 1 → ∀ b, b < 1 → a ≠ b → (TX6 a).2.1 ≠ (TX6 b).2.1 := by decide +kernel
theorem tyX6_ok : ∀ k, k < 1 → parseFieldDescriptor (TX6 k).2.2.1 = some (tyX6 k) := by decide +kernel
abbrev cX6_init : ByteArray := prog_8_method_1_code
def yX6_init : MethodName := ⟨RX6, "<init>", "()V"⟩
abbrev cX6_draw : ByteArray := prog_8_method_2_code
def yX6_draw : MethodName := ⟨RX6, "draw", "(I)I"⟩
def RX7 : String := "DraughtsByCandle$Told"
def TX7 : u_T := fun k => match k with
  | 0 => ("DraughtsByCandle$Told", "rooms", "I", false)
  | 1 => ("DraughtsByCandle$Told", "openings", "LDraughtsByCandle$Openings;", true)
  | 2 => ("DraughtsByCandle$Told", "weathers", "LDraughtsByCandle$Weathers;", true)
  | 3 => ("DraughtsByCandle$Told", "now", "LDraughtsByCandle$Air;", true)
  | 4 => ("DraughtsByCandle$Told", "letters", "LDraughtsByCandle$Row;", true)
  | _ => ("DraughtsByCandle$Told", "leans", "LDraughtsByCandle$Row;", true)
def tyX7 : Nat → FieldType := fun k => match k with
  | 0 => .int
  | 1 => .object "DraughtsByCandle$Openings"
  | 2 => .object "DraughtsByCandle$Weathers"
  | 3 => .object "DraughtsByCandle$Air"
  | 4 => .object "DraughtsByCandle$Row"
  | _ => .object "DraughtsByCandle$Row"
abbrev wsX70 : List Cond := u_ws RX7 TX7 6
theorem nmX7 : ∀ a, a < 6 → ∀ b, b < 6 → a ≠ b → (TX7 a).2.1 ≠ (TX7 b).2.1 := by decide +kernel
theorem tyX7_ok : ∀ k, k < 6 → parseFieldDescriptor (TX7 k).2.2.1 = some (tyX7 k) := by decide +kernel
abbrev cX7_init : ByteArray := prog_9_method_1_code
def yX7_init : MethodName := ⟨RX7, "<init>", "()V"⟩
abbrev cX7_become : ByteArray := prog_9_method_2_code
def yX7_become : MethodName := ⟨RX7, "become", "(LDraughtsByCandle$Told;)V"⟩
def RX8 : String := "DraughtsByCandle$Weathers"
def TX8 : u_T := fun k => match k with
  | 0 => ("DraughtsByCandle$Weathers", "warm", "[I", true)
  | 1 => ("DraughtsByCandle$Weathers", "wind", "[I", true)
  | 2 => ("DraughtsByCandle$Weathers", "side", "[I", true)
  | _ => ("DraughtsByCandle$Weathers", "many", "I", false)
def tyX8 : Nat → FieldType := fun k => match k with
  | 0 => .array .int
  | 1 => .array .int
  | 2 => .array .int
  | _ => .int
abbrev wsX80 : List Cond := u_ws RX8 TX8 4
theorem nmX8 : ∀ a, a < 4 → ∀ b, b < 4 → a ≠ b → (TX8 a).2.1 ≠ (TX8 b).2.1 := by decide +kernel
theorem tyX8_ok : ∀ k, k < 4 → parseFieldDescriptor (TX8 k).2.2.1 = some (tyX8 k) := by decide +kernel
abbrev cX8_init : ByteArray := prog_10_method_1_code
def yX8_init : MethodName := ⟨RX8, "<init>", "()V"⟩
abbrev cX8_isFull : ByteArray := prog_10_method_2_code
def yX8_isFull : MethodName := ⟨RX8, "isFull", "()Z"⟩
abbrev cX8_add : ByteArray := prog_10_method_3_code
def yX8_add : MethodName := ⟨RX8, "add", "(III)V"⟩
abbrev cX8_become : ByteArray := prog_10_method_4_code
def yX8_become : MethodName := ⟨RX8, "become", "(LDraughtsByCandle$Weathers;)V"⟩
def RX9 : String := "DraughtsByCandle"
def TX9 : u_T := fun k => match k with
  | 0 => ("DraughtsByCandle", "told", "LDraughtsByCandle$Told;", true)
  | 1 => ("DraughtsByCandle", "image", "LDraughtsByCandle$Told;", true)
  | 2 => ("DraughtsByCandle", "imageTaken", "Z", false)
  | 3 => ("DraughtsByCandle", "draught", "LDraughtsByCandle$Draught;", true)
  | 4 => ("DraughtsByCandle", "reader", "LDraughtsByCandle$Reader;", true)
  | 5 => ("DraughtsByCandle", "seed", "LDraughtsByCandle$Seed;", true)
  | 6 => ("DraughtsByCandle", "otherAir", "LDraughtsByCandle$Air;", true)
  | _ => ("DraughtsByCandle", "refusals", "[I", true)
def tyX9 : Nat → FieldType := fun k => match k with
  | 0 => .object "DraughtsByCandle$Told"
  | 1 => .object "DraughtsByCandle$Told"
  | 2 => .boolean
  | 3 => .object "DraughtsByCandle$Draught"
  | 4 => .object "DraughtsByCandle$Reader"
  | 5 => .object "DraughtsByCandle$Seed"
  | 6 => .object "DraughtsByCandle$Air"
  | _ => .array .int
abbrev wsX90 : List Cond := u_ws RX9 TX9 8
theorem nmX9 : ∀ a, a < 8 → ∀ b, b < 8 → a ≠ b → (TX9 a).2.1 ≠ (TX9 b).2.1 := by decide +kernel
theorem tyX9_ok : ∀ k, k < 8 → parseFieldDescriptor (TX9 k).2.2.1 = some (tyX9 k) := by decide +kernel
abbrev cX9_init : ByteArray := prog_1_method_1_code
def yX9_init : MethodName := ⟨RX9, "<init>", "()V"⟩
abbrev cX9_letter : ByteArray := prog_1_method_2_code
def yX9_letter : MethodName := ⟨RX9, "letter", "(I)I"⟩
abbrev cX9_house : ByteArray := prog_1_method_3_code
def yX9_house : MethodName := ⟨RX9, "house", "()I"⟩
abbrev cX9_hole : ByteArray := prog_1_method_4_code
def yX9_hole : MethodName := ⟨RX9, "hole", "(II)I"⟩
abbrev cX9_weather : ByteArray := prog_1_method_5_code
def yX9_weather : MethodName := ⟨RX9, "weather", "(II)I"⟩
abbrev cX9_set : ByteArray := prog_1_method_6_code
def yX9_set : MethodName := ⟨RX9, "set", "(II)I"⟩
abbrev cX9_fan : ByteArray := prog_1_method_7_code
def yX9_fan : MethodName := ⟨RX9, "fan", "(I)I"⟩
abbrev cX9_now : ByteArray := prog_1_method_8_code
def yX9_now : MethodName := ⟨RX9, "now", "(I)I"⟩
abbrev cX9_size : ByteArray := prog_1_method_9_code
def yX9_size : MethodName := ⟨RX9, "size", "(II)I"⟩
abbrev cX9_outside : ByteArray := prog_1_method_10_code
def yX9_outside : MethodName := ⟨RX9, "outside", "(I)I"⟩
abbrev cX9_push : ByteArray := prog_1_method_11_code
def yX9_push : MethodName := ⟨RX9, "push", "(I)I"⟩
abbrev cX9_flow : ByteArray := prog_1_method_12_code
def yX9_flow : MethodName := ⟨RX9, "flow", "(I)I"⟩
abbrev cX9_lean : ByteArray := prog_1_method_13_code
def yX9_lean : MethodName := ⟨RX9, "lean", "(I)I"⟩
abbrev cX9_coal : ByteArray := prog_1_method_14_code
def yX9_coal : MethodName := ⟨RX9, "coal", "()I"⟩
abbrev cX9_smokes : ByteArray := prog_1_method_15_code
def yX9_smokes : MethodName := ⟨RX9, "smokes", "()I"⟩
abbrev cX9_stopped : ByteArray := prog_1_method_16_code
def yX9_stopped : MethodName := ⟨RX9, "stopped", "(I)I"⟩
abbrev cX9_best : ByteArray := prog_1_method_17_code
def yX9_best : MethodName := ⟨RX9, "best", "(II)I"⟩
abbrev cX9_pairs : ByteArray := prog_1_method_18_code
def yX9_pairs : MethodName := ⟨RX9, "pairs", "(I)I"⟩
abbrev cX9_shut : ByteArray := prog_1_method_19_code
def yX9_shut : MethodName := ⟨RX9, "shut", "(II)I"⟩
abbrev cX9_chair : ByteArray := prog_1_method_20_code
def yX9_chair : MethodName := ⟨RX9, "chair", "()I"⟩
abbrev cX9_finger : ByteArray := prog_1_method_21_code
def yX9_finger : MethodName := ⟨RX9, "finger", "()I"⟩
abbrev cX9_number : ByteArray := prog_1_method_22_code
def yX9_number : MethodName := ⟨RX9, "number", "(I)I"⟩
abbrev cX9_winter : ByteArray := prog_1_method_23_code
def yX9_winter : MethodName := ⟨RX9, "winter", "()I"⟩
abbrev cX9_turnsAbout : ByteArray := prog_1_method_24_code
def yX9_turnsAbout : MethodName := ⟨RX9, "turnsAbout", "()I"⟩
abbrev cX9_sizes : ByteArray := prog_1_method_25_code
def yX9_sizes : MethodName := ⟨RX9, "sizes", "(III)I"⟩
abbrev cX9_hidden : ByteArray := prog_1_method_26_code
def yX9_hidden : MethodName := ⟨RX9, "hidden", "(II)I"⟩
abbrev cX9_days : ByteArray := prog_1_method_27_code
def yX9_days : MethodName := ⟨RX9, "days", "(II)I"⟩
abbrev cX9_row : ByteArray := prog_1_method_28_code
def yX9_row : MethodName := ⟨RX9, "row", "(I)I"⟩
abbrev cX9_judge : ByteArray := prog_1_method_29_code
def yX9_judge : MethodName := ⟨RX9, "judge", "()I"⟩
abbrev cX9_image : ByteArray := prog_1_method_30_code
def yX9_image : MethodName := ⟨RX9, "image", "()I"⟩
abbrev cX9_on : ByteArray := prog_1_method_31_code
def yX9_on : MethodName := ⟨RX9, "on", "()I"⟩
abbrev cX9_count : ByteArray := prog_1_method_32_code
def yX9_count : MethodName := ⟨RX9, "count", "(I)I"⟩
abbrev cX9_refuse : ByteArray := prog_1_method_33_code
def yX9_refuse : MethodName := ⟨RX9, "refuse", "(I)I"⟩
abbrev cX9_refuseFar : ByteArray := prog_1_method_34_code
def yX9_refuseFar : MethodName := ⟨RX9, "refuseFar", "(I)I"⟩
abbrev cX9_nowOf : ByteArray := prog_1_method_35_code
def yX9_nowOf : MethodName := ⟨RX9, "nowOf", "(I)I"⟩
abbrev cX9_settleNow : ByteArray := prog_1_method_36_code
def yX9_settleNow : MethodName := ⟨RX9, "settleNow", "(I)V"⟩
abbrev cX9_settleSized : ByteArray := prog_1_method_37_code
def yX9_settleSized : MethodName := ⟨RX9, "settleSized", "(II)V"⟩
abbrev cX9_settleInWeather : ByteArray := prog_1_method_38_code
def yX9_settleInWeather : MethodName := ⟨RX9, "settleInWeather", "(I)V"⟩
abbrev cX9_coalWithout : ByteArray := prog_1_method_39_code
def yX9_coalWithout : MethodName := ⟨RX9, "coalWithout", "(I)I"⟩
abbrev cX9_idleAlone : ByteArray := prog_1_method_40_code
def yX9_idleAlone : MethodName := ⟨RX9, "idleAlone", "(I)I"⟩
abbrev cX9_leanOf : ByteArray := prog_1_method_41_code
def yX9_leanOf : MethodName := ⟨RX9, "leanOf", "(I)I"⟩
abbrev cX9_firstNotSo : ByteArray := prog_1_method_42_code
def yX9_firstNotSo : MethodName := ⟨RX9, "firstNotSo", "()I"⟩
def RX10 : String := "DraughtsByCandleModel"
def TX10 : u_T := fun k => match k with
  | 0 => ("DraughtsByCandleModel", "rooms", "I", false)
  | 1 => ("DraughtsByCandleModel", "letters", "I", false)
  | 2 => ("DraughtsByCandleModel", "letter", "[I", true)
  | 3 => ("DraughtsByCandleModel", "holes", "I", false)
  | 4 => ("DraughtsByCandleModel", "room", "[I", true)
  | 5 => ("DraughtsByCandleModel", "other", "[I", true)
  | 6 => ("DraughtsByCandleModel", "kind", "[I", true)
  | 7 => ("DraughtsByCandleModel", "size", "[I", true)
  | 8 => ("DraughtsByCandleModel", "height", "[I", true)
  | 9 => ("DraughtsByCandleModel", "side", "[I", true)
  | 10 => ("DraughtsByCandleModel", "price", "[I", true)
  | 11 => ("DraughtsByCandleModel", "weathers", "I", false)
  | 12 => ("DraughtsByCandleModel", "told", "[I", true)
  | 13 => ("DraughtsByCandleModel", "now", "[I", true)
  | 14 => ("DraughtsByCandleModel", "fan", "I", false)
  | 15 => ("DraughtsByCandleModel", "rowed", "I", false)
  | 16 => ("DraughtsByCandleModel", "row", "[I", true)
  | 17 => ("DraughtsByCandleModel", "refused", "[I", true)
  | 18 => ("DraughtsByCandleModel", "push", "[I", true)
  | 19 => ("DraughtsByCandleModel", "outside", "[I", true)
  | 20 => ("DraughtsByCandleModel", "random", "I", false)
  | 21 => ("DraughtsByCandleModel", "roots", "[I", true)
  | 22 => ("DraughtsByCandleModel", "at", "I", false)
  | 23 => ("DraughtsByCandleModel", "number", "[I", true)
  | 24 => ("DraughtsByCandleModel", "imaged", "Z", false)
  | _ => ("DraughtsByCandleModel", "image", "[I", true)
def tyX10 : Nat → FieldType := fun k => match k with
  | 0 => .int
  | 1 => .int
  | 2 => .array .int
  | 3 => .int
  | 4 => .array .int
  | 5 => .array .int
  | 6 => .array .int
  | 7 => .array .int
  | 8 => .array .int
  | 9 => .array .int
  | 10 => .array .int
  | 11 => .int
  | 12 => .array .int
  | 13 => .array .int
  | 14 => .int
  | 15 => .int
  | 16 => .array .int
  | 17 => .array .int
  | 18 => .array .int
  | 19 => .array .int
  | 20 => .int
  | 21 => .array .int
  | 22 => .int
  | 23 => .array .int
  | 24 => .boolean
  | _ => .array .int
abbrev wsX100 : List Cond := u_ws RX10 TX10 26
theorem nmX10 : ∀ a, a < 26 → ∀ b, b < 26 → a ≠ b → (TX10 a).2.1 ≠ (TX10 b).2.1 := by decide +kernel
theorem tyX10_ok : ∀ k, k < 26 → parseFieldDescriptor (TX10 k).2.2.1 = some (tyX10 k) := by decide +kernel
abbrev cX10_init : ByteArray := prog_12_method_1_code
def yX10_init : MethodName := ⟨RX10, "<init>", "()V"⟩
abbrev cX10_no : ByteArray := prog_12_method_2_code
def yX10_no : MethodName := ⟨RX10, "no", "(I)I"⟩
abbrev cX10_isHole : ByteArray := prog_12_method_3_code
def yX10_isHole : MethodName := ⟨RX10, "isHole", "(I)Z"⟩
abbrev cX10_isDoor : ByteArray := prog_12_method_4_code
def yX10_isDoor : MethodName := ⟨RX10, "isDoor", "(I)Z"⟩
abbrev cX10_letter : ByteArray := prog_12_method_5_code
def yX10_letter : MethodName := ⟨RX10, "letter", "(I)I"⟩
abbrev cX10_sign : ByteArray := prog_12_method_6_code
def yX10_sign : MethodName := ⟨RX10, "sign", "()I"⟩
abbrev cX10_is : ByteArray := prog_12_method_7_code
def yX10_is : MethodName := ⟨RX10, "is", "(C)Z"⟩
abbrev cX10_isDigit : ByteArray := prog_12_method_8_code
def yX10_isDigit : MethodName := ⟨RX10, "isDigit", "(I)Z"⟩
abbrev cX10_number : ByteArray := prog_12_method_9_code
def yX10_number : MethodName := ⟨RX10, "number", "(II)Z"⟩
abbrev cX10_statement : ByteArray := prog_12_method_10_code
def yX10_statement : MethodName := ⟨RX10, "statement", "()I"⟩
abbrev cX10_toldOf : ByteArray := prog_12_method_11_code
def yX10_toldOf : MethodName := ⟨RX10, "toldOf", "()I"⟩
abbrev cX10_comes : ByteArray := prog_12_method_12_code
def yX10_comes : MethodName := ⟨RX10, "comes", "(I)Z"⟩
abbrev cX10_put : ByteArray := prog_12_method_13_code
def yX10_put : MethodName := ⟨RX10, "put", "(IIIIIII)V"⟩
abbrev cX10_house : ByteArray := prog_12_method_14_code
def yX10_house : MethodName := ⟨RX10, "house", "()I"⟩
abbrev cX10_hole : ByteArray := prog_12_method_15_code
def yX10_hole : MethodName := ⟨RX10, "hole", "(II)I"⟩
abbrev cX10_weather : ByteArray := prog_12_method_16_code
def yX10_weather : MethodName := ⟨RX10, "weather", "(II)I"⟩
abbrev cX10_set : ByteArray := prog_12_method_17_code
def yX10_set : MethodName := ⟨RX10, "set", "(II)I"⟩
abbrev cX10_fan : ByteArray := prog_12_method_18_code
def yX10_fan : MethodName := ⟨RX10, "fan", "(I)I"⟩
abbrev cX10_now : ByteArray := prog_12_method_19_code
def yX10_now : MethodName := ⟨RX10, "now", "(I)I"⟩
abbrev cX10_size : ByteArray := prog_12_method_20_code
def yX10_size : MethodName := ⟨RX10, "size", "(II)I"⟩
abbrev cX10_outsidePush : ByteArray := prog_12_method_21_code
def yX10_outsidePush : MethodName := ⟨RX10, "outsidePush", "(I)I"⟩
abbrev cX10_root : ByteArray := prog_12_method_22_code
def yX10_root : MethodName := ⟨RX10, "root", "(I)I"⟩
abbrev cX10_flows : ByteArray := prog_12_method_23_code
def yX10_flows : MethodName := ⟨RX10, "flows", "(I)I"⟩
abbrev cX10_settle : ByteArray := prog_12_method_24_code
def yX10_settle : MethodName := ⟨RX10, "settle", "()V"⟩
abbrev cX10_flowsIn : ByteArray := prog_12_method_25_code
def yX10_flowsIn : MethodName := ⟨RX10, "flowsIn", "()I"⟩
abbrev cX10_outside : ByteArray := prog_12_method_26_code
def yX10_outside : MethodName := ⟨RX10, "outside", "(I)I"⟩
abbrev cX10_push : ByteArray := prog_12_method_27_code
def yX10_push : MethodName := ⟨RX10, "push", "(I)I"⟩
abbrev cX10_flow : ByteArray := prog_12_method_28_code
def yX10_flow : MethodName := ⟨RX10, "flow", "(I)I"⟩
abbrev cX10_leans : ByteArray := prog_12_method_29_code
def yX10_leans : MethodName := ⟨RX10, "leans", "(I)I"⟩
abbrev cX10_lean : ByteArray := prog_12_method_30_code
def yX10_lean : MethodName := ⟨RX10, "lean", "(I)I"⟩
abbrev cX10_coal : ByteArray := prog_12_method_31_code
def yX10_coal : MethodName := ⟨RX10, "coal", "()I"⟩
abbrev cX10_smoke : ByteArray := prog_12_method_32_code
def yX10_smoke : MethodName := ⟨RX10, "smoke", "()Z"⟩
abbrev cX10_smokes : ByteArray := prog_12_method_33_code
def yX10_smokes : MethodName := ⟨RX10, "smokes", "()I"⟩
abbrev cX10_stop : ByteArray := prog_12_method_34_code
def yX10_stop : MethodName := ⟨RX10, "stop", "(I)J"⟩
abbrev cX10_open : ByteArray := prog_12_method_35_code
def yX10_open : MethodName := ⟨RX10, "open", "(J)V"⟩
abbrev cX10_stopped : ByteArray := prog_12_method_36_code
def yX10_stopped : MethodName := ⟨RX10, "stopped", "(I)I"⟩
abbrev cX10_best : ByteArray := prog_12_method_37_code
def yX10_best : MethodName := ⟨RX10, "best", "(II)I"⟩
abbrev cX10_pairs : ByteArray := prog_12_method_38_code
def yX10_pairs : MethodName := ⟨RX10, "pairs", "(I)I"⟩
abbrev cX10_shut : ByteArray := prog_12_method_39_code
def yX10_shut : MethodName := ⟨RX10, "shut", "(II)I"⟩
abbrev cX10_chair : ByteArray := prog_12_method_40_code
def yX10_chair : MethodName := ⟨RX10, "chair", "()I"⟩
abbrev cX10_finger : ByteArray := prog_12_method_41_code
def yX10_finger : MethodName := ⟨RX10, "finger", "()I"⟩
abbrev cX10_by : ByteArray := prog_12_method_42_code
def yX10_by : MethodName := ⟨RX10, "by", "(IIII)I"⟩
abbrev cX10_number_ : ByteArray := prog_12_method_43_code
def yX10_number_ : MethodName := ⟨RX10, "number", "(I)I"⟩
abbrev cX10_winter : ByteArray := prog_12_method_44_code
def yX10_winter : MethodName := ⟨RX10, "winter", "()I"⟩
abbrev cX10_turnsAbout : ByteArray := prog_12_method_45_code
def yX10_turnsAbout : MethodName := ⟨RX10, "turnsAbout", "()I"⟩
abbrev cX10_sizes : ByteArray := prog_12_method_46_code
def yX10_sizes : MethodName := ⟨RX10, "sizes", "(III)I"⟩
abbrev cX10_hidden : ByteArray := prog_12_method_47_code
def yX10_hidden : MethodName := ⟨RX10, "hidden", "(II)I"⟩
abbrev cX10_draw : ByteArray := prog_12_method_48_code
def yX10_draw : MethodName := ⟨RX10, "draw", "(I)I"⟩
abbrev cX10_days : ByteArray := prog_12_method_49_code
def yX10_days : MethodName := ⟨RX10, "days", "(II)I"⟩
abbrev cX10_row : ByteArray := prog_12_method_50_code
def yX10_row : MethodName := ⟨RX10, "row", "(I)I"⟩
abbrev cX10_judge : ByteArray := prog_12_method_51_code
def yX10_judge : MethodName := ⟨RX10, "judge", "()I"⟩
abbrev cX10_image : ByteArray := prog_12_method_52_code
def yX10_image : MethodName := ⟨RX10, "image", "()I"⟩
abbrev cX10_on : ByteArray := prog_12_method_53_code
def yX10_on : MethodName := ⟨RX10, "on", "()I"⟩
abbrev cX10_count : ByteArray := prog_12_method_54_code
def yX10_count : MethodName := ⟨RX10, "count", "(I)I"⟩
def RJ11 : String := "java/lang/Character"
def TJ11 : u_T := fun k => match k with
  | _ => ("", "", "", false)
def tyJ11 : Nat → FieldType := fun k => match k with
  | _ => .int
theorem nmJ11 : ∀ a, a < 0 → ∀ b, b < 0 → a ≠ b → (TJ11 a).2.1 ≠ (TJ11 b).2.1 := by decide +kernel
theorem tyJ11_ok : ∀ k, k < 0 → parseFieldDescriptor (TJ11 k).2.2.1 = some (tyJ11 k) := by decide +kernel
abbrev cJ11_isValidCodePoint_9a6ad : ByteArray := prog_13_method_11_code
def yJ11_isValidCodePoint_9a6ad : MethodName := ⟨RJ11, "isValidCodePoint", "(I)Z"⟩
abbrev cJ11_highSurrogate_5068e : ByteArray := prog_13_method_28_code
def yJ11_highSurrogate_5068e : MethodName := ⟨RJ11, "highSurrogate", "(I)C"⟩
abbrev cJ11_lowSurrogate_5068e : ByteArray := prog_13_method_29_code
def yJ11_lowSurrogate_5068e : MethodName := ⟨RJ11, "lowSurrogate", "(I)C"⟩
def RJ6 : String := "java/lang/Integer"
def TJ6 : u_T := fun k => match k with
  | _ => ("", "", "", false)
def tyJ6 : Nat → FieldType := fun k => match k with
  | _ => .int
theorem nmJ6 : ∀ a, a < 0 → ∀ b, b < 0 → a ≠ b → (TJ6 a).2.1 ≠ (TJ6 b).2.1 := by decide +kernel
theorem tyJ6_ok : ∀ k, k < 0 → parseFieldDescriptor (TJ6 k).2.2.1 = some (tyJ6 k) := by decide +kernel
abbrev cJ6_compare_7cf53 : ByteArray := prog_14_method_40_code
def yJ6_compare_7cf53 : MethodName := ⟨RJ6, "compare", "(II)I"⟩
abbrev cJ6_bitCount_0f7a4 : ByteArray := prog_14_method_49_code
def yJ6_bitCount_0f7a4 : MethodName := ⟨RJ6, "bitCount", "(I)I"⟩
def RJ9 : String := "java/lang/Math"
def TJ9 : u_T := fun k => match k with
  | _ => ("", "", "", false)
def tyJ9 : Nat → FieldType := fun k => match k with
  | _ => .int
theorem nmJ9 : ∀ a, a < 0 → ∀ b, b < 0 → a ≠ b → (TJ9 a).2.1 ≠ (TJ9 b).2.1 := by decide +kernel
theorem tyJ9_ok : ∀ k, k < 0 → parseFieldDescriptor (TJ9 k).2.2.1 = some (tyJ9 k) := by decide +kernel
abbrev cJ9_abs_0f7a4 : ByteArray := prog_15_method_59_code
def yJ9_abs_0f7a4 : MethodName := ⟨RJ9, "abs", "(I)I"⟩
abbrev cJ9_max_7cf53 : ByteArray := prog_15_method_65_code
def yJ9_max_7cf53 : MethodName := ⟨RJ9, "max", "(II)I"⟩
abbrev cJ9_min_7cf53 : ByteArray := prog_15_method_69_code
def yJ9_min_7cf53 : MethodName := ⟨RJ9, "min", "(II)I"⟩
def RJ0 : String := "java/lang/String"
def TJ0 : u_T := fun k => match k with
  | _ => ("", "", "", false)
def tyJ0 : Nat → FieldType := fun k => match k with
  | _ => .int
theorem nmJ0 : ∀ a, a < 0 → ∀ b, b < 0 → a ≠ b → (TJ0 a).2.1 ≠ (TJ0 b).2.1 := by decide +kernel
theorem tyJ0_ok : ∀ k, k < 0 → parseFieldDescriptor (TJ0 k).2.2.1 = some (tyJ0 k) := by decide +kernel
abbrev cJ0_length_8abf5 : ByteArray := prog_16_method_54_code
def yJ0_length_8abf5 : MethodName := ⟨RJ0, "length", "()I"⟩
abbrev cJ0_isEmpty_aae02 : ByteArray := prog_16_method_55_code
def yJ0_isEmpty_aae02 : MethodName := ⟨RJ0, "isEmpty", "()Z"⟩
abbrev cJ0_charAt_5068e : ByteArray := prog_16_method_56_code
def yJ0_charAt_5068e : MethodName := ⟨RJ0, "charAt", "(I)C"⟩
abbrev cJ0_indexOf_0f7a4 : ByteArray := prog_16_method_79_code
def yJ0_indexOf_0f7a4 : MethodName := ⟨RJ0, "indexOf", "(I)I"⟩
abbrev cJ0_indexOf_7cf53 : ByteArray := prog_16_method_80_code
def yJ0_indexOf_7cf53 : MethodName := ⟨RJ0, "indexOf", "(II)I"⟩
abbrev cJ0_coder_7d493 : ByteArray := prog_16_method_152_code
def yJ0_coder_7d493 : MethodName := ⟨RJ0, "coder", "()B"⟩
abbrev cJ0_isLatin1_aae02 : ByteArray := prog_16_method_154_code
def yJ0_isLatin1_aae02 : MethodName := ⟨RJ0, "isLatin1", "()Z"⟩
abbrev cJ0_checkIndex_df160 : ByteArray := prog_16_method_155_code
def yJ0_checkIndex_df160 : MethodName := ⟨RJ0, "checkIndex", "(II)V"⟩
abbrev cJ0_checkBoundsBeginEnd_23922 : ByteArray := prog_16_method_158_code
def yJ0_checkBoundsBeginEnd_23922 : MethodName := ⟨RJ0, "checkBoundsBeginEnd", "(III)V"⟩
def RJ1 : String := "java/lang/StringLatin1"
def TJ1 : u_T := fun k => match k with
  | _ => ("", "", "", false)
def tyJ1 : Nat → FieldType := fun k => match k with
  | _ => .int
theorem nmJ1 : ∀ a, a < 0 → ∀ b, b < 0 → a ≠ b → (TJ1 a).2.1 ≠ (TJ1 b).2.1 := by decide +kernel
theorem tyJ1_ok : ∀ k, k < 0 → parseFieldDescriptor (TJ1 k).2.2.1 = some (tyJ1 k) := by decide +kernel
abbrev cJ1_charAt_3b067 : ByteArray := prog_17_method_2_code
def yJ1_charAt_3b067 : MethodName := ⟨RJ1, "charAt", "([BI)C"⟩
abbrev cJ1_canEncode_9a6ad : ByteArray := prog_17_method_4_code
def yJ1_canEncode_9a6ad : MethodName := ⟨RJ1, "canEncode", "(I)Z"⟩
abbrev cJ1_indexOf_4cfef : ByteArray := prog_17_method_22_code
def yJ1_indexOf_4cfef : MethodName := ⟨RJ1, "indexOf", "([BIII)I"⟩
abbrev cJ1_indexOfChar_4cfef : ByteArray := prog_17_method_23_code
def yJ1_indexOfChar_4cfef : MethodName := ⟨RJ1, "indexOfChar", "([BIII)I"⟩
def RJ2 : String := "java/lang/StringUTF16"
def TJ2 : u_T := fun k => match k with
  | _ => ("", "", "", false)
def tyJ2 : Nat → FieldType := fun k => match k with
  | _ => .int
theorem nmJ2 : ∀ a, a < 0 → ∀ b, b < 0 → a ≠ b → (TJ2 a).2.1 ≠ (TJ2 b).2.1 := by decide +kernel
theorem tyJ2_ok : ∀ k, k < 0 → parseFieldDescriptor (TJ2 k).2.2.1 = some (tyJ2 k) := by decide +kernel
abbrev cJ2_getChar_3b067 : ByteArray := prog_18_method_5_code
def yJ2_getChar_3b067 : MethodName := ⟨RJ2, "getChar", "([BI)C"⟩
abbrev cJ2_length_9d52b : ByteArray := prog_18_method_6_code
def yJ2_length_9d52b : MethodName := ⟨RJ2, "length", "([B)I"⟩
abbrev cJ2_indexOf_4cfef : ByteArray := prog_18_method_40_code
def yJ2_indexOf_4cfef : MethodName := ⟨RJ2, "indexOf", "([BIII)I"⟩
abbrev cJ2_indexOfChar_4cfef : ByteArray := prog_18_method_47_code
def yJ2_indexOfChar_4cfef : MethodName := ⟨RJ2, "indexOfChar", "([BIII)I"⟩
abbrev cJ2_indexOfCharUnsafe_4cfef : ByteArray := prog_18_method_48_code
def yJ2_indexOfCharUnsafe_4cfef : MethodName := ⟨RJ2, "indexOfCharUnsafe", "([BIII)I"⟩
abbrev cJ2_indexOfSupplementary_4cfef : ByteArray := prog_18_method_49_code
def yJ2_indexOfSupplementary_4cfef : MethodName := ⟨RJ2, "indexOfSupplementary", "([BIII)I"⟩
abbrev cJ2_charAt_3b067 : ByteArray := prog_18_method_83_code
def yJ2_charAt_3b067 : MethodName := ⟨RJ2, "charAt", "([BI)C"⟩
abbrev cJ2_checkIndex_2214a : ByteArray := prog_18_method_91_code
def yJ2_checkIndex_2214a : MethodName := ⟨RJ2, "checkIndex", "(I[B)V"⟩
abbrev cJ2_checkBoundsBeginEnd_d044e : ByteArray := prog_18_method_93_code
def yJ2_checkBoundsBeginEnd_d044e : MethodName := ⟨RJ2, "checkBoundsBeginEnd", "(II[B)V"⟩
def RJ3 : String := "jdk/internal/util/Preconditions"
def TJ3 : u_T := fun k => match k with
  | _ => ("", "", "", false)
def tyJ3 : Nat → FieldType := fun k => match k with
  | _ => .int
theorem nmJ3 : ∀ a, a < 0 → ∀ b, b < 0 → a ≠ b → (TJ3 a).2.1 ≠ (TJ3 b).2.1 := by decide +kernel
theorem tyJ3_ok : ∀ k, k < 0 → parseFieldDescriptor (TJ3 k).2.2.1 = some (tyJ3 k) := by decide +kernel
abbrev cJ3_checkIndex_8e157 : ByteArray := prog_19_method_11_code
def yJ3_checkIndex_8e157 : MethodName := ⟨RJ3, "checkIndex", "(IILjava/util/function/BiFunction;)I"⟩
abbrev cJ3_checkFromToIndex_8c36e : ByteArray := prog_19_method_12_code
def yJ3_checkFromToIndex_8c36e : MethodName := ⟨RJ3, "checkFromToIndex", "(IIILjava/util/function/BiFunction;)I"⟩
def RL : String := "DraughtsByCandleLaw"
abbrev cL_law : ByteArray := code
def yL_law : MethodName := ⟨RL, "law", "([I)Z"⟩
abbrev vwCl : List vw_C := [(RX0, TX0, 4), (RX1, TX1, 8), (RX2, TX2, 8), (RX3, TX3, 4), (RX4, TX4, 2), (RX6, TX6, 1), (RX7, TX7, 6), (RX8, TX8, 4), (RX9, TX9, 8), (RX10, TX10, 26)]
end
section
theorem dX0_init_0 : decode cX0_init 0 = .ok (.aload_n 0, 1) := by decide +kernel
theorem dX0_init_1 : decode cX0_init 1 = .ok (.invokespecial 1, 3) := by decide +kernel
theorem dX0_init_4 : decode cX0_init 4 = .ok (.return_, 1) := by decide +kernel
theorem dX0_become_0 : decode cX0_become 0 = .ok (.aload_n 0, 1) := by decide +kernel
theorem dX0_become_1 : decode cX0_become 1 = .ok (.iload_n 1, 1) := by decide +kernel
theorem dX0_become_2 : decode cX0_become 2 = .ok (.putfield 7, 3) := by decide +kernel
theorem dX0_become_5 : decode cX0_become 5 = .ok (.aload_n 0, 1) := by decide +kernel
theorem dX0_become_6 : decode cX0_become 6 = .ok (.iload_n 2, 1) := by decide +kernel
theorem dX0_become_7 : decode cX0_become 7 = .ok (.putfield 13, 3) := by decide +kernel
theorem dX0_become_10 : decode cX0_become 10 = .ok (.aload_n 0, 1) := by decide +kernel
theorem dX0_become_11 : decode cX0_become 11 = .ok (.iload_n 3, 1) := by decide +kernel
theorem dX0_become_12 : decode cX0_become 12 = .ok (.putfield 16, 3) := by decide +kernel
theorem dX0_become_15 : decode cX0_become 15 = .ok (.aload_n 0, 1) := by decide +kernel
theorem dX0_become_16 : decode cX0_become 16 = .ok (.iload 4, 2) := by decide +kernel
theorem dX0_become_18 : decode cX0_become 18 = .ok (.putfield 19, 3) := by decide +kernel
theorem dX0_become_21 : decode cX0_become 21 = .ok (.return_, 1) := by decide +kernel
theorem dX0_windAt_0 : decode cX0_windAt 0 = .ok (.iload_n 1, 1) := by decide +kernel
theorem dX0_windAt_1 : decode cX0_windAt 1 = .ok (.aload_n 0, 1) := by decide +kernel
theorem dX0_windAt_2 : decode cX0_windAt 2 = .ok (.getfield 16, 3) := by decide +kernel
theorem dX0_windAt_5 : decode cX0_windAt 5 = .ok (.if_icmp .ne 13, 3) := by decide +kernel
theorem dX0_windAt_8 : decode cX0_windAt 8 = .ok (.aload_n 0, 1) := by decide +kernel
theorem dX0_windAt_9 : decode cX0_windAt 9 = .ok (.getfield 13, 3) := by decide +kernel
theorem dX0_windAt_12 : decode cX0_windAt 12 = .ok (.aload_n 0, 1) := by decide +kernel
theorem dX0_windAt_13 : decode cX0_windAt 13 = .ok (.getfield 13, 3) := by decide +kernel
theorem dX0_windAt_16 : decode cX0_windAt 16 = .ok (.imul, 1) := by decide +kernel
theorem dX0_windAt_17 : decode cX0_windAt 17 = .ok (.ireturn, 1) := by decide +kernel
theorem dX0_windAt_18 : decode cX0_windAt 18 = .ok (.iload_n 1, 1) := by decide +kernel
theorem dX0_windAt_19 : decode cX0_windAt 19 = .ok (.aload_n 0, 1) := by decide +kernel
theorem dX0_windAt_20 : decode cX0_windAt 20 = .ok (.getfield 16, 3) := by decide +kernel
theorem dX0_windAt_23 : decode cX0_windAt 23 = .ok (.iconst 2, 1) := by decide +kernel
theorem dX0_windAt_24 : decode cX0_windAt 24 = .ok (.iadd, 1) := by decide +kernel
theorem dX0_windAt_25 : decode cX0_windAt 25 = .ok (.iconst 3, 1) := by decide +kernel
theorem dX0_windAt_26 : decode cX0_windAt 26 = .ok (.iand, 1) := by decide +kernel
theorem dX0_windAt_27 : decode cX0_windAt 27 = .ok (.if_icmp .ne 18, 3) := by decide +kernel
theorem dX0_windAt_30 : decode cX0_windAt 30 = .ok (.aload_n 0, 1) := by decide +kernel
theorem dX0_windAt_31 : decode cX0_windAt 31 = .ok (.getfield 13, 3) := by decide +kernel
theorem dX0_windAt_34 : decode cX0_windAt 34 = .ok (.aload_n 0, 1) := by decide +kernel
theorem dX0_windAt_35 : decode cX0_windAt 35 = .ok (.getfield 13, 3) := by decide +kernel
theorem dX0_windAt_38 : decode cX0_windAt 38 = .ok (.imul, 1) := by decide +kernel
theorem dX0_windAt_39 : decode cX0_windAt 39 = .ok (.iconst 2, 1) := by decide +kernel
theorem dX0_windAt_40 : decode cX0_windAt 40 = .ok (.idiv, 1) := by decide +kernel
theorem dX0_windAt_41 : decode cX0_windAt 41 = .ok (.ineg, 1) := by decide +kernel
theorem dX0_windAt_42 : decode cX0_windAt 42 = .ok (.goto 4, 3) := by decide +kernel
theorem dX0_windAt_45 : decode cX0_windAt 45 = .ok (.iconst 0, 1) := by decide +kernel
theorem dX0_windAt_46 : decode cX0_windAt 46 = .ok (.ireturn, 1) := by decide +kernel
theorem dX1_init_0 : decode cX1_init 0 = .ok (.aload_n 0, 1) := by decide +kernel
theorem dX1_init_1 : decode cX1_init 1 = .ok (.invokespecial 3, 3) := by decide +kernel
theorem dX1_init_4 : decode cX1_init 4 = .ok (.aload_n 0, 1) := by decide +kernel
theorem dX1_init_5 : decode cX1_init 5 = .ok (.aload_n 1, 1) := by decide +kernel
theorem dX1_init_6 : decode cX1_init 6 = .ok (.putfield 9, 3) := by decide +kernel
theorem dX1_init_9 : decode cX1_init 9 = .ok (.aload_n 0, 1) := by decide +kernel
theorem dX1_init_10 : decode cX1_init 10 = .ok (.bipush 10, 2) := by decide +kernel
theorem dX1_init_12 : decode cX1_init 12 = .ok (.newarray .int, 2) := by decide +kernel
theorem dX1_init_14 : decode cX1_init 14 = .ok (.putfield 15, 3) := by decide +kernel
theorem dX1_init_17 : decode cX1_init 17 = .ok (.aload_n 0, 1) := by decide +kernel
theorem dX1_init_18 : decode cX1_init 18 = .ok (.bipush 10, 2) := by decide +kernel
theorem dX1_init_20 : decode cX1_init 20 = .ok (.newarray .int, 2) := by decide +kernel
theorem dX1_init_22 : decode cX1_init 22 = .ok (.putfield 19, 3) := by decide +kernel
theorem dX1_init_25 : decode cX1_init 25 = .ok (.aload_n 0, 1) := by decide +kernel
theorem dX1_init_26 : decode cX1_init 26 = .ok (.bipush 10, 2) := by decide +kernel
theorem dX1_init_28 : decode cX1_init 28 = .ok (.newarray .int, 2) := by decide +kernel
theorem dX1_init_30 : decode cX1_init 30 = .ok (.putfield 22, 3) := by decide +kernel
theorem dX1_init_33 : decode cX1_init 33 = .ok (.aload_n 0, 1) := by decide +kernel
theorem dX1_init_34 : decode cX1_init 34 = .ok (.bipush 10, 2) := by decide +kernel
theorem dX1_init_36 : decode cX1_init 36 = .ok (.newarray .int, 2) := by decide +kernel
theorem dX1_init_38 : decode cX1_init 38 = .ok (.putfield 25, 3) := by decide +kernel
theorem dX1_init_41 : decode cX1_init 41 = .ok (.aload_n 0, 1) := by decide +kernel
theorem dX1_init_42 : decode cX1_init 42 = .ok (.bipush 6, 2) := by decide +kernel
theorem dX1_init_44 : decode cX1_init 44 = .ok (.newarray .int, 2) := by decide +kernel
theorem dX1_init_46 : decode cX1_init 46 = .ok (.putfield 28, 3) := by decide +kernel
theorem dX1_init_49 : decode cX1_init 49 = .ok (.aload_n 0, 1) := by decide +kernel
theorem dX1_init_50 : decode cX1_init 50 = .ok (.bipush 6, 2) := by decide +kernel
theorem dX1_init_52 : decode cX1_init 52 = .ok (.newarray .int, 2) := by decide +kernel
theorem dX1_init_54 : decode cX1_init 54 = .ok (.putfield 31, 3) := by decide +kernel
theorem dX1_init_57 : decode cX1_init 57 = .ok (.aload_n 0, 1) := by decide +kernel
theorem dX1_init_58 : decode cX1_init 58 = .ok (.sipush 1201, 3) := by decide +kernel
theorem dX1_init_61 : decode cX1_init 61 = .ok (.newarray .int, 2) := by decide +kernel
theorem dX1_init_63 : decode cX1_init 63 = .ok (.putfield 34, 3) := by decide +kernel
theorem dX1_init_66 : decode cX1_init 66 = .ok (.iconst 0, 1) := by decide +kernel
theorem dX1_init_67 : decode cX1_init 67 = .ok (.istore_n 2, 1) := by decide +kernel
theorem dX1_init_68 : decode cX1_init 68 = .ok (.iconst 0, 1) := by decide +kernel
theorem dX1_init_69 : decode cX1_init 69 = .ok (.istore_n 3, 1) := by decide +kernel
theorem dX1_init_70 : decode cX1_init 70 = .ok (.iload_n 3, 1) := by decide +kernel
theorem dX1_init_71 : decode cX1_init 71 = .ok (.aload_n 0, 1) := by decide +kernel
theorem dX1_init_72 : decode cX1_init 72 = .ok (.getfield 34, 3) := by decide +kernel
theorem dX1_init_75 : decode cX1_init 75 = .ok (.arraylength, 1) := by decide +kernel
theorem dX1_init_76 : decode cX1_init 76 = .ok (.if_icmp .ge 30, 3) := by decide +kernel
theorem dX1_init_79 : decode cX1_init 79 = .ok (.iload_n 2, 1) := by decide +kernel
theorem dX1_init_80 : decode cX1_init 80 = .ok (.iconst 1, 1) := by decide +kernel
theorem dX1_init_81 : decode cX1_init 81 = .ok (.iadd, 1) := by decide +kernel
theorem dX1_init_82 : decode cX1_init 82 = .ok (.iload_n 2, 1) := by decide +kernel
theorem dX1_init_83 : decode cX1_init 83 = .ok (.iconst 1, 1) := by decide +kernel
theorem dX1_init_84 : decode cX1_init 84 = .ok (.iadd, 1) := by decide +kernel
theorem dX1_init_85 : decode cX1_init 85 = .ok (.imul, 1) := by decide +kernel
theorem dX1_init_86 : decode cX1_init 86 = .ok (.iload_n 3, 1) := by decide +kernel
theorem dX1_init_87 : decode cX1_init 87 = .ok (.if_icmp .gt 6, 3) := by decide +kernel
theorem dX1_init_90 : decode cX1_init 90 = .ok (.iinc 2 1, 3) := by decide +kernel
theorem dX1_init_93 : decode cX1_init 93 = .ok (.aload_n 0, 1) := by decide +kernel
theorem dX1_init_94 : decode cX1_init 94 = .ok (.getfield 34, 3) := by decide +kernel
theorem dX1_init_97 : decode cX1_init 97 = .ok (.iload_n 3, 1) := by decide +kernel
theorem dX1_init_98 : decode cX1_init 98 = .ok (.iload_n 2, 1) := by decide +kernel
theorem dX1_init_99 : decode cX1_init 99 = .ok (.iastore, 1) := by decide +kernel
theorem dX1_init_100 : decode cX1_init 100 = .ok (.iinc 3 1, 3) := by decide +kernel
theorem dX1_init_103 : decode cX1_init 103 = .ok (.goto (-33), 3) := by decide +kernel
theorem dX1_init_106 : decode cX1_init 106 = .ok (.return_, 1) := by decide +kernel
theorem dX1_takeSizes_0 : decode cX1_takeSizes 0 = .ok (.iconst 0, 1) := by decide +kernel
theorem dX1_takeSizes_1 : decode cX1_takeSizes 1 = .ok (.istore_n 2, 1) := by decide +kernel
theorem dX1_takeSizes_2 : decode cX1_takeSizes 2 = .ok (.iload_n 2, 1) := by decide +kernel
theorem dX1_takeSizes_3 : decode cX1_takeSizes 3 = .ok (.aload_n 0, 1) := by decide +kernel
theorem dX1_takeSizes_4 : decode cX1_takeSizes 4 = .ok (.getfield 9, 3) := by decide +kernel
theorem dX1_takeSizes_7 : decode cX1_takeSizes 7 = .ok (.getfield 37, 3) := by decide +kernel
theorem dX1_takeSizes_10 : decode cX1_takeSizes 10 = .ok (.getfield 43, 3) := by decide +kernel
theorem dX1_takeSizes_13 : decode cX1_takeSizes 13 = .ok (.if_icmp .ge 44, 3) := by decide +kernel
theorem dX1_takeSizes_16 : decode cX1_takeSizes 16 = .ok (.aload_n 0, 1) := by decide +kernel
theorem dX1_takeSizes_17 : decode cX1_takeSizes 17 = .ok (.getfield 15, 3) := by decide +kernel
theorem dX1_takeSizes_20 : decode cX1_takeSizes 20 = .ok (.iload_n 2, 1) := by decide +kernel
theorem dX1_takeSizes_21 : decode cX1_takeSizes 21 = .ok (.iload_n 1, 1) := by decide +kernel
theorem dX1_takeSizes_22 : decode cX1_takeSizes 22 = .ok (.iload_n 2, 1) := by decide +kernel
theorem dX1_takeSizes_23 : decode cX1_takeSizes 23 = .ok (.ishr, 1) := by decide +kernel
theorem dX1_takeSizes_24 : decode cX1_takeSizes 24 = .ok (.iconst 1, 1) := by decide +kernel
theorem dX1_takeSizes_25 : decode cX1_takeSizes 25 = .ok (.iand, 1) := by decide +kernel
theorem dX1_takeSizes_26 : decode cX1_takeSizes 26 = .ok (.iconst 1, 1) := by decide +kernel
theorem dX1_takeSizes_27 : decode cX1_takeSizes 27 = .ok (.if_icmp .ne 7, 3) := by decide +kernel
theorem dX1_takeSizes_30 : decode cX1_takeSizes 30 = .ok (.iconst 0, 1) := by decide +kernel
theorem dX1_takeSizes_31 : decode cX1_takeSizes 31 = .ok (.goto 17, 3) := by decide +kernel
theorem dX1_takeSizes_34 : decode cX1_takeSizes 34 = .ok (.aload_n 0, 1) := by decide +kernel
theorem dX1_takeSizes_35 : decode cX1_takeSizes 35 = .ok (.getfield 9, 3) := by decide +kernel
theorem dX1_takeSizes_38 : decode cX1_takeSizes 38 = .ok (.getfield 37, 3) := by decide +kernel
theorem dX1_takeSizes_41 : decode cX1_takeSizes 41 = .ok (.getfield 49, 3) := by decide +kernel
theorem dX1_takeSizes_44 : decode cX1_takeSizes 44 = .ok (.iload_n 2, 1) := by decide +kernel
theorem dX1_takeSizes_45 : decode cX1_takeSizes 45 = .ok (.invokestatic 52, 3) := by decide +kernel
theorem dX1_takeSizes_48 : decode cX1_takeSizes 48 = .ok (.invokestatic 58, 3) := by decide +kernel
theorem dX1_takeSizes_51 : decode cX1_takeSizes 51 = .ok (.iinc 2 1, 3) := by decide +kernel
theorem dX1_takeSizes_54 : decode cX1_takeSizes 54 = .ok (.goto (-52), 3) := by decide +kernel
theorem dX1_takeSizes_57 : decode cX1_takeSizes 57 = .ok (.return_, 1) := by decide +kernel
theorem dX1_changeSize_0 : decode cX1_changeSize 0 = .ok (.aload_n 0, 1) := by decide +kernel
theorem dX1_changeSize_1 : decode cX1_changeSize 1 = .ok (.getfield 15, 3) := by decide +kernel
theorem dX1_changeSize_4 : decode cX1_changeSize 4 = .ok (.iload_n 1, 1) := by decide +kernel
theorem dX1_changeSize_5 : decode cX1_changeSize 5 = .ok (.iload_n 2, 1) := by decide +kernel
theorem dX1_changeSize_6 : decode cX1_changeSize 6 = .ok (.invokestatic 58, 3) := by decide +kernel
theorem dX1_changeSize_9 : decode cX1_changeSize 9 = .ok (.return_, 1) := by decide +kernel
theorem dX1_settle_0 : decode cX1_settle 0 = .ok (.aload_n 0, 1) := by decide +kernel
theorem dX1_settle_1 : decode cX1_settle 1 = .ok (.aload_n 1, 1) := by decide +kernel
theorem dX1_settle_2 : decode cX1_settle 2 = .ok (.invokevirtual 62, 3) := by decide +kernel
theorem dX1_settle_5 : decode cX1_settle 5 = .ok (.iconst 0, 1) := by decide +kernel
theorem dX1_settle_6 : decode cX1_settle 6 = .ok (.istore_n 2, 1) := by decide +kernel
theorem dX1_settle_7 : decode cX1_settle 7 = .ok (.iload_n 2, 1) := by decide +kernel
theorem dX1_settle_8 : decode cX1_settle 8 = .ok (.bipush 100, 2) := by decide +kernel
theorem dX1_settle_10 : decode cX1_settle 10 = .ok (.if_icmp .ge 38, 3) := by decide +kernel
theorem dX1_settle_13 : decode cX1_settle 13 = .ok (.aload_n 0, 1) := by decide +kernel
theorem dX1_settle_14 : decode cX1_settle 14 = .ok (.getfield 28, 3) := by decide +kernel
theorem dX1_settle_17 : decode cX1_settle 17 = .ok (.aload_n 0, 1) := by decide +kernel
theorem dX1_settle_18 : decode cX1_settle 18 = .ok (.getfield 31, 3) := by decide +kernel
theorem dX1_settle_21 : decode cX1_settle 21 = .ok (.invokestatic 66, 3) := by decide +kernel
theorem dX1_settle_24 : decode cX1_settle 24 = .ok (.aload_n 0, 1) := by decide +kernel
theorem dX1_settle_25 : decode cX1_settle 25 = .ok (.invokevirtual 70, 3) := by decide +kernel
theorem dX1_settle_28 : decode cX1_settle 28 = .ok (.aload_n 0, 1) := by decide +kernel
theorem dX1_settle_29 : decode cX1_settle 29 = .ok (.invokevirtual 70, 3) := by decide +kernel
theorem dX1_settle_32 : decode cX1_settle 32 = .ok (.aload_n 0, 1) := by decide +kernel
theorem dX1_settle_33 : decode cX1_settle 33 = .ok (.invokevirtual 73, 3) := by decide +kernel
theorem dX1_settle_36 : decode cX1_settle 36 = .ok (.ifCond .eq 6, 3) := by decide +kernel
theorem dX1_settle_39 : decode cX1_settle 39 = .ok (.goto 9, 3) := by decide +kernel
theorem dX1_settle_42 : decode cX1_settle 42 = .ok (.iinc 2 1, 3) := by decide +kernel
theorem dX1_settle_45 : decode cX1_settle 45 = .ok (.goto (-38), 3) := by decide +kernel
theorem dX1_settle_48 : decode cX1_settle 48 = .ok (.return_, 1) := by decide +kernel
theorem dX1_begin_0 : decode cX1_begin 0 = .ok (.iconst 0, 1) := by decide +kernel
theorem dX1_begin_1 : decode cX1_begin 1 = .ok (.istore_n 2, 1) := by decide +kernel
theorem dX1_begin_2 : decode cX1_begin 2 = .ok (.iload_n 2, 1) := by decide +kernel
theorem dX1_begin_3 : decode cX1_begin 3 = .ok (.aload_n 0, 1) := by decide +kernel
theorem dX1_begin_4 : decode cX1_begin 4 = .ok (.getfield 9, 3) := by decide +kernel
theorem dX1_begin_7 : decode cX1_begin 7 = .ok (.getfield 37, 3) := by decide +kernel
theorem dX1_begin_10 : decode cX1_begin 10 = .ok (.getfield 43, 3) := by decide +kernel
theorem dX1_begin_13 : decode cX1_begin 13 = .ok (.if_icmp .ge 106, 3) := by decide +kernel
theorem dX1_begin_16 : decode cX1_begin 16 = .ok (.aload_n 0, 1) := by decide +kernel
theorem dX1_begin_17 : decode cX1_begin 17 = .ok (.getfield 9, 3) := by decide +kernel
theorem dX1_begin_20 : decode cX1_begin 20 = .ok (.getfield 37, 3) := by decide +kernel
theorem dX1_begin_23 : decode cX1_begin 23 = .ok (.iload_n 2, 1) := by decide +kernel
theorem dX1_begin_24 : decode cX1_begin 24 = .ok (.invokevirtual 77, 3) := by decide +kernel
theorem dX1_begin_27 : decode cX1_begin 27 = .ok (.istore_n 3, 1) := by decide +kernel
theorem dX1_begin_28 : decode cX1_begin 28 = .ok (.aload_n 0, 1) := by decide +kernel
theorem dX1_begin_29 : decode cX1_begin 29 = .ok (.getfield 9, 3) := by decide +kernel
theorem dX1_begin_32 : decode cX1_begin 32 = .ok (.getfield 37, 3) := by decide +kernel
theorem dX1_begin_35 : decode cX1_begin 35 = .ok (.getfield 81, 3) := by decide +kernel
theorem dX1_begin_38 : decode cX1_begin 38 = .ok (.iload_n 2, 1) := by decide +kernel
theorem dX1_begin_39 : decode cX1_begin 39 = .ok (.invokestatic 52, 3) := by decide +kernel
theorem dX1_begin_42 : decode cX1_begin 42 = .ok (.istore 4, 2) := by decide +kernel
theorem dX1_begin_44 : decode cX1_begin 44 = .ok (.aload_n 0, 1) := by decide +kernel
theorem dX1_begin_45 : decode cX1_begin 45 = .ok (.getfield 19, 3) := by decide +kernel
theorem dX1_begin_48 : decode cX1_begin 48 = .ok (.iload_n 2, 1) := by decide +kernel
theorem dX1_begin_49 : decode cX1_begin 49 = .ok (.iload_n 3, 1) := by decide +kernel
theorem dX1_begin_50 : decode cX1_begin 50 = .ok (.ifCond .eq 8, 3) := by decide +kernel
theorem dX1_begin_53 : decode cX1_begin 53 = .ok (.iload 4, 2) := by decide +kernel
theorem dX1_begin_55 : decode cX1_begin 55 = .ok (.goto 4, 3) := by decide +kernel
theorem dX1_begin_58 : decode cX1_begin 58 = .ok (.iconst (-1), 1) := by decide +kernel
theorem dX1_begin_59 : decode cX1_begin 59 = .ok (.invokestatic 58, 3) := by decide +kernel
theorem dX1_begin_62 : decode cX1_begin 62 = .ok (.aload_n 0, 1) := by decide +kernel
theorem dX1_begin_63 : decode cX1_begin 63 = .ok (.getfield 22, 3) := by decide +kernel
theorem dX1_begin_66 : decode cX1_begin 66 = .ok (.iload_n 2, 1) := by decide +kernel
theorem dX1_begin_67 : decode cX1_begin 67 = .ok (.iload_n 3, 1) := by decide +kernel
theorem dX1_begin_68 : decode cX1_begin 68 = .ok (.ifCond .eq 20, 3) := by decide +kernel
theorem dX1_begin_71 : decode cX1_begin 71 = .ok (.aload_n 0, 1) := by decide +kernel
theorem dX1_begin_72 : decode cX1_begin 72 = .ok (.getfield 9, 3) := by decide +kernel
theorem dX1_begin_75 : decode cX1_begin 75 = .ok (.getfield 37, 3) := by decide +kernel
theorem dX1_begin_78 : decode cX1_begin 78 = .ok (.getfield 84, 3) := by decide +kernel
theorem dX1_begin_81 : decode cX1_begin 81 = .ok (.iload_n 2, 1) := by decide +kernel
theorem dX1_begin_82 : decode cX1_begin 82 = .ok (.invokestatic 52, 3) := by decide +kernel
theorem dX1_begin_85 : decode cX1_begin 85 = .ok (.goto 5, 3) := by decide +kernel
theorem dX1_begin_88 : decode cX1_begin 88 = .ok (.iload 4, 2) := by decide +kernel
theorem dX1_begin_90 : decode cX1_begin 90 = .ok (.invokestatic 58, 3) := by decide +kernel
theorem dX1_begin_93 : decode cX1_begin 93 = .ok (.aload_n 0, 1) := by decide +kernel
theorem dX1_begin_94 : decode cX1_begin 94 = .ok (.getfield 25, 3) := by decide +kernel
theorem dX1_begin_97 : decode cX1_begin 97 = .ok (.iload_n 2, 1) := by decide +kernel
theorem dX1_begin_98 : decode cX1_begin 98 = .ok (.aload_n 0, 1) := by decide +kernel
theorem dX1_begin_99 : decode cX1_begin 99 = .ok (.getfield 9, 3) := by decide +kernel
theorem dX1_begin_102 : decode cX1_begin 102 = .ok (.getfield 37, 3) := by decide +kernel
theorem dX1_begin_105 : decode cX1_begin 105 = .ok (.iload_n 2, 1) := by decide +kernel
theorem dX1_begin_106 : decode cX1_begin 106 = .ok (.aload_n 1, 1) := by decide +kernel
theorem dX1_begin_107 : decode cX1_begin 107 = .ok (.invokevirtual 87, 3) := by decide +kernel
theorem dX1_begin_110 : decode cX1_begin 110 = .ok (.invokestatic 58, 3) := by decide +kernel
theorem dX1_begin_113 : decode cX1_begin 113 = .ok (.iinc 2 1, 3) := by decide +kernel
theorem dX1_begin_116 : decode cX1_begin 116 = .ok (.goto (-114), 3) := by decide +kernel
theorem dX1_begin_119 : decode cX1_begin 119 = .ok (.iconst 0, 1) := by decide +kernel
theorem dX1_begin_120 : decode cX1_begin 120 = .ok (.istore_n 2, 1) := by decide +kernel
theorem dX1_begin_121 : decode cX1_begin 121 = .ok (.iload_n 2, 1) := by decide +kernel
theorem dX1_begin_122 : decode cX1_begin 122 = .ok (.aload_n 0, 1) := by decide +kernel
theorem dX1_begin_123 : decode cX1_begin 123 = .ok (.getfield 28, 3) := by decide +kernel
theorem dX1_begin_126 : decode cX1_begin 126 = .ok (.arraylength, 1) := by decide +kernel
theorem dX1_begin_127 : decode cX1_begin 127 = .ok (.if_icmp .ge 16, 3) := by decide +kernel
theorem dX1_begin_130 : decode cX1_begin 130 = .ok (.aload_n 0, 1) := by decide +kernel
theorem dX1_begin_131 : decode cX1_begin 131 = .ok (.getfield 28, 3) := by decide +kernel
theorem dX1_begin_134 : decode cX1_begin 134 = .ok (.iload_n 2, 1) := by decide +kernel
theorem dX1_begin_135 : decode cX1_begin 135 = .ok (.iconst 0, 1) := by decide +kernel
theorem dX1_begin_136 : decode cX1_begin 136 = .ok (.iastore, 1) := by decide +kernel
theorem dX1_begin_137 : decode cX1_begin 137 = .ok (.iinc 2 1, 3) := by decide +kernel
theorem dX1_begin_140 : decode cX1_begin 140 = .ok (.goto (-19), 3) := by decide +kernel
theorem dX1_begin_143 : decode cX1_begin 143 = .ok (.return_, 1) := by decide +kernel
theorem dX1_doRound_0 : decode cX1_doRound 0 = .ok (.iconst 0, 1) := by decide +kernel
theorem dX1_doRound_1 : decode cX1_doRound 1 = .ok (.istore_n 1, 1) := by decide +kernel
theorem dX1_doRound_2 : decode cX1_doRound 2 = .ok (.iload_n 1, 1) := by decide +kernel
theorem dX1_doRound_3 : decode cX1_doRound 3 = .ok (.aload_n 0, 1) := by decide +kernel
theorem dX1_doRound_4 : decode cX1_doRound 4 = .ok (.getfield 9, 3) := by decide +kernel
theorem dX1_doRound_7 : decode cX1_doRound 7 = .ok (.getfield 91, 3) := by decide +kernel
theorem dX1_doRound_10 : decode cX1_doRound 10 = .ok (.if_icmp .ge 98, 3) := by decide +kernel
theorem dX1_doRound_13 : decode cX1_doRound 13 = .ok (.iconst 0, 1) := by decide +kernel
theorem dX1_doRound_14 : decode cX1_doRound 14 = .ok (.istore_n 2, 1) := by decide +kernel
theorem dX1_doRound_15 : decode cX1_doRound 15 = .ok (.iconst 0, 1) := by decide +kernel
theorem dX1_doRound_16 : decode cX1_doRound 16 = .ok (.istore_n 3, 1) := by decide +kernel
theorem dX1_doRound_17 : decode cX1_doRound 17 = .ok (.iload_n 3, 1) := by decide +kernel
theorem dX1_doRound_18 : decode cX1_doRound 18 = .ok (.aload_n 0, 1) := by decide +kernel
theorem dX1_doRound_19 : decode cX1_doRound 19 = .ok (.getfield 9, 3) := by decide +kernel
theorem dX1_doRound_22 : decode cX1_doRound 22 = .ok (.getfield 37, 3) := by decide +kernel
theorem dX1_doRound_25 : decode cX1_doRound 25 = .ok (.getfield 43, 3) := by decide +kernel
theorem dX1_doRound_28 : decode cX1_doRound 28 = .ok (.if_icmp .ge 52, 3) := by decide +kernel
theorem dX1_doRound_31 : decode cX1_doRound 31 = .ok (.aload_n 0, 1) := by decide +kernel
theorem dX1_doRound_32 : decode cX1_doRound 32 = .ok (.getfield 22, 3) := by decide +kernel
theorem dX1_doRound_35 : decode cX1_doRound 35 = .ok (.iload_n 3, 1) := by decide +kernel
theorem dX1_doRound_36 : decode cX1_doRound 36 = .ok (.invokestatic 52, 3) := by decide +kernel
theorem dX1_doRound_39 : decode cX1_doRound 39 = .ok (.iload_n 1, 1) := by decide +kernel
theorem dX1_doRound_40 : decode cX1_doRound 40 = .ok (.if_icmp .ne 14, 3) := by decide +kernel
theorem dX1_doRound_43 : decode cX1_doRound 43 = .ok (.iload_n 2, 1) := by decide +kernel
theorem dX1_doRound_44 : decode cX1_doRound 44 = .ok (.aload_n 0, 1) := by decide +kernel
theorem dX1_doRound_45 : decode cX1_doRound 45 = .ok (.iload_n 3, 1) := by decide +kernel
theorem dX1_doRound_46 : decode cX1_doRound 46 = .ok (.invokevirtual 94, 3) := by decide +kernel
theorem dX1_doRound_49 : decode cX1_doRound 49 = .ok (.iadd, 1) := by decide +kernel
theorem dX1_doRound_50 : decode cX1_doRound 50 = .ok (.istore_n 2, 1) := by decide +kernel
theorem dX1_doRound_51 : decode cX1_doRound 51 = .ok (.goto 23, 3) := by decide +kernel
theorem dX1_doRound_54 : decode cX1_doRound 54 = .ok (.aload_n 0, 1) := by decide +kernel
theorem dX1_doRound_55 : decode cX1_doRound 55 = .ok (.getfield 19, 3) := by decide +kernel
theorem dX1_doRound_58 : decode cX1_doRound 58 = .ok (.iload_n 3, 1) := by decide +kernel
theorem dX1_doRound_59 : decode cX1_doRound 59 = .ok (.invokestatic 52, 3) := by decide +kernel
theorem dX1_doRound_62 : decode cX1_doRound 62 = .ok (.iload_n 1, 1) := by decide +kernel
theorem dX1_doRound_63 : decode cX1_doRound 63 = .ok (.if_icmp .ne 11, 3) := by decide +kernel
theorem dX1_doRound_66 : decode cX1_doRound 66 = .ok (.iload_n 2, 1) := by decide +kernel
theorem dX1_doRound_67 : decode cX1_doRound 67 = .ok (.aload_n 0, 1) := by decide +kernel
theorem dX1_doRound_68 : decode cX1_doRound 68 = .ok (.iload_n 3, 1) := by decide +kernel
theorem dX1_doRound_69 : decode cX1_doRound 69 = .ok (.invokevirtual 94, 3) := by decide +kernel
theorem dX1_doRound_72 : decode cX1_doRound 72 = .ok (.isub, 1) := by decide +kernel
theorem dX1_doRound_73 : decode cX1_doRound 73 = .ok (.istore_n 2, 1) := by decide +kernel
theorem dX1_doRound_74 : decode cX1_doRound 74 = .ok (.iinc 3 1, 3) := by decide +kernel
theorem dX1_doRound_77 : decode cX1_doRound 77 = .ok (.goto (-60), 3) := by decide +kernel
theorem dX1_doRound_80 : decode cX1_doRound 80 = .ok (.aload_n 0, 1) := by decide +kernel
theorem dX1_doRound_81 : decode cX1_doRound 81 = .ok (.getfield 28, 3) := by decide +kernel
theorem dX1_doRound_84 : decode cX1_doRound 84 = .ok (.iload_n 1, 1) := by decide +kernel
theorem dX1_doRound_85 : decode cX1_doRound 85 = .ok (.aload_n 0, 1) := by decide +kernel
theorem dX1_doRound_86 : decode cX1_doRound 86 = .ok (.getfield 28, 3) := by decide +kernel
theorem dX1_doRound_89 : decode cX1_doRound 89 = .ok (.iload_n 1, 1) := by decide +kernel
theorem dX1_doRound_90 : decode cX1_doRound 90 = .ok (.invokestatic 52, 3) := by decide +kernel
theorem dX1_doRound_93 : decode cX1_doRound 93 = .ok (.iload_n 2, 1) := by decide +kernel
theorem dX1_doRound_94 : decode cX1_doRound 94 = .ok (.iconst 0, 1) := by decide +kernel
theorem dX1_doRound_95 : decode cX1_doRound 95 = .ok (.invokestatic 98, 3) := by decide +kernel
theorem dX1_doRound_98 : decode cX1_doRound 98 = .ok (.iadd, 1) := by decide +kernel
theorem dX1_doRound_99 : decode cX1_doRound 99 = .ok (.invokestatic 58, 3) := by decide +kernel
theorem dX1_doRound_102 : decode cX1_doRound 102 = .ok (.iinc 1 1, 3) := by decide +kernel
theorem dX1_doRound_105 : decode cX1_doRound 105 = .ok (.goto (-103), 3) := by decide +kernel
theorem dX1_doRound_108 : decode cX1_doRound 108 = .ok (.return_, 1) := by decide +kernel
theorem dX1_isAsEarlier_0 : decode cX1_isAsEarlier 0 = .ok (.iconst 0, 1) := by decide +kernel
theorem dX1_isAsEarlier_1 : decode cX1_isAsEarlier 1 = .ok (.istore_n 1, 1) := by decide +kernel
theorem dX1_isAsEarlier_2 : decode cX1_isAsEarlier 2 = .ok (.iload_n 1, 1) := by decide +kernel
theorem dX1_isAsEarlier_3 : decode cX1_isAsEarlier 3 = .ok (.aload_n 0, 1) := by decide +kernel
theorem dX1_isAsEarlier_4 : decode cX1_isAsEarlier 4 = .ok (.getfield 9, 3) := by decide +kernel
theorem dX1_isAsEarlier_7 : decode cX1_isAsEarlier 7 = .ok (.getfield 91, 3) := by decide +kernel
theorem dX1_isAsEarlier_10 : decode cX1_isAsEarlier 10 = .ok (.if_icmp .ge 30, 3) := by decide +kernel
theorem dX1_isAsEarlier_13 : decode cX1_isAsEarlier 13 = .ok (.aload_n 0, 1) := by decide +kernel
theorem dX1_isAsEarlier_14 : decode cX1_isAsEarlier 14 = .ok (.getfield 28, 3) := by decide +kernel
theorem dX1_isAsEarlier_17 : decode cX1_isAsEarlier 17 = .ok (.iload_n 1, 1) := by decide +kernel
theorem dX1_isAsEarlier_18 : decode cX1_isAsEarlier 18 = .ok (.invokestatic 52, 3) := by decide +kernel
theorem dX1_isAsEarlier_21 : decode cX1_isAsEarlier 21 = .ok (.aload_n 0, 1) := by decide +kernel
theorem dX1_isAsEarlier_22 : decode cX1_isAsEarlier 22 = .ok (.getfield 31, 3) := by decide +kernel
theorem dX1_isAsEarlier_25 : decode cX1_isAsEarlier 25 = .ok (.iload_n 1, 1) := by decide +kernel
theorem dX1_isAsEarlier_26 : decode cX1_isAsEarlier 26 = .ok (.invokestatic 52, 3) := by decide +kernel
theorem dX1_isAsEarlier_29 : decode cX1_isAsEarlier 29 = .ok (.if_icmp .eq 5, 3) := by decide +kernel
theorem dX1_isAsEarlier_32 : decode cX1_isAsEarlier 32 = .ok (.iconst 0, 1) := by decide +kernel
theorem dX1_isAsEarlier_33 : decode cX1_isAsEarlier 33 = .ok (.ireturn, 1) := by decide +kernel
theorem dX1_isAsEarlier_34 : decode cX1_isAsEarlier 34 = .ok (.iinc 1 1, 3) := by decide +kernel
theorem dX1_isAsEarlier_37 : decode cX1_isAsEarlier 37 = .ok (.goto (-35), 3) := by decide +kernel
theorem dX1_isAsEarlier_40 : decode cX1_isAsEarlier 40 = .ok (.iconst 1, 1) := by decide +kernel
theorem dX1_isAsEarlier_41 : decode cX1_isAsEarlier 41 = .ok (.ireturn, 1) := by decide +kernel
theorem dX1_flowThrough_0 : decode cX1_flowThrough 0 = .ok (.aload_n 0, 1) := by decide +kernel
theorem dX1_flowThrough_1 : decode cX1_flowThrough 1 = .ok (.getfield 19, 3) := by decide +kernel
theorem dX1_flowThrough_4 : decode cX1_flowThrough 4 = .ok (.iload_n 1, 1) := by decide +kernel
theorem dX1_flowThrough_5 : decode cX1_flowThrough 5 = .ok (.invokestatic 52, 3) := by decide +kernel
theorem dX1_flowThrough_8 : decode cX1_flowThrough 8 = .ok (.istore_n 2, 1) := by decide +kernel
theorem dX1_flowThrough_9 : decode cX1_flowThrough 9 = .ok (.iload_n 2, 1) := by decide +kernel
theorem dX1_flowThrough_10 : decode cX1_flowThrough 10 = .ok (.iconst (-1), 1) := by decide +kernel
theorem dX1_flowThrough_11 : decode cX1_flowThrough 11 = .ok (.if_icmp .ne 14, 3) := by decide +kernel
theorem dX1_flowThrough_14 : decode cX1_flowThrough 14 = .ok (.aload_n 0, 1) := by decide +kernel
theorem dX1_flowThrough_15 : decode cX1_flowThrough 15 = .ok (.getfield 25, 3) := by decide +kernel
theorem dX1_flowThrough_18 : decode cX1_flowThrough 18 = .ok (.iload_n 1, 1) := by decide +kernel
theorem dX1_flowThrough_19 : decode cX1_flowThrough 19 = .ok (.invokestatic 52, 3) := by decide +kernel
theorem dX1_flowThrough_22 : decode cX1_flowThrough 22 = .ok (.goto 11, 3) := by decide +kernel
theorem dX1_flowThrough_25 : decode cX1_flowThrough 25 = .ok (.aload_n 0, 1) := by decide +kernel
theorem dX1_flowThrough_26 : decode cX1_flowThrough 26 = .ok (.getfield 28, 3) := by decide +kernel
theorem dX1_flowThrough_29 : decode cX1_flowThrough 29 = .ok (.iload_n 2, 1) := by decide +kernel
theorem dX1_flowThrough_30 : decode cX1_flowThrough 30 = .ok (.invokestatic 52, 3) := by decide +kernel
theorem dX1_flowThrough_33 : decode cX1_flowThrough 33 = .ok (.istore_n 3, 1) := by decide +kernel
theorem dX1_flowThrough_34 : decode cX1_flowThrough 34 = .ok (.iload_n 3, 1) := by decide +kernel
theorem dX1_flowThrough_35 : decode cX1_flowThrough 35 = .ok (.aload_n 0, 1) := by decide +kernel
theorem dX1_flowThrough_36 : decode cX1_flowThrough 36 = .ok (.getfield 28, 3) := by decide +kernel
theorem dX1_flowThrough_39 : decode cX1_flowThrough 39 = .ok (.aload_n 0, 1) := by decide +kernel
theorem dX1_flowThrough_40 : decode cX1_flowThrough 40 = .ok (.getfield 22, 3) := by decide +kernel
theorem dX1_flowThrough_43 : decode cX1_flowThrough 43 = .ok (.iload_n 1, 1) := by decide +kernel
theorem dX1_flowThrough_44 : decode cX1_flowThrough 44 = .ok (.invokestatic 52, 3) := by decide +kernel
theorem dX1_flowThrough_47 : decode cX1_flowThrough 47 = .ok (.invokestatic 52, 3) := by decide +kernel
theorem dX1_flowThrough_50 : decode cX1_flowThrough 50 = .ok (.isub, 1) := by decide +kernel
theorem dX1_flowThrough_51 : decode cX1_flowThrough 51 = .ok (.istore 4, 2) := by decide +kernel
theorem dX1_flowThrough_53 : decode cX1_flowThrough 53 = .ok (.aload_n 0, 1) := by decide +kernel
theorem dX1_flowThrough_54 : decode cX1_flowThrough 54 = .ok (.getfield 15, 3) := by decide +kernel
theorem dX1_flowThrough_57 : decode cX1_flowThrough 57 = .ok (.iload_n 1, 1) := by decide +kernel
theorem dX1_flowThrough_58 : decode cX1_flowThrough 58 = .ok (.invokestatic 52, 3) := by decide +kernel
theorem dX1_flowThrough_61 : decode cX1_flowThrough 61 = .ok (.aload_n 0, 1) := by decide +kernel
theorem dX1_flowThrough_62 : decode cX1_flowThrough 62 = .ok (.getfield 34, 3) := by decide +kernel
theorem dX1_flowThrough_65 : decode cX1_flowThrough 65 = .ok (.iload 4, 2) := by decide +kernel
theorem dX1_flowThrough_67 : decode cX1_flowThrough 67 = .ok (.invokestatic 104, 3) := by decide +kernel
theorem dX1_flowThrough_70 : decode cX1_flowThrough 70 = .ok (.sipush 1200, 3) := by decide +kernel
theorem dX1_flowThrough_73 : decode cX1_flowThrough 73 = .ok (.invokestatic 109, 3) := by decide +kernel
theorem dX1_flowThrough_76 : decode cX1_flowThrough 76 = .ok (.invokestatic 52, 3) := by decide +kernel
theorem dX1_flowThrough_79 : decode cX1_flowThrough 79 = .ok (.imul, 1) := by decide +kernel
theorem dX1_flowThrough_80 : decode cX1_flowThrough 80 = .ok (.istore 5, 2) := by decide +kernel
theorem dX1_flowThrough_82 : decode cX1_flowThrough 82 = .ok (.iload 4, 2) := by decide +kernel
theorem dX1_flowThrough_84 : decode cX1_flowThrough 84 = .ok (.ifCond .ge 9, 3) := by decide +kernel
theorem dX1_flowThrough_87 : decode cX1_flowThrough 87 = .ok (.iload 5, 2) := by decide +kernel
theorem dX1_flowThrough_89 : decode cX1_flowThrough 89 = .ok (.ineg, 1) := by decide +kernel
theorem dX1_flowThrough_90 : decode cX1_flowThrough 90 = .ok (.goto 5, 3) := by decide +kernel
theorem dX1_flowThrough_93 : decode cX1_flowThrough 93 = .ok (.iload 5, 2) := by decide +kernel
theorem dX1_flowThrough_95 : decode cX1_flowThrough 95 = .ok (.ireturn, 1) := by decide +kernel
theorem dX1_inflow_0 : decode cX1_inflow 0 = .ok (.iconst 0, 1) := by decide +kernel
theorem dX1_inflow_1 : decode cX1_inflow 1 = .ok (.istore_n 1, 1) := by decide +kernel
theorem dX1_inflow_2 : decode cX1_inflow 2 = .ok (.iconst 0, 1) := by decide +kernel
theorem dX1_inflow_3 : decode cX1_inflow 3 = .ok (.istore_n 2, 1) := by decide +kernel
theorem dX1_inflow_4 : decode cX1_inflow 4 = .ok (.iload_n 2, 1) := by decide +kernel
theorem dX1_inflow_5 : decode cX1_inflow 5 = .ok (.aload_n 0, 1) := by decide +kernel
theorem dX1_inflow_6 : decode cX1_inflow 6 = .ok (.getfield 9, 3) := by decide +kernel
theorem dX1_inflow_9 : decode cX1_inflow 9 = .ok (.getfield 37, 3) := by decide +kernel
theorem dX1_inflow_12 : decode cX1_inflow 12 = .ok (.getfield 43, 3) := by decide +kernel
theorem dX1_inflow_15 : decode cX1_inflow 15 = .ok (.if_icmp .ge 35, 3) := by decide +kernel
theorem dX1_inflow_18 : decode cX1_inflow 18 = .ok (.aload_n 0, 1) := by decide +kernel
theorem dX1_inflow_19 : decode cX1_inflow 19 = .ok (.getfield 9, 3) := by decide +kernel
theorem dX1_inflow_22 : decode cX1_inflow 22 = .ok (.getfield 37, 3) := by decide +kernel
theorem dX1_inflow_25 : decode cX1_inflow 25 = .ok (.iload_n 2, 1) := by decide +kernel
theorem dX1_inflow_26 : decode cX1_inflow 26 = .ok (.invokevirtual 77, 3) := by decide +kernel
theorem dX1_inflow_29 : decode cX1_inflow 29 = .ok (.ifCond .ne 15, 3) := by decide +kernel
theorem dX1_inflow_32 : decode cX1_inflow 32 = .ok (.iload_n 1, 1) := by decide +kernel
theorem dX1_inflow_33 : decode cX1_inflow 33 = .ok (.aload_n 0, 1) := by decide +kernel
theorem dX1_inflow_34 : decode cX1_inflow 34 = .ok (.iload_n 2, 1) := by decide +kernel
theorem dX1_inflow_35 : decode cX1_inflow 35 = .ok (.invokevirtual 94, 3) := by decide +kernel
theorem dX1_inflow_38 : decode cX1_inflow 38 = .ok (.iconst 0, 1) := by decide +kernel
theorem dX1_inflow_39 : decode cX1_inflow 39 = .ok (.invokestatic 112, 3) := by decide +kernel
theorem dX1_inflow_42 : decode cX1_inflow 42 = .ok (.iadd, 1) := by decide +kernel
theorem dX1_inflow_43 : decode cX1_inflow 43 = .ok (.istore_n 1, 1) := by decide +kernel
theorem dX1_inflow_44 : decode cX1_inflow 44 = .ok (.iinc 2 1, 3) := by decide +kernel
theorem dX1_inflow_47 : decode cX1_inflow 47 = .ok (.goto (-43), 3) := by decide +kernel
theorem dX1_inflow_50 : decode cX1_inflow 50 = .ok (.iload_n 1, 1) := by decide +kernel
theorem dX1_inflow_51 : decode cX1_inflow 51 = .ok (.ireturn, 1) := by decide +kernel
theorem dX1_smoking_0 : decode cX1_smoking 0 = .ok (.iconst 0, 1) := by decide +kernel
theorem dX1_smoking_1 : decode cX1_smoking 1 = .ok (.istore_n 1, 1) := by decide +kernel
theorem dX1_smoking_2 : decode cX1_smoking 2 = .ok (.iload_n 1, 1) := by decide +kernel
theorem dX1_smoking_3 : decode cX1_smoking 3 = .ok (.aload_n 0, 1) := by decide +kernel
theorem dX1_smoking_4 : decode cX1_smoking 4 = .ok (.getfield 9, 3) := by decide +kernel
theorem dX1_smoking_7 : decode cX1_smoking 7 = .ok (.getfield 37, 3) := by decide +kernel
theorem dX1_smoking_10 : decode cX1_smoking 10 = .ok (.getfield 43, 3) := by decide +kernel
theorem dX1_smoking_13 : decode cX1_smoking 13 = .ok (.if_icmp .ge 59, 3) := by decide +kernel
theorem dX1_smoking_16 : decode cX1_smoking 16 = .ok (.aload_n 0, 1) := by decide +kernel
theorem dX1_smoking_17 : decode cX1_smoking 17 = .ok (.getfield 9, 3) := by decide +kernel
theorem dX1_smoking_20 : decode cX1_smoking 20 = .ok (.getfield 37, 3) := by decide +kernel
theorem dX1_smoking_23 : decode cX1_smoking 23 = .ok (.getfield 115, 3) := by decide +kernel
theorem dX1_smoking_26 : decode cX1_smoking 26 = .ok (.iload_n 1, 1) := by decide +kernel
theorem dX1_smoking_27 : decode cX1_smoking 27 = .ok (.invokestatic 52, 3) := by decide +kernel
theorem dX1_smoking_30 : decode cX1_smoking 30 = .ok (.bipush 6, 2) := by decide +kernel
theorem dX1_smoking_32 : decode cX1_smoking 32 = .ok (.if_icmp .ne 7, 3) := by decide +kernel
theorem dX1_smoking_35 : decode cX1_smoking 35 = .ok (.iconst 1, 1) := by decide +kernel
theorem dX1_smoking_36 : decode cX1_smoking 36 = .ok (.goto 4, 3) := by decide +kernel
theorem dX1_smoking_39 : decode cX1_smoking 39 = .ok (.iconst 0, 1) := by decide +kernel
theorem dX1_smoking_40 : decode cX1_smoking 40 = .ok (.istore_n 2, 1) := by decide +kernel
theorem dX1_smoking_41 : decode cX1_smoking 41 = .ok (.iload_n 2, 1) := by decide +kernel
theorem dX1_smoking_42 : decode cX1_smoking 42 = .ok (.ifCond .eq 24, 3) := by decide +kernel
theorem dX1_smoking_45 : decode cX1_smoking 45 = .ok (.aload_n 0, 1) := by decide +kernel
theorem dX1_smoking_46 : decode cX1_smoking 46 = .ok (.getfield 15, 3) := by decide +kernel
theorem dX1_smoking_49 : decode cX1_smoking 49 = .ok (.iload_n 1, 1) := by decide +kernel
theorem dX1_smoking_50 : decode cX1_smoking 50 = .ok (.invokestatic 52, 3) := by decide +kernel
theorem dX1_smoking_53 : decode cX1_smoking 53 = .ok (.ifCond .le 13, 3) := by decide +kernel
theorem dX1_smoking_56 : decode cX1_smoking 56 = .ok (.aload_n 0, 1) := by decide +kernel
theorem dX1_smoking_57 : decode cX1_smoking 57 = .ok (.iload_n 1, 1) := by decide +kernel
theorem dX1_smoking_58 : decode cX1_smoking 58 = .ok (.invokevirtual 94, 3) := by decide +kernel
theorem dX1_smoking_61 : decode cX1_smoking 61 = .ok (.ifCond .lt 5, 3) := by decide +kernel
theorem dX1_smoking_64 : decode cX1_smoking 64 = .ok (.iconst 1, 1) := by decide +kernel
theorem dX1_smoking_65 : decode cX1_smoking 65 = .ok (.ireturn, 1) := by decide +kernel
theorem dX1_smoking_66 : decode cX1_smoking 66 = .ok (.iinc 1 1, 3) := by decide +kernel
theorem dX1_smoking_69 : decode cX1_smoking 69 = .ok (.goto (-67), 3) := by decide +kernel
theorem dX1_smoking_72 : decode cX1_smoking 72 = .ok (.iconst 0, 1) := by decide +kernel
theorem dX1_smoking_73 : decode cX1_smoking 73 = .ok (.ireturn, 1) := by decide +kernel
theorem dX1_throughRoom_0 : decode cX1_throughRoom 0 = .ok (.iconst 0, 1) := by decide +kernel
theorem dX1_throughRoom_1 : decode cX1_throughRoom 1 = .ok (.istore_n 2, 1) := by decide +kernel
theorem dX1_throughRoom_2 : decode cX1_throughRoom 2 = .ok (.iconst 0, 1) := by decide +kernel
theorem dX1_throughRoom_3 : decode cX1_throughRoom 3 = .ok (.istore_n 3, 1) := by decide +kernel
theorem dX1_throughRoom_4 : decode cX1_throughRoom 4 = .ok (.iload_n 3, 1) := by decide +kernel
theorem dX1_throughRoom_5 : decode cX1_throughRoom 5 = .ok (.aload_n 0, 1) := by decide +kernel
theorem dX1_throughRoom_6 : decode cX1_throughRoom 6 = .ok (.getfield 9, 3) := by decide +kernel
theorem dX1_throughRoom_9 : decode cX1_throughRoom 9 = .ok (.getfield 37, 3) := by decide +kernel
theorem dX1_throughRoom_12 : decode cX1_throughRoom 12 = .ok (.getfield 43, 3) := by decide +kernel
theorem dX1_throughRoom_15 : decode cX1_throughRoom 15 = .ok (.if_icmp .ge 44, 3) := by decide +kernel
theorem dX1_throughRoom_18 : decode cX1_throughRoom 18 = .ok (.aload_n 0, 1) := by decide +kernel
theorem dX1_throughRoom_19 : decode cX1_throughRoom 19 = .ok (.getfield 22, 3) := by decide +kernel
theorem dX1_throughRoom_22 : decode cX1_throughRoom 22 = .ok (.iload_n 3, 1) := by decide +kernel
theorem dX1_throughRoom_23 : decode cX1_throughRoom 23 = .ok (.invokestatic 52, 3) := by decide +kernel
theorem dX1_throughRoom_26 : decode cX1_throughRoom 26 = .ok (.iload_n 1, 1) := by decide +kernel
theorem dX1_throughRoom_27 : decode cX1_throughRoom 27 = .ok (.if_icmp .eq 15, 3) := by decide +kernel
theorem dX1_throughRoom_30 : decode cX1_throughRoom 30 = .ok (.aload_n 0, 1) := by decide +kernel
theorem dX1_throughRoom_31 : decode cX1_throughRoom 31 = .ok (.getfield 19, 3) := by decide +kernel
theorem dX1_throughRoom_34 : decode cX1_throughRoom 34 = .ok (.iload_n 3, 1) := by decide +kernel
theorem dX1_throughRoom_35 : decode cX1_throughRoom 35 = .ok (.invokestatic 52, 3) := by decide +kernel
theorem dX1_throughRoom_38 : decode cX1_throughRoom 38 = .ok (.iload_n 1, 1) := by decide +kernel
theorem dX1_throughRoom_39 : decode cX1_throughRoom 39 = .ok (.if_icmp .ne 14, 3) := by decide +kernel
theorem dX1_throughRoom_42 : decode cX1_throughRoom 42 = .ok (.iload_n 2, 1) := by decide +kernel
theorem dX1_throughRoom_43 : decode cX1_throughRoom 43 = .ok (.aload_n 0, 1) := by decide +kernel
theorem dX1_throughRoom_44 : decode cX1_throughRoom 44 = .ok (.iload_n 3, 1) := by decide +kernel
theorem dX1_throughRoom_45 : decode cX1_throughRoom 45 = .ok (.invokevirtual 94, 3) := by decide +kernel
theorem dX1_throughRoom_48 : decode cX1_throughRoom 48 = .ok (.invokestatic 104, 3) := by decide +kernel
theorem dX1_throughRoom_51 : decode cX1_throughRoom 51 = .ok (.iadd, 1) := by decide +kernel
theorem dX1_throughRoom_52 : decode cX1_throughRoom 52 = .ok (.istore_n 2, 1) := by decide +kernel
theorem dX1_throughRoom_53 : decode cX1_throughRoom 53 = .ok (.iinc 3 1, 3) := by decide +kernel
theorem dX1_throughRoom_56 : decode cX1_throughRoom 56 = .ok (.goto (-52), 3) := by decide +kernel
theorem dX1_throughRoom_59 : decode cX1_throughRoom 59 = .ok (.iload_n 2, 1) := by decide +kernel
theorem dX1_throughRoom_60 : decode cX1_throughRoom 60 = .ok (.ireturn, 1) := by decide +kernel
theorem dX2_init_0 : decode cX2_init 0 = .ok (.aload_n 0, 1) := by decide +kernel
theorem dX2_init_1 : decode cX2_init 1 = .ok (.invokespecial 3, 3) := by decide +kernel
theorem dX2_init_4 : decode cX2_init 4 = .ok (.aload_n 0, 1) := by decide +kernel
theorem dX2_init_5 : decode cX2_init 5 = .ok (.bipush 10, 2) := by decide +kernel
theorem dX2_init_7 : decode cX2_init 7 = .ok (.newarray .int, 2) := by decide +kernel
theorem dX2_init_9 : decode cX2_init 9 = .ok (.putfield 9, 3) := by decide +kernel
theorem dX2_init_12 : decode cX2_init 12 = .ok (.aload_n 0, 1) := by decide +kernel
theorem dX2_init_13 : decode cX2_init 13 = .ok (.bipush 10, 2) := by decide +kernel
theorem dX2_init_15 : decode cX2_init 15 = .ok (.newarray .int, 2) := by decide +kernel
theorem dX2_init_17 : decode cX2_init 17 = .ok (.putfield 15, 3) := by decide +kernel
theorem dX2_init_20 : decode cX2_init 20 = .ok (.aload_n 0, 1) := by decide +kernel
theorem dX2_init_21 : decode cX2_init 21 = .ok (.bipush 10, 2) := by decide +kernel
theorem dX2_init_23 : decode cX2_init 23 = .ok (.newarray .int, 2) := by decide +kernel
theorem dX2_init_25 : decode cX2_init 25 = .ok (.putfield 18, 3) := by decide +kernel
theorem dX2_init_28 : decode cX2_init 28 = .ok (.aload_n 0, 1) := by decide +kernel
theorem dX2_init_29 : decode cX2_init 29 = .ok (.bipush 10, 2) := by decide +kernel
theorem dX2_init_31 : decode cX2_init 31 = .ok (.newarray .int, 2) := by decide +kernel
theorem dX2_init_33 : decode cX2_init 33 = .ok (.putfield 21, 3) := by decide +kernel
theorem dX2_init_36 : decode cX2_init 36 = .ok (.aload_n 0, 1) := by decide +kernel
theorem dX2_init_37 : decode cX2_init 37 = .ok (.bipush 10, 2) := by decide +kernel
theorem dX2_init_39 : decode cX2_init 39 = .ok (.newarray .int, 2) := by decide +kernel
theorem dX2_init_41 : decode cX2_init 41 = .ok (.putfield 24, 3) := by decide +kernel
theorem dX2_init_44 : decode cX2_init 44 = .ok (.aload_n 0, 1) := by decide +kernel
theorem dX2_init_45 : decode cX2_init 45 = .ok (.bipush 10, 2) := by decide +kernel
theorem dX2_init_47 : decode cX2_init 47 = .ok (.newarray .int, 2) := by decide +kernel
theorem dX2_init_49 : decode cX2_init 49 = .ok (.putfield 27, 3) := by decide +kernel
theorem dX2_init_52 : decode cX2_init 52 = .ok (.aload_n 0, 1) := by decide +kernel
theorem dX2_init_53 : decode cX2_init 53 = .ok (.bipush 10, 2) := by decide +kernel
theorem dX2_init_55 : decode cX2_init 55 = .ok (.newarray .int, 2) := by decide +kernel
theorem dX2_init_57 : decode cX2_init 57 = .ok (.putfield 30, 3) := by decide +kernel
theorem dX2_init_60 : decode cX2_init 60 = .ok (.return_, 1) := by decide +kernel
theorem dX2_has_0 : decode cX2_has 0 = .ok (.iload_n 1, 1) := by decide +kernel
theorem dX2_has_1 : decode cX2_has 1 = .ok (.ifCond .lt 15, 3) := by decide +kernel
theorem dX2_has_4 : decode cX2_has 4 = .ok (.iload_n 1, 1) := by decide +kernel
theorem dX2_has_5 : decode cX2_has 5 = .ok (.aload_n 0, 1) := by decide +kernel
theorem dX2_has_6 : decode cX2_has 6 = .ok (.getfield 33, 3) := by decide +kernel
theorem dX2_has_9 : decode cX2_has 9 = .ok (.if_icmp .ge 7, 3) := by decide +kernel
theorem dX2_has_12 : decode cX2_has 12 = .ok (.iconst 1, 1) := by decide +kernel
theorem dX2_has_13 : decode cX2_has 13 = .ok (.goto 4, 3) := by decide +kernel
theorem dX2_has_16 : decode cX2_has 16 = .ok (.iconst 0, 1) := by decide +kernel
theorem dX2_has_17 : decode cX2_has 17 = .ok (.ireturn, 1) := by decide +kernel
theorem dX2_isFull_0 : decode cX2_isFull 0 = .ok (.aload_n 0, 1) := by decide +kernel
theorem dX2_isFull_1 : decode cX2_isFull 1 = .ok (.getfield 33, 3) := by decide +kernel
theorem dX2_isFull_4 : decode cX2_isFull 4 = .ok (.bipush 10, 2) := by decide +kernel
theorem dX2_isFull_6 : decode cX2_isFull 6 = .ok (.if_icmp .lt 7, 3) := by decide +kernel
theorem dX2_isFull_9 : decode cX2_isFull 9 = .ok (.iconst 1, 1) := by decide +kernel
theorem dX2_isFull_10 : decode cX2_isFull 10 = .ok (.goto 4, 3) := by decide +kernel
theorem dX2_isFull_13 : decode cX2_isFull 13 = .ok (.iconst 0, 1) := by decide +kernel
theorem dX2_isFull_14 : decode cX2_isFull 14 = .ok (.ireturn, 1) := by decide +kernel
theorem dX2_isDoor_0 : decode cX2_isDoor 0 = .ok (.aload_n 0, 1) := by decide +kernel
theorem dX2_isDoor_1 : decode cX2_isDoor 1 = .ok (.getfield 18, 3) := by decide +kernel
theorem dX2_isDoor_4 : decode cX2_isDoor 4 = .ok (.iload_n 1, 1) := by decide +kernel
theorem dX2_isDoor_5 : decode cX2_isDoor 5 = .ok (.invokestatic 37, 3) := by decide +kernel
theorem dX2_isDoor_8 : decode cX2_isDoor 8 = .ok (.bipush 7, 2) := by decide +kernel
theorem dX2_isDoor_10 : decode cX2_isDoor 10 = .ok (.if_icmp .ne 7, 3) := by decide +kernel
theorem dX2_isDoor_13 : decode cX2_isDoor 13 = .ok (.iconst 1, 1) := by decide +kernel
theorem dX2_isDoor_14 : decode cX2_isDoor 14 = .ok (.goto 4, 3) := by decide +kernel
theorem dX2_isDoor_17 : decode cX2_isDoor 17 = .ok (.iconst 0, 1) := by decide +kernel
theorem dX2_isDoor_18 : decode cX2_isDoor 18 = .ok (.ireturn, 1) := by decide +kernel
theorem dX2_add_0 : decode cX2_add 0 = .ok (.aload_n 0, 1) := by decide +kernel
theorem dX2_add_1 : decode cX2_add 1 = .ok (.invokevirtual 43, 3) := by decide +kernel
theorem dX2_add_4 : decode cX2_add 4 = .ok (.ifCond .ne 101, 3) := by decide +kernel
theorem dX2_add_7 : decode cX2_add 7 = .ok (.aload_n 0, 1) := by decide +kernel
theorem dX2_add_8 : decode cX2_add 8 = .ok (.getfield 9, 3) := by decide +kernel
theorem dX2_add_11 : decode cX2_add 11 = .ok (.aload_n 0, 1) := by decide +kernel
theorem dX2_add_12 : decode cX2_add 12 = .ok (.getfield 33, 3) := by decide +kernel
theorem dX2_add_15 : decode cX2_add 15 = .ok (.iload_n 1, 1) := by decide +kernel
theorem dX2_add_16 : decode cX2_add 16 = .ok (.invokestatic 47, 3) := by decide +kernel
theorem dX2_add_19 : decode cX2_add 19 = .ok (.aload_n 0, 1) := by decide +kernel
theorem dX2_add_20 : decode cX2_add 20 = .ok (.getfield 15, 3) := by decide +kernel
theorem dX2_add_23 : decode cX2_add 23 = .ok (.aload_n 0, 1) := by decide +kernel
theorem dX2_add_24 : decode cX2_add 24 = .ok (.getfield 33, 3) := by decide +kernel
theorem dX2_add_27 : decode cX2_add 27 = .ok (.iload_n 2, 1) := by decide +kernel
theorem dX2_add_28 : decode cX2_add 28 = .ok (.invokestatic 47, 3) := by decide +kernel
theorem dX2_add_31 : decode cX2_add 31 = .ok (.aload_n 0, 1) := by decide +kernel
theorem dX2_add_32 : decode cX2_add 32 = .ok (.getfield 18, 3) := by decide +kernel
theorem dX2_add_35 : decode cX2_add 35 = .ok (.aload_n 0, 1) := by decide +kernel
theorem dX2_add_36 : decode cX2_add 36 = .ok (.getfield 33, 3) := by decide +kernel
theorem dX2_add_39 : decode cX2_add 39 = .ok (.iload_n 3, 1) := by decide +kernel
theorem dX2_add_40 : decode cX2_add 40 = .ok (.invokestatic 47, 3) := by decide +kernel
theorem dX2_add_43 : decode cX2_add 43 = .ok (.aload_n 0, 1) := by decide +kernel
theorem dX2_add_44 : decode cX2_add 44 = .ok (.getfield 21, 3) := by decide +kernel
theorem dX2_add_47 : decode cX2_add 47 = .ok (.aload_n 0, 1) := by decide +kernel
theorem dX2_add_48 : decode cX2_add 48 = .ok (.getfield 33, 3) := by decide +kernel
theorem dX2_add_51 : decode cX2_add 51 = .ok (.iload 4, 2) := by decide +kernel
theorem dX2_add_53 : decode cX2_add 53 = .ok (.invokestatic 47, 3) := by decide +kernel
theorem dX2_add_56 : decode cX2_add 56 = .ok (.aload_n 0, 1) := by decide +kernel
theorem dX2_add_57 : decode cX2_add 57 = .ok (.getfield 24, 3) := by decide +kernel
theorem dX2_add_60 : decode cX2_add 60 = .ok (.aload_n 0, 1) := by decide +kernel
theorem dX2_add_61 : decode cX2_add 61 = .ok (.getfield 33, 3) := by decide +kernel
theorem dX2_add_64 : decode cX2_add 64 = .ok (.iload 5, 2) := by decide +kernel
theorem dX2_add_66 : decode cX2_add 66 = .ok (.invokestatic 47, 3) := by decide +kernel
theorem dX2_add_69 : decode cX2_add 69 = .ok (.aload_n 0, 1) := by decide +kernel
theorem dX2_add_70 : decode cX2_add 70 = .ok (.getfield 27, 3) := by decide +kernel
theorem dX2_add_73 : decode cX2_add 73 = .ok (.aload_n 0, 1) := by decide +kernel
theorem dX2_add_74 : decode cX2_add 74 = .ok (.getfield 33, 3) := by decide +kernel
theorem dX2_add_77 : decode cX2_add 77 = .ok (.iload 6, 2) := by decide +kernel
theorem dX2_add_79 : decode cX2_add 79 = .ok (.invokestatic 47, 3) := by decide +kernel
theorem dX2_add_82 : decode cX2_add 82 = .ok (.aload_n 0, 1) := by decide +kernel
theorem dX2_add_83 : decode cX2_add 83 = .ok (.getfield 30, 3) := by decide +kernel
theorem dX2_add_86 : decode cX2_add 86 = .ok (.aload_n 0, 1) := by decide +kernel
theorem dX2_add_87 : decode cX2_add 87 = .ok (.getfield 33, 3) := by decide +kernel
theorem dX2_add_90 : decode cX2_add 90 = .ok (.iload 7, 2) := by decide +kernel
theorem dX2_add_92 : decode cX2_add 92 = .ok (.invokestatic 47, 3) := by decide +kernel
theorem dX2_add_95 : decode cX2_add 95 = .ok (.aload_n 0, 1) := by decide +kernel
theorem dX2_add_96 : decode cX2_add 96 = .ok (.dup, 1) := by decide +kernel
theorem dX2_add_97 : decode cX2_add 97 = .ok (.getfield 33, 3) := by decide +kernel
theorem dX2_add_100 : decode cX2_add 100 = .ok (.iconst 1, 1) := by decide +kernel
theorem dX2_add_101 : decode cX2_add 101 = .ok (.iadd, 1) := by decide +kernel
theorem dX2_add_102 : decode cX2_add 102 = .ok (.putfield 33, 3) := by decide +kernel
theorem dX2_add_105 : decode cX2_add 105 = .ok (.return_, 1) := by decide +kernel
theorem dX2_dropLast_0 : decode cX2_dropLast 0 = .ok (.aload_n 0, 1) := by decide +kernel
theorem dX2_dropLast_1 : decode cX2_dropLast 1 = .ok (.aload_n 0, 1) := by decide +kernel
theorem dX2_dropLast_2 : decode cX2_dropLast 2 = .ok (.getfield 33, 3) := by decide +kernel
theorem dX2_dropLast_5 : decode cX2_dropLast 5 = .ok (.iconst 1, 1) := by decide +kernel
theorem dX2_dropLast_6 : decode cX2_dropLast 6 = .ok (.isub, 1) := by decide +kernel
theorem dX2_dropLast_7 : decode cX2_dropLast 7 = .ok (.iconst 0, 1) := by decide +kernel
theorem dX2_dropLast_8 : decode cX2_dropLast 8 = .ok (.invokestatic 51, 3) := by decide +kernel
theorem dX2_dropLast_11 : decode cX2_dropLast 11 = .ok (.putfield 33, 3) := by decide +kernel
theorem dX2_dropLast_14 : decode cX2_dropLast 14 = .ok (.return_, 1) := by decide +kernel
theorem dX2_become_0 : decode cX2_become 0 = .ok (.aload_n 1, 1) := by decide +kernel
theorem dX2_become_1 : decode cX2_become 1 = .ok (.getfield 9, 3) := by decide +kernel
theorem dX2_become_4 : decode cX2_become 4 = .ok (.aload_n 0, 1) := by decide +kernel
theorem dX2_become_5 : decode cX2_become 5 = .ok (.getfield 9, 3) := by decide +kernel
theorem dX2_become_8 : decode cX2_become 8 = .ok (.invokestatic 57, 3) := by decide +kernel
theorem dX2_become_11 : decode cX2_become 11 = .ok (.aload_n 1, 1) := by decide +kernel
theorem dX2_become_12 : decode cX2_become 12 = .ok (.getfield 15, 3) := by decide +kernel
theorem dX2_become_15 : decode cX2_become 15 = .ok (.aload_n 0, 1) := by decide +kernel
theorem dX2_become_16 : decode cX2_become 16 = .ok (.getfield 15, 3) := by decide +kernel
theorem dX2_become_19 : decode cX2_become 19 = .ok (.invokestatic 57, 3) := by decide +kernel
theorem dX2_become_22 : decode cX2_become 22 = .ok (.aload_n 1, 1) := by decide +kernel
theorem dX2_become_23 : decode cX2_become 23 = .ok (.getfield 18, 3) := by decide +kernel
theorem dX2_become_26 : decode cX2_become 26 = .ok (.aload_n 0, 1) := by decide +kernel
theorem dX2_become_27 : decode cX2_become 27 = .ok (.getfield 18, 3) := by decide +kernel
theorem dX2_become_30 : decode cX2_become 30 = .ok (.invokestatic 57, 3) := by decide +kernel
theorem dX2_become_33 : decode cX2_become 33 = .ok (.aload_n 1, 1) := by decide +kernel
theorem dX2_become_34 : decode cX2_become 34 = .ok (.getfield 21, 3) := by decide +kernel
theorem dX2_become_37 : decode cX2_become 37 = .ok (.aload_n 0, 1) := by decide +kernel
theorem dX2_become_38 : decode cX2_become 38 = .ok (.getfield 21, 3) := by decide +kernel
theorem dX2_become_41 : decode cX2_become 41 = .ok (.invokestatic 57, 3) := by decide +kernel
theorem dX2_become_44 : decode cX2_become 44 = .ok (.aload_n 1, 1) := by decide +kernel
theorem dX2_become_45 : decode cX2_become 45 = .ok (.getfield 24, 3) := by decide +kernel
theorem dX2_become_48 : decode cX2_become 48 = .ok (.aload_n 0, 1) := by decide +kernel
theorem dX2_become_49 : decode cX2_become 49 = .ok (.getfield 24, 3) := by decide +kernel
theorem dX2_become_52 : decode cX2_become 52 = .ok (.invokestatic 57, 3) := by decide +kernel
theorem dX2_become_55 : decode cX2_become 55 = .ok (.aload_n 1, 1) := by decide +kernel
theorem dX2_become_56 : decode cX2_become 56 = .ok (.getfield 27, 3) := by decide +kernel
theorem dX2_become_59 : decode cX2_become 59 = .ok (.aload_n 0, 1) := by decide +kernel
theorem dX2_become_60 : decode cX2_become 60 = .ok (.getfield 27, 3) := by decide +kernel
theorem dX2_become_63 : decode cX2_become 63 = .ok (.invokestatic 57, 3) := by decide +kernel
theorem dX2_become_66 : decode cX2_become 66 = .ok (.aload_n 1, 1) := by decide +kernel
theorem dX2_become_67 : decode cX2_become 67 = .ok (.getfield 30, 3) := by decide +kernel
theorem dX2_become_70 : decode cX2_become 70 = .ok (.aload_n 0, 1) := by decide +kernel
theorem dX2_become_71 : decode cX2_become 71 = .ok (.getfield 30, 3) := by decide +kernel
theorem dX2_become_74 : decode cX2_become 74 = .ok (.invokestatic 57, 3) := by decide +kernel
theorem dX2_become_77 : decode cX2_become 77 = .ok (.aload_n 0, 1) := by decide +kernel
theorem dX2_become_78 : decode cX2_become 78 = .ok (.aload_n 1, 1) := by decide +kernel
theorem dX2_become_79 : decode cX2_become 79 = .ok (.getfield 33, 3) := by decide +kernel
theorem dX2_become_82 : decode cX2_become 82 = .ok (.putfield 33, 3) := by decide +kernel
theorem dX2_become_85 : decode cX2_become 85 = .ok (.return_, 1) := by decide +kernel
theorem dX2_roomsToldOf_0 : decode cX2_roomsToldOf 0 = .ok (.iconst 0, 1) := by decide +kernel
theorem dX2_roomsToldOf_1 : decode cX2_roomsToldOf 1 = .ok (.istore_n 1, 1) := by decide +kernel
theorem dX2_roomsToldOf_2 : decode cX2_roomsToldOf 2 = .ok (.iconst 0, 1) := by decide +kernel
theorem dX2_roomsToldOf_3 : decode cX2_roomsToldOf 3 = .ok (.istore_n 2, 1) := by decide +kernel
theorem dX2_roomsToldOf_4 : decode cX2_roomsToldOf 4 = .ok (.iload_n 2, 1) := by decide +kernel
theorem dX2_roomsToldOf_5 : decode cX2_roomsToldOf 5 = .ok (.aload_n 0, 1) := by decide +kernel
theorem dX2_roomsToldOf_6 : decode cX2_roomsToldOf 6 = .ok (.getfield 33, 3) := by decide +kernel
theorem dX2_roomsToldOf_9 : decode cX2_roomsToldOf 9 = .ok (.if_icmp .ge 35, 3) := by decide +kernel
theorem dX2_roomsToldOf_12 : decode cX2_roomsToldOf 12 = .ok (.iload_n 1, 1) := by decide +kernel
theorem dX2_roomsToldOf_13 : decode cX2_roomsToldOf 13 = .ok (.aload_n 0, 1) := by decide +kernel
theorem dX2_roomsToldOf_14 : decode cX2_roomsToldOf 14 = .ok (.getfield 9, 3) := by decide +kernel
theorem dX2_roomsToldOf_17 : decode cX2_roomsToldOf 17 = .ok (.iload_n 2, 1) := by decide +kernel
theorem dX2_roomsToldOf_18 : decode cX2_roomsToldOf 18 = .ok (.invokestatic 37, 3) := by decide +kernel
theorem dX2_roomsToldOf_21 : decode cX2_roomsToldOf 21 = .ok (.aload_n 0, 1) := by decide +kernel
theorem dX2_roomsToldOf_22 : decode cX2_roomsToldOf 22 = .ok (.getfield 15, 3) := by decide +kernel
theorem dX2_roomsToldOf_25 : decode cX2_roomsToldOf 25 = .ok (.iload_n 2, 1) := by decide +kernel
theorem dX2_roomsToldOf_26 : decode cX2_roomsToldOf 26 = .ok (.invokestatic 37, 3) := by decide +kernel
theorem dX2_roomsToldOf_29 : decode cX2_roomsToldOf 29 = .ok (.invokestatic 51, 3) := by decide +kernel
theorem dX2_roomsToldOf_32 : decode cX2_roomsToldOf 32 = .ok (.iconst 1, 1) := by decide +kernel
theorem dX2_roomsToldOf_33 : decode cX2_roomsToldOf 33 = .ok (.iadd, 1) := by decide +kernel
theorem dX2_roomsToldOf_34 : decode cX2_roomsToldOf 34 = .ok (.invokestatic 51, 3) := by decide +kernel
theorem dX2_roomsToldOf_37 : decode cX2_roomsToldOf 37 = .ok (.istore_n 1, 1) := by decide +kernel
theorem dX2_roomsToldOf_38 : decode cX2_roomsToldOf 38 = .ok (.iinc 2 1, 3) := by decide +kernel
theorem dX2_roomsToldOf_41 : decode cX2_roomsToldOf 41 = .ok (.goto (-37), 3) := by decide +kernel
theorem dX2_roomsToldOf_44 : decode cX2_roomsToldOf 44 = .ok (.iload_n 1, 1) := by decide +kernel
theorem dX2_roomsToldOf_45 : decode cX2_roomsToldOf 45 = .ok (.ireturn, 1) := by decide +kernel
theorem dX2_doors_0 : decode cX2_doors 0 = .ok (.iconst 0, 1) := by decide +kernel
theorem dX2_doors_1 : decode cX2_doors 1 = .ok (.istore_n 1, 1) := by decide +kernel
theorem dX2_doors_2 : decode cX2_doors 2 = .ok (.iconst 0, 1) := by decide +kernel
theorem dX2_doors_3 : decode cX2_doors 3 = .ok (.istore_n 2, 1) := by decide +kernel
theorem dX2_doors_4 : decode cX2_doors 4 = .ok (.iload_n 2, 1) := by decide +kernel
theorem dX2_doors_5 : decode cX2_doors 5 = .ok (.aload_n 0, 1) := by decide +kernel
theorem dX2_doors_6 : decode cX2_doors 6 = .ok (.getfield 33, 3) := by decide +kernel
theorem dX2_doors_9 : decode cX2_doors 9 = .ok (.if_icmp .ge 25, 3) := by decide +kernel
theorem dX2_doors_12 : decode cX2_doors 12 = .ok (.iload_n 1, 1) := by decide +kernel
theorem dX2_doors_13 : decode cX2_doors 13 = .ok (.aload_n 0, 1) := by decide +kernel
theorem dX2_doors_14 : decode cX2_doors 14 = .ok (.iload_n 2, 1) := by decide +kernel
theorem dX2_doors_15 : decode cX2_doors 15 = .ok (.invokevirtual 61, 3) := by decide +kernel
theorem dX2_doors_18 : decode cX2_doors 18 = .ok (.ifCond .eq 7, 3) := by decide +kernel
theorem dX2_doors_21 : decode cX2_doors 21 = .ok (.iconst 1, 1) := by decide +kernel
theorem dX2_doors_22 : decode cX2_doors 22 = .ok (.goto 4, 3) := by decide +kernel
theorem dX2_doors_25 : decode cX2_doors 25 = .ok (.iconst 0, 1) := by decide +kernel
theorem dX2_doors_26 : decode cX2_doors 26 = .ok (.iadd, 1) := by decide +kernel
theorem dX2_doors_27 : decode cX2_doors 27 = .ok (.istore_n 1, 1) := by decide +kernel
theorem dX2_doors_28 : decode cX2_doors 28 = .ok (.iinc 2 1, 3) := by decide +kernel
theorem dX2_doors_31 : decode cX2_doors 31 = .ok (.goto (-27), 3) := by decide +kernel
theorem dX2_doors_34 : decode cX2_doors 34 = .ok (.iload_n 1, 1) := by decide +kernel
theorem dX2_doors_35 : decode cX2_doors 35 = .ok (.ireturn, 1) := by decide +kernel
theorem dX2_allSizes_0 : decode cX2_allSizes 0 = .ok (.iconst 0, 1) := by decide +kernel
theorem dX2_allSizes_1 : decode cX2_allSizes 1 = .ok (.istore_n 1, 1) := by decide +kernel
theorem dX2_allSizes_2 : decode cX2_allSizes 2 = .ok (.iconst 0, 1) := by decide +kernel
theorem dX2_allSizes_3 : decode cX2_allSizes 3 = .ok (.istore_n 2, 1) := by decide +kernel
theorem dX2_allSizes_4 : decode cX2_allSizes 4 = .ok (.iload_n 2, 1) := by decide +kernel
theorem dX2_allSizes_5 : decode cX2_allSizes 5 = .ok (.aload_n 0, 1) := by decide +kernel
theorem dX2_allSizes_6 : decode cX2_allSizes 6 = .ok (.getfield 33, 3) := by decide +kernel
theorem dX2_allSizes_9 : decode cX2_allSizes 9 = .ok (.if_icmp .ge 20, 3) := by decide +kernel
theorem dX2_allSizes_12 : decode cX2_allSizes 12 = .ok (.iload_n 1, 1) := by decide +kernel
theorem dX2_allSizes_13 : decode cX2_allSizes 13 = .ok (.aload_n 0, 1) := by decide +kernel
theorem dX2_allSizes_14 : decode cX2_allSizes 14 = .ok (.getfield 21, 3) := by decide +kernel
theorem dX2_allSizes_17 : decode cX2_allSizes 17 = .ok (.iload_n 2, 1) := by decide +kernel
theorem dX2_allSizes_18 : decode cX2_allSizes 18 = .ok (.invokestatic 37, 3) := by decide +kernel
theorem dX2_allSizes_21 : decode cX2_allSizes 21 = .ok (.iadd, 1) := by decide +kernel
theorem dX2_allSizes_22 : decode cX2_allSizes 22 = .ok (.istore_n 1, 1) := by decide +kernel
theorem dX2_allSizes_23 : decode cX2_allSizes 23 = .ok (.iinc 2 1, 3) := by decide +kernel
theorem dX2_allSizes_26 : decode cX2_allSizes 26 = .ok (.goto (-22), 3) := by decide +kernel
theorem dX2_allSizes_29 : decode cX2_allSizes 29 = .ok (.iload_n 1, 1) := by decide +kernel
theorem dX2_allSizes_30 : decode cX2_allSizes 30 = .ok (.ireturn, 1) := by decide +kernel
theorem dX2_canBeStopped_0 : decode cX2_canBeStopped 0 = .ok (.iconst 0, 1) := by decide +kernel
theorem dX2_canBeStopped_1 : decode cX2_canBeStopped 1 = .ok (.istore_n 3, 1) := by decide +kernel
theorem dX2_canBeStopped_2 : decode cX2_canBeStopped 2 = .ok (.iconst 0, 1) := by decide +kernel
theorem dX2_canBeStopped_3 : decode cX2_canBeStopped 3 = .ok (.istore 4, 2) := by decide +kernel
theorem dX2_canBeStopped_5 : decode cX2_canBeStopped 5 = .ok (.iload 4, 2) := by decide +kernel
theorem dX2_canBeStopped_7 : decode cX2_canBeStopped 7 = .ok (.aload_n 0, 1) := by decide +kernel
theorem dX2_canBeStopped_8 : decode cX2_canBeStopped 8 = .ok (.getfield 33, 3) := by decide +kernel
theorem dX2_canBeStopped_11 : decode cX2_canBeStopped 11 = .ok (.if_icmp .ge 42, 3) := by decide +kernel
theorem dX2_canBeStopped_14 : decode cX2_canBeStopped 14 = .ok (.iload_n 1, 1) := by decide +kernel
theorem dX2_canBeStopped_15 : decode cX2_canBeStopped 15 = .ok (.iload 4, 2) := by decide +kernel
theorem dX2_canBeStopped_17 : decode cX2_canBeStopped 17 = .ok (.ishr, 1) := by decide +kernel
theorem dX2_canBeStopped_18 : decode cX2_canBeStopped 18 = .ok (.iconst 1, 1) := by decide +kernel
theorem dX2_canBeStopped_19 : decode cX2_canBeStopped 19 = .ok (.iand, 1) := by decide +kernel
theorem dX2_canBeStopped_20 : decode cX2_canBeStopped 20 = .ok (.iconst 1, 1) := by decide +kernel
theorem dX2_canBeStopped_21 : decode cX2_canBeStopped 21 = .ok (.if_icmp .ne 26, 3) := by decide +kernel
theorem dX2_canBeStopped_24 : decode cX2_canBeStopped 24 = .ok (.aload_n 0, 1) := by decide +kernel
theorem dX2_canBeStopped_25 : decode cX2_canBeStopped 25 = .ok (.iload 4, 2) := by decide +kernel
theorem dX2_canBeStopped_27 : decode cX2_canBeStopped 27 = .ok (.invokevirtual 61, 3) := by decide +kernel
theorem dX2_canBeStopped_30 : decode cX2_canBeStopped 30 = .ok (.ifCond .eq 5, 3) := by decide +kernel
theorem dX2_canBeStopped_33 : decode cX2_canBeStopped 33 = .ok (.iconst 0, 1) := by decide +kernel
theorem dX2_canBeStopped_34 : decode cX2_canBeStopped 34 = .ok (.ireturn, 1) := by decide +kernel
theorem dX2_canBeStopped_35 : decode cX2_canBeStopped 35 = .ok (.iload_n 3, 1) := by decide +kernel
theorem dX2_canBeStopped_36 : decode cX2_canBeStopped 36 = .ok (.aload_n 0, 1) := by decide +kernel
theorem dX2_canBeStopped_37 : decode cX2_canBeStopped 37 = .ok (.getfield 30, 3) := by decide +kernel
theorem dX2_canBeStopped_40 : decode cX2_canBeStopped 40 = .ok (.iload 4, 2) := by decide +kernel
theorem dX2_canBeStopped_42 : decode cX2_canBeStopped 42 = .ok (.invokestatic 37, 3) := by decide +kernel
theorem dX2_canBeStopped_45 : decode cX2_canBeStopped 45 = .ok (.iadd, 1) := by decide +kernel
theorem dX2_canBeStopped_46 : decode cX2_canBeStopped 46 = .ok (.istore_n 3, 1) := by decide +kernel
theorem dX2_canBeStopped_47 : decode cX2_canBeStopped 47 = .ok (.iinc 4 1, 3) := by decide +kernel
theorem dX2_canBeStopped_50 : decode cX2_canBeStopped 50 = .ok (.goto (-45), 3) := by decide +kernel
theorem dX2_canBeStopped_53 : decode cX2_canBeStopped 53 = .ok (.iload_n 1, 1) := by decide +kernel
theorem dX2_canBeStopped_54 : decode cX2_canBeStopped 54 = .ok (.invokestatic 65, 3) := by decide +kernel
theorem dX2_canBeStopped_57 : decode cX2_canBeStopped 57 = .ok (.iconst 3, 1) := by decide +kernel
theorem dX2_canBeStopped_58 : decode cX2_canBeStopped 58 = .ok (.if_icmp .gt 12, 3) := by decide +kernel
theorem dX2_canBeStopped_61 : decode cX2_canBeStopped 61 = .ok (.iload_n 3, 1) := by decide +kernel
theorem dX2_canBeStopped_62 : decode cX2_canBeStopped 62 = .ok (.iload_n 2, 1) := by decide +kernel
theorem dX2_canBeStopped_63 : decode cX2_canBeStopped 63 = .ok (.if_icmp .gt 7, 3) := by decide +kernel
theorem dX2_canBeStopped_66 : decode cX2_canBeStopped 66 = .ok (.iconst 1, 1) := by decide +kernel
theorem dX2_canBeStopped_67 : decode cX2_canBeStopped 67 = .ok (.goto 4, 3) := by decide +kernel
theorem dX2_canBeStopped_70 : decode cX2_canBeStopped 70 = .ok (.iconst 0, 1) := by decide +kernel
theorem dX2_canBeStopped_71 : decode cX2_canBeStopped 71 = .ok (.ireturn, 1) := by decide +kernel
theorem dX2_outsidePush_0 : decode cX2_outsidePush 0 = .ok (.aload_n 2, 1) := by decide +kernel
theorem dX2_outsidePush_1 : decode cX2_outsidePush 1 = .ok (.aload_n 0, 1) := by decide +kernel
theorem dX2_outsidePush_2 : decode cX2_outsidePush 2 = .ok (.getfield 27, 3) := by decide +kernel
theorem dX2_outsidePush_5 : decode cX2_outsidePush 5 = .ok (.iload_n 1, 1) := by decide +kernel
theorem dX2_outsidePush_6 : decode cX2_outsidePush 6 = .ok (.invokestatic 37, 3) := by decide +kernel
theorem dX2_outsidePush_9 : decode cX2_outsidePush 9 = .ok (.invokevirtual 71, 3) := by decide +kernel
theorem dX2_outsidePush_12 : decode cX2_outsidePush 12 = .ok (.istore_n 3, 1) := by decide +kernel
theorem dX2_outsidePush_13 : decode cX2_outsidePush 13 = .ok (.aload_n 2, 1) := by decide +kernel
theorem dX2_outsidePush_14 : decode cX2_outsidePush 14 = .ok (.getfield 76, 3) := by decide +kernel
theorem dX2_outsidePush_17 : decode cX2_outsidePush 17 = .ok (.iconst 5, 1) := by decide +kernel
theorem dX2_outsidePush_18 : decode cX2_outsidePush 18 = .ok (.aload_n 0, 1) := by decide +kernel
theorem dX2_outsidePush_19 : decode cX2_outsidePush 19 = .ok (.getfield 24, 3) := by decide +kernel
theorem dX2_outsidePush_22 : decode cX2_outsidePush 22 = .ok (.iload_n 1, 1) := by decide +kernel
theorem dX2_outsidePush_23 : decode cX2_outsidePush 23 = .ok (.invokestatic 37, 3) := by decide +kernel
theorem dX2_outsidePush_26 : decode cX2_outsidePush 26 = .ok (.isub, 1) := by decide +kernel
theorem dX2_outsidePush_27 : decode cX2_outsidePush 27 = .ok (.imul, 1) := by decide +kernel
theorem dX2_outsidePush_28 : decode cX2_outsidePush 28 = .ok (.iload_n 3, 1) := by decide +kernel
theorem dX2_outsidePush_29 : decode cX2_outsidePush 29 = .ok (.iadd, 1) := by decide +kernel
theorem dX2_outsidePush_30 : decode cX2_outsidePush 30 = .ok (.istore 4, 2) := by decide +kernel
theorem dX2_outsidePush_32 : decode cX2_outsidePush 32 = .ok (.iload 4, 2) := by decide +kernel
theorem dX2_outsidePush_34 : decode cX2_outsidePush 34 = .ok (.aload_n 2, 1) := by decide +kernel
theorem dX2_outsidePush_35 : decode cX2_outsidePush 35 = .ok (.getfield 76, 3) := by decide +kernel
theorem dX2_outsidePush_38 : decode cX2_outsidePush 38 = .ok (.isub, 1) := by decide +kernel
theorem dX2_outsidePush_39 : decode cX2_outsidePush 39 = .ok (.istore 5, 2) := by decide +kernel
theorem dX2_outsidePush_41 : decode cX2_outsidePush 41 = .ok (.iload 5, 2) := by decide +kernel
theorem dX2_outsidePush_43 : decode cX2_outsidePush 43 = .ok (.iconst 3, 1) := by decide +kernel
theorem dX2_outsidePush_44 : decode cX2_outsidePush 44 = .ok (.aload_n 2, 1) := by decide +kernel
theorem dX2_outsidePush_45 : decode cX2_outsidePush 45 = .ok (.getfield 76, 3) := by decide +kernel
theorem dX2_outsidePush_48 : decode cX2_outsidePush 48 = .ok (.imul, 1) := by decide +kernel
theorem dX2_outsidePush_49 : decode cX2_outsidePush 49 = .ok (.isub, 1) := by decide +kernel
theorem dX2_outsidePush_50 : decode cX2_outsidePush 50 = .ok (.iconst 2, 1) := by decide +kernel
theorem dX2_outsidePush_51 : decode cX2_outsidePush 51 = .ok (.aload_n 2, 1) := by decide +kernel
theorem dX2_outsidePush_52 : decode cX2_outsidePush 52 = .ok (.getfield 79, 3) := by decide +kernel
theorem dX2_outsidePush_55 : decode cX2_outsidePush 55 = .ok (.imul, 1) := by decide +kernel
theorem dX2_outsidePush_56 : decode cX2_outsidePush 56 = .ok (.isub, 1) := by decide +kernel
theorem dX2_outsidePush_57 : decode cX2_outsidePush 57 = .ok (.istore 6, 2) := by decide +kernel
theorem dX2_outsidePush_59 : decode cX2_outsidePush 59 = .ok (.aload_n 0, 1) := by decide +kernel
theorem dX2_outsidePush_60 : decode cX2_outsidePush 60 = .ok (.getfield 18, 3) := by decide +kernel
theorem dX2_outsidePush_63 : decode cX2_outsidePush 63 = .ok (.iload_n 1, 1) := by decide +kernel
theorem dX2_outsidePush_64 : decode cX2_outsidePush 64 = .ok (.invokestatic 37, 3) := by decide +kernel
theorem dX2_outsidePush_67 : decode cX2_outsidePush 67 = .ok (.tableswitch 70 1 6 #[37, 45, 48, 53, 56, 64], 37) := by decide +kernel
theorem dX2_outsidePush_104 : decode cX2_outsidePush 104 = .ok (.iload 4, 2) := by decide +kernel
theorem dX2_outsidePush_106 : decode cX2_outsidePush 106 = .ok (.aload_n 2, 1) := by decide +kernel
theorem dX2_outsidePush_107 : decode cX2_outsidePush 107 = .ok (.getfield 76, 3) := by decide +kernel
theorem dX2_outsidePush_110 : decode cX2_outsidePush 110 = .ok (.iadd, 1) := by decide +kernel
theorem dX2_outsidePush_111 : decode cX2_outsidePush 111 = .ok (.ireturn, 1) := by decide +kernel
theorem dX2_outsidePush_112 : decode cX2_outsidePush 112 = .ok (.iload 5, 2) := by decide +kernel
theorem dX2_outsidePush_114 : decode cX2_outsidePush 114 = .ok (.ireturn, 1) := by decide +kernel
theorem dX2_outsidePush_115 : decode cX2_outsidePush 115 = .ok (.iload 4, 2) := by decide +kernel
theorem dX2_outsidePush_117 : decode cX2_outsidePush 117 = .ok (.iload_n 3, 1) := by decide +kernel
theorem dX2_outsidePush_118 : decode cX2_outsidePush 118 = .ok (.iadd, 1) := by decide +kernel
theorem dX2_outsidePush_119 : decode cX2_outsidePush 119 = .ok (.ireturn, 1) := by decide +kernel
theorem dX2_outsidePush_120 : decode cX2_outsidePush 120 = .ok (.iload 6, 2) := by decide +kernel
theorem dX2_outsidePush_122 : decode cX2_outsidePush 122 = .ok (.ireturn, 1) := by decide +kernel
theorem dX2_outsidePush_123 : decode cX2_outsidePush 123 = .ok (.iload 4, 2) := by decide +kernel
theorem dX2_outsidePush_125 : decode cX2_outsidePush 125 = .ok (.aload_n 2, 1) := by decide +kernel
theorem dX2_outsidePush_126 : decode cX2_outsidePush 126 = .ok (.getfield 82, 3) := by decide +kernel
theorem dX2_outsidePush_129 : decode cX2_outsidePush 129 = .ok (.iadd, 1) := by decide +kernel
theorem dX2_outsidePush_130 : decode cX2_outsidePush 130 = .ok (.ireturn, 1) := by decide +kernel
theorem dX2_outsidePush_131 : decode cX2_outsidePush 131 = .ok (.iload 6, 2) := by decide +kernel
theorem dX2_outsidePush_133 : decode cX2_outsidePush 133 = .ok (.bipush 20, 2) := by decide +kernel
theorem dX2_outsidePush_135 : decode cX2_outsidePush 135 = .ok (.isub, 1) := by decide +kernel
theorem dX2_outsidePush_136 : decode cX2_outsidePush 136 = .ok (.ireturn, 1) := by decide +kernel
theorem dX2_outsidePush_137 : decode cX2_outsidePush 137 = .ok (.iload 4, 2) := by decide +kernel
theorem dX2_outsidePush_139 : decode cX2_outsidePush 139 = .ok (.ireturn, 1) := by decide +kernel
theorem dX3_init_0 : decode cX3_init 0 = .ok (.aload_n 0, 1) := by decide +kernel
theorem dX3_init_1 : decode cX3_init 1 = .ok (.invokespecial 3, 3) := by decide +kernel
theorem dX3_init_4 : decode cX3_init 4 = .ok (.aload_n 0, 1) := by decide +kernel
theorem dX3_init_5 : decode cX3_init 5 = .ok (.aload_n 1, 1) := by decide +kernel
theorem dX3_init_6 : decode cX3_init 6 = .ok (.putfield 9, 3) := by decide +kernel
theorem dX3_init_9 : decode cX3_init 9 = .ok (.aload_n 0, 1) := by decide +kernel
theorem dX3_init_10 : decode cX3_init 10 = .ok (.new 15, 3) := by decide +kernel
theorem dX3_init_13 : decode cX3_init 13 = .ok (.dup, 1) := by decide +kernel
theorem dX3_init_14 : decode cX3_init 14 = .ok (.bipush 6, 2) := by decide +kernel
theorem dX3_init_16 : decode cX3_init 16 = .ok (.invokespecial 17, 3) := by decide +kernel
theorem dX3_init_19 : decode cX3_init 19 = .ok (.putfield 20, 3) := by decide +kernel
theorem dX3_init_22 : decode cX3_init 22 = .ok (.return_, 1) := by decide +kernel
theorem dX3_faultOfLetters_0 : decode cX3_faultOfLetters 0 = .ok (.aload_n 0, 1) := by decide +kernel
theorem dX3_faultOfLetters_1 : decode cX3_faultOfLetters 1 = .ok (.iconst 0, 1) := by decide +kernel
theorem dX3_faultOfLetters_2 : decode cX3_faultOfLetters 2 = .ok (.putfield 24, 3) := by decide +kernel
theorem dX3_faultOfLetters_5 : decode cX3_faultOfLetters 5 = .ok (.aload_n 0, 1) := by decide +kernel
theorem dX3_faultOfLetters_6 : decode cX3_faultOfLetters 6 = .ok (.invokevirtual 28, 3) := by decide +kernel
theorem dX3_faultOfLetters_9 : decode cX3_faultOfLetters 9 = .ok (.istore_n 1, 1) := by decide +kernel
theorem dX3_faultOfLetters_10 : decode cX3_faultOfLetters 10 = .ok (.iconst 0, 1) := by decide +kernel
theorem dX3_faultOfLetters_11 : decode cX3_faultOfLetters 11 = .ok (.istore_n 2, 1) := by decide +kernel
theorem dX3_faultOfLetters_12 : decode cX3_faultOfLetters 12 = .ok (.iload_n 2, 1) := by decide +kernel
theorem dX3_faultOfLetters_13 : decode cX3_faultOfLetters 13 = .ok (.bipush 80, 2) := by decide +kernel
theorem dX3_faultOfLetters_15 : decode cX3_faultOfLetters 15 = .ok (.if_icmp .ge 35, 3) := by decide +kernel
theorem dX3_faultOfLetters_18 : decode cX3_faultOfLetters 18 = .ok (.iload_n 1, 1) := by decide +kernel
theorem dX3_faultOfLetters_19 : decode cX3_faultOfLetters 19 = .ok (.ifCond .eq 31, 3) := by decide +kernel
theorem dX3_faultOfLetters_22 : decode cX3_faultOfLetters 22 = .ok (.aload_n 0, 1) := by decide +kernel
theorem dX3_faultOfLetters_23 : decode cX3_faultOfLetters 23 = .ok (.getfield 24, 3) := by decide +kernel
theorem dX3_faultOfLetters_26 : decode cX3_faultOfLetters 26 = .ok (.aload_n 0, 1) := by decide +kernel
theorem dX3_faultOfLetters_27 : decode cX3_faultOfLetters 27 = .ok (.getfield 9, 3) := by decide +kernel
theorem dX3_faultOfLetters_30 : decode cX3_faultOfLetters 30 = .ok (.getfield 32, 3) := by decide +kernel
theorem dX3_faultOfLetters_33 : decode cX3_faultOfLetters 33 = .ok (.getfield 37, 3) := by decide +kernel
theorem dX3_faultOfLetters_36 : decode cX3_faultOfLetters 36 = .ok (.if_icmp .ge 14, 3) := by decide +kernel
theorem dX3_faultOfLetters_39 : decode cX3_faultOfLetters 39 = .ok (.aload_n 0, 1) := by decide +kernel
theorem dX3_faultOfLetters_40 : decode cX3_faultOfLetters 40 = .ok (.invokevirtual 28, 3) := by decide +kernel
theorem dX3_faultOfLetters_43 : decode cX3_faultOfLetters 43 = .ok (.istore_n 1, 1) := by decide +kernel
theorem dX3_faultOfLetters_44 : decode cX3_faultOfLetters 44 = .ok (.iinc 2 1, 3) := by decide +kernel
theorem dX3_faultOfLetters_47 : decode cX3_faultOfLetters 47 = .ok (.goto (-35), 3) := by decide +kernel
theorem dX3_faultOfLetters_50 : decode cX3_faultOfLetters 50 = .ok (.iload_n 1, 1) := by decide +kernel
theorem dX3_faultOfLetters_51 : decode cX3_faultOfLetters 51 = .ok (.ifCond .eq 7, 3) := by decide +kernel
theorem dX3_faultOfLetters_54 : decode cX3_faultOfLetters 54 = .ok (.iconst 0, 1) := by decide +kernel
theorem dX3_faultOfLetters_55 : decode cX3_faultOfLetters 55 = .ok (.goto 11, 3) := by decide +kernel
theorem dX3_faultOfLetters_58 : decode cX3_faultOfLetters 58 = .ok (.sipush (-1000), 3) := by decide +kernel
theorem dX3_faultOfLetters_61 : decode cX3_faultOfLetters 61 = .ok (.aload_n 0, 1) := by decide +kernel
theorem dX3_faultOfLetters_62 : decode cX3_faultOfLetters 62 = .ok (.getfield 24, 3) := by decide +kernel
theorem dX3_faultOfLetters_65 : decode cX3_faultOfLetters 65 = .ok (.isub, 1) := by decide +kernel
theorem dX3_faultOfLetters_66 : decode cX3_faultOfLetters 66 = .ok (.ireturn, 1) := by decide +kernel
theorem dX3_takeStatements_0 : decode cX3_takeStatements 0 = .ok (.aload_n 0, 1) := by decide +kernel
theorem dX3_takeStatements_1 : decode cX3_takeStatements 1 = .ok (.getfield 9, 3) := by decide +kernel
theorem dX3_takeStatements_4 : decode cX3_takeStatements 4 = .ok (.getfield 40, 3) := by decide +kernel
theorem dX3_takeStatements_7 : decode cX3_takeStatements 7 = .ok (.istore_n 1, 1) := by decide +kernel
theorem dX3_takeStatements_8 : decode cX3_takeStatements 8 = .ok (.aload_n 0, 1) := by decide +kernel
theorem dX3_takeStatements_9 : decode cX3_takeStatements 9 = .ok (.getfield 9, 3) := by decide +kernel
theorem dX3_takeStatements_12 : decode cX3_takeStatements 12 = .ok (.getfield 43, 3) := by decide +kernel
theorem dX3_takeStatements_15 : decode cX3_takeStatements 15 = .ok (.getfield 47, 3) := by decide +kernel
theorem dX3_takeStatements_18 : decode cX3_takeStatements 18 = .ok (.istore_n 2, 1) := by decide +kernel
theorem dX3_takeStatements_19 : decode cX3_takeStatements 19 = .ok (.aload_n 0, 1) := by decide +kernel
theorem dX3_takeStatements_20 : decode cX3_takeStatements 20 = .ok (.getfield 9, 3) := by decide +kernel
theorem dX3_takeStatements_23 : decode cX3_takeStatements 23 = .ok (.getfield 50, 3) := by decide +kernel
theorem dX3_takeStatements_26 : decode cX3_takeStatements 26 = .ok (.getfield 54, 3) := by decide +kernel
theorem dX3_takeStatements_29 : decode cX3_takeStatements 29 = .ok (.istore_n 3, 1) := by decide +kernel
theorem dX3_takeStatements_30 : decode cX3_takeStatements 30 = .ok (.iconst 0, 1) := by decide +kernel
theorem dX3_takeStatements_31 : decode cX3_takeStatements 31 = .ok (.istore 4, 2) := by decide +kernel
theorem dX3_takeStatements_33 : decode cX3_takeStatements 33 = .ok (.aload_n 0, 1) := by decide +kernel
theorem dX3_takeStatements_34 : decode cX3_takeStatements 34 = .ok (.iconst 0, 1) := by decide +kernel
theorem dX3_takeStatements_35 : decode cX3_takeStatements 35 = .ok (.putfield 24, 3) := by decide +kernel
theorem dX3_takeStatements_38 : decode cX3_takeStatements 38 = .ok (.iconst 0, 1) := by decide +kernel
theorem dX3_takeStatements_39 : decode cX3_takeStatements 39 = .ok (.istore 5, 2) := by decide +kernel
theorem dX3_takeStatements_41 : decode cX3_takeStatements 41 = .ok (.iload 5, 2) := by decide +kernel
theorem dX3_takeStatements_43 : decode cX3_takeStatements 43 = .ok (.bipush 80, 2) := by decide +kernel
theorem dX3_takeStatements_45 : decode cX3_takeStatements 45 = .ok (.if_icmp .ge 86, 3) := by decide +kernel
theorem dX3_takeStatements_48 : decode cX3_takeStatements 48 = .ok (.aload_n 0, 1) := by decide +kernel
theorem dX3_takeStatements_49 : decode cX3_takeStatements 49 = .ok (.getfield 24, 3) := by decide +kernel
theorem dX3_takeStatements_52 : decode cX3_takeStatements 52 = .ok (.aload_n 0, 1) := by decide +kernel
theorem dX3_takeStatements_53 : decode cX3_takeStatements 53 = .ok (.getfield 9, 3) := by decide +kernel
theorem dX3_takeStatements_56 : decode cX3_takeStatements 56 = .ok (.getfield 32, 3) := by decide +kernel
theorem dX3_takeStatements_59 : decode cX3_takeStatements 59 = .ok (.getfield 37, 3) := by decide +kernel
theorem dX3_takeStatements_62 : decode cX3_takeStatements 62 = .ok (.if_icmp .ge 69, 3) := by decide +kernel
theorem dX3_takeStatements_65 : decode cX3_takeStatements 65 = .ok (.aload_n 0, 1) := by decide +kernel
theorem dX3_takeStatements_66 : decode cX3_takeStatements 66 = .ok (.getfield 24, 3) := by decide +kernel
theorem dX3_takeStatements_69 : decode cX3_takeStatements 69 = .ok (.istore 6, 2) := by decide +kernel
theorem dX3_takeStatements_71 : decode cX3_takeStatements 71 = .ok (.aload_n 0, 1) := by decide +kernel
theorem dX3_takeStatements_72 : decode cX3_takeStatements 72 = .ok (.invokevirtual 28, 3) := by decide +kernel
theorem dX3_takeStatements_75 : decode cX3_takeStatements 75 = .ok (.ifCond .eq 10, 3) := by decide +kernel
theorem dX3_takeStatements_78 : decode cX3_takeStatements 78 = .ok (.aload_n 0, 1) := by decide +kernel
theorem dX3_takeStatements_79 : decode cX3_takeStatements 79 = .ok (.invokevirtual 57, 3) := by decide +kernel
theorem dX3_takeStatements_82 : decode cX3_takeStatements 82 = .ok (.ifCond .ne 40, 3) := by decide +kernel
theorem dX3_takeStatements_85 : decode cX3_takeStatements 85 = .ok (.aload_n 0, 1) := by decide +kernel
theorem dX3_takeStatements_86 : decode cX3_takeStatements 86 = .ok (.getfield 9, 3) := by decide +kernel
theorem dX3_takeStatements_89 : decode cX3_takeStatements 89 = .ok (.iload_n 1, 1) := by decide +kernel
theorem dX3_takeStatements_90 : decode cX3_takeStatements 90 = .ok (.putfield 40, 3) := by decide +kernel
theorem dX3_takeStatements_93 : decode cX3_takeStatements 93 = .ok (.aload_n 0, 1) := by decide +kernel
theorem dX3_takeStatements_94 : decode cX3_takeStatements 94 = .ok (.getfield 9, 3) := by decide +kernel
theorem dX3_takeStatements_97 : decode cX3_takeStatements 97 = .ok (.getfield 43, 3) := by decide +kernel
theorem dX3_takeStatements_100 : decode cX3_takeStatements 100 = .ok (.iload_n 2, 1) := by decide +kernel
theorem dX3_takeStatements_101 : decode cX3_takeStatements 101 = .ok (.putfield 47, 3) := by decide +kernel
theorem dX3_takeStatements_104 : decode cX3_takeStatements 104 = .ok (.aload_n 0, 1) := by decide +kernel
theorem dX3_takeStatements_105 : decode cX3_takeStatements 105 = .ok (.getfield 9, 3) := by decide +kernel
theorem dX3_takeStatements_108 : decode cX3_takeStatements 108 = .ok (.getfield 50, 3) := by decide +kernel
theorem dX3_takeStatements_111 : decode cX3_takeStatements 111 = .ok (.iload_n 3, 1) := by decide +kernel
theorem dX3_takeStatements_112 : decode cX3_takeStatements 112 = .ok (.putfield 54, 3) := by decide +kernel
theorem dX3_takeStatements_115 : decode cX3_takeStatements 115 = .ok (.sipush (-2000), 3) := by decide +kernel
theorem dX3_takeStatements_118 : decode cX3_takeStatements 118 = .ok (.iload 6, 2) := by decide +kernel
theorem dX3_takeStatements_120 : decode cX3_takeStatements 120 = .ok (.isub, 1) := by decide +kernel
theorem dX3_takeStatements_121 : decode cX3_takeStatements 121 = .ok (.ireturn, 1) := by decide +kernel
theorem dX3_takeStatements_122 : decode cX3_takeStatements 122 = .ok (.iinc 4 1, 3) := by decide +kernel
theorem dX3_takeStatements_125 : decode cX3_takeStatements 125 = .ok (.iinc 5 1, 3) := by decide +kernel
theorem dX3_takeStatements_128 : decode cX3_takeStatements 128 = .ok (.goto (-87), 3) := by decide +kernel
theorem dX3_takeStatements_131 : decode cX3_takeStatements 131 = .ok (.iload 4, 2) := by decide +kernel
theorem dX3_takeStatements_133 : decode cX3_takeStatements 133 = .ok (.ireturn, 1) := by decide +kernel
theorem dX3_passStatement_0 : decode cX3_passStatement 0 = .ok (.aload_n 0, 1) := by decide +kernel
theorem dX3_passStatement_1 : decode cX3_passStatement 1 = .ok (.getfield 20, 3) := by decide +kernel
theorem dX3_passStatement_4 : decode cX3_passStatement 4 = .ok (.invokevirtual 60, 3) := by decide +kernel
theorem dX3_passStatement_7 : decode cX3_passStatement 7 = .ok (.aload_n 0, 1) := by decide +kernel
theorem dX3_passStatement_8 : decode cX3_passStatement 8 = .ok (.aload_n 0, 1) := by decide +kernel
theorem dX3_passStatement_9 : decode cX3_passStatement 9 = .ok (.getfield 9, 3) := by decide +kernel
theorem dX3_passStatement_12 : decode cX3_passStatement 12 = .ok (.getfield 32, 3) := by decide +kernel
theorem dX3_passStatement_15 : decode cX3_passStatement 15 = .ok (.aload_n 0, 1) := by decide +kernel
theorem dX3_passStatement_16 : decode cX3_passStatement 16 = .ok (.getfield 24, 3) := by decide +kernel
theorem dX3_passStatement_19 : decode cX3_passStatement 19 = .ok (.invokevirtual 63, 3) := by decide +kernel
theorem dX3_passStatement_22 : decode cX3_passStatement 22 = .ok (.putfield 67, 3) := by decide +kernel
theorem dX3_passStatement_25 : decode cX3_passStatement 25 = .ok (.aload_n 0, 1) := by decide +kernel
theorem dX3_passStatement_26 : decode cX3_passStatement 26 = .ok (.getfield 67, 3) := by decide +kernel
theorem dX3_passStatement_29 : decode cX3_passStatement 29 = .ok (.invokestatic 70, 3) := by decide +kernel
theorem dX3_passStatement_32 : decode cX3_passStatement 32 = .ok (.astore_n 1, 1) := by decide +kernel
theorem dX3_passStatement_33 : decode cX3_passStatement 33 = .ok (.aload_n 1, 1) := by decide +kernel
theorem dX3_passStatement_34 : decode cX3_passStatement 34 = .ok (.invokevirtual 74, 3) := by decide +kernel
theorem dX3_passStatement_37 : decode cX3_passStatement 37 = .ok (.ifCond .eq 5, 3) := by decide +kernel
theorem dX3_passStatement_40 : decode cX3_passStatement 40 = .ok (.iconst 0, 1) := by decide +kernel
theorem dX3_passStatement_41 : decode cX3_passStatement 41 = .ok (.ireturn, 1) := by decide +kernel
theorem dX3_passStatement_42 : decode cX3_passStatement 42 = .ok (.aload_n 0, 1) := by decide +kernel
theorem dX3_passStatement_43 : decode cX3_passStatement 43 = .ok (.dup, 1) := by decide +kernel
theorem dX3_passStatement_44 : decode cX3_passStatement 44 = .ok (.getfield 24, 3) := by decide +kernel
theorem dX3_passStatement_47 : decode cX3_passStatement 47 = .ok (.iconst 1, 1) := by decide +kernel
theorem dX3_passStatement_48 : decode cX3_passStatement 48 = .ok (.iadd, 1) := by decide +kernel
theorem dX3_passStatement_49 : decode cX3_passStatement 49 = .ok (.putfield 24, 3) := by decide +kernel
theorem dX3_passStatement_52 : decode cX3_passStatement 52 = .ok (.iconst 0, 1) := by decide +kernel
theorem dX3_passStatement_53 : decode cX3_passStatement 53 = .ok (.istore_n 2, 1) := by decide +kernel
theorem dX3_passStatement_54 : decode cX3_passStatement 54 = .ok (.iload_n 2, 1) := by decide +kernel
theorem dX3_passStatement_55 : decode cX3_passStatement 55 = .ok (.aload_n 1, 1) := by decide +kernel
theorem dX3_passStatement_56 : decode cX3_passStatement 56 = .ok (.invokevirtual 79, 3) := by decide +kernel
theorem dX3_passStatement_59 : decode cX3_passStatement 59 = .ok (.if_icmp .ge 23, 3) := by decide +kernel
theorem dX3_passStatement_62 : decode cX3_passStatement 62 = .ok (.aload_n 0, 1) := by decide +kernel
theorem dX3_passStatement_63 : decode cX3_passStatement 63 = .ok (.aload_n 1, 1) := by decide +kernel
theorem dX3_passStatement_64 : decode cX3_passStatement 64 = .ok (.iload_n 2, 1) := by decide +kernel
theorem dX3_passStatement_65 : decode cX3_passStatement 65 = .ok (.invokevirtual 83, 3) := by decide +kernel
theorem dX3_passStatement_68 : decode cX3_passStatement 68 = .ok (.invokevirtual 87, 3) := by decide +kernel
theorem dX3_passStatement_71 : decode cX3_passStatement 71 = .ok (.ifCond .ne 5, 3) := by decide +kernel
theorem dX3_passStatement_74 : decode cX3_passStatement 74 = .ok (.iconst 0, 1) := by decide +kernel
theorem dX3_passStatement_75 : decode cX3_passStatement 75 = .ok (.ireturn, 1) := by decide +kernel
theorem dX3_passStatement_76 : decode cX3_passStatement 76 = .ok (.iinc 2 1, 3) := by decide +kernel
theorem dX3_passStatement_79 : decode cX3_passStatement 79 = .ok (.goto (-25), 3) := by decide +kernel
theorem dX3_passStatement_82 : decode cX3_passStatement 82 = .ok (.iconst 1, 1) := by decide +kernel
theorem dX3_passStatement_83 : decode cX3_passStatement 83 = .ok (.ireturn, 1) := by decide +kernel
theorem dX3_shapeBehind_0 : decode cX3_shapeBehind 0 = .ok (.iload_n 0, 1) := by decide +kernel
theorem dX3_shapeBehind_1 : decode cX3_shapeBehind 1 = .ok (.lookupswitch 55 #[(100, 46), (104, 49), (110, 43), (119, 52)], 43) := by decide +kernel
theorem dX3_shapeBehind_44 : decode cX3_shapeBehind 44 = .ok (.ldc 91, 2) := by decide +kernel
theorem dX3_shapeBehind_46 : decode cX3_shapeBehind 46 = .ok (.areturn, 1) := by decide +kernel
theorem dX3_shapeBehind_47 : decode cX3_shapeBehind 47 = .ok (.ldc 93, 2) := by decide +kernel
theorem dX3_shapeBehind_49 : decode cX3_shapeBehind 49 = .ok (.areturn, 1) := by decide +kernel
theorem dX3_shapeBehind_50 : decode cX3_shapeBehind 50 = .ok (.ldc 95, 2) := by decide +kernel
theorem dX3_shapeBehind_52 : decode cX3_shapeBehind 52 = .ok (.areturn, 1) := by decide +kernel
theorem dX3_shapeBehind_53 : decode cX3_shapeBehind 53 = .ok (.ldc 97, 2) := by decide +kernel
theorem dX3_shapeBehind_55 : decode cX3_shapeBehind 55 = .ok (.areturn, 1) := by decide +kernel
theorem dX3_shapeBehind_56 : decode cX3_shapeBehind 56 = .ok (.ldc 99, 2) := by decide +kernel
theorem dX3_shapeBehind_58 : decode cX3_shapeBehind 58 = .ok (.areturn, 1) := by decide +kernel
theorem dX3_passPart_0 : decode cX3_passPart 0 = .ok (.iload_n 1, 1) := by decide +kernel
theorem dX3_passPart_1 : decode cX3_passPart 1 = .ok (.lookupswitch 52 #[(35, 41), (57, 35), (107, 47)], 35) := by decide +kernel
theorem dX3_passPart_36 : decode cX3_passPart 36 = .ok (.aload_n 0, 1) := by decide +kernel
theorem dX3_passPart_37 : decode cX3_passPart 37 = .ok (.iconst 1, 1) := by decide +kernel
theorem dX3_passPart_38 : decode cX3_passPart 38 = .ok (.invokevirtual 101, 3) := by decide +kernel
theorem dX3_passPart_41 : decode cX3_passPart 41 = .ok (.ireturn, 1) := by decide +kernel
theorem dX3_passPart_42 : decode cX3_passPart 42 = .ok (.aload_n 0, 1) := by decide +kernel
theorem dX3_passPart_43 : decode cX3_passPart 43 = .ok (.iconst 2, 1) := by decide +kernel
theorem dX3_passPart_44 : decode cX3_passPart 44 = .ok (.invokevirtual 101, 3) := by decide +kernel
theorem dX3_passPart_47 : decode cX3_passPart 47 = .ok (.ireturn, 1) := by decide +kernel
theorem dX3_passPart_48 : decode cX3_passPart 48 = .ok (.aload_n 0, 1) := by decide +kernel
theorem dX3_passPart_49 : decode cX3_passPart 49 = .ok (.invokevirtual 105, 3) := by decide +kernel
theorem dX3_passPart_52 : decode cX3_passPart 52 = .ok (.ireturn, 1) := by decide +kernel
theorem dX3_passPart_53 : decode cX3_passPart 53 = .ok (.aload_n 0, 1) := by decide +kernel
theorem dX3_passPart_54 : decode cX3_passPart 54 = .ok (.iload_n 1, 1) := by decide +kernel
theorem dX3_passPart_55 : decode cX3_passPart 55 = .ok (.invokevirtual 108, 3) := by decide +kernel
theorem dX3_passPart_58 : decode cX3_passPart 58 = .ok (.ireturn, 1) := by decide +kernel
theorem dX3_passNumber_0 : decode cX3_passNumber 0 = .ok (.iconst 0, 1) := by decide +kernel
theorem dX3_passNumber_1 : decode cX3_passNumber 1 = .ok (.istore_n 2, 1) := by decide +kernel
theorem dX3_passNumber_2 : decode cX3_passNumber 2 = .ok (.iconst 0, 1) := by decide +kernel
theorem dX3_passNumber_3 : decode cX3_passNumber 3 = .ok (.istore_n 3, 1) := by decide +kernel
theorem dX3_passNumber_4 : decode cX3_passNumber 4 = .ok (.iconst 0, 1) := by decide +kernel
theorem dX3_passNumber_5 : decode cX3_passNumber 5 = .ok (.istore 4, 2) := by decide +kernel
theorem dX3_passNumber_7 : decode cX3_passNumber 7 = .ok (.iload 4, 2) := by decide +kernel
theorem dX3_passNumber_9 : decode cX3_passNumber 9 = .ok (.iload_n 1, 1) := by decide +kernel
theorem dX3_passNumber_10 : decode cX3_passNumber 10 = .ok (.if_icmp .ge 66, 3) := by decide +kernel
theorem dX3_passNumber_13 : decode cX3_passNumber 13 = .ok (.aload_n 0, 1) := by decide +kernel
theorem dX3_passNumber_14 : decode cX3_passNumber 14 = .ok (.getfield 9, 3) := by decide +kernel
theorem dX3_passNumber_17 : decode cX3_passNumber 17 = .ok (.getfield 32, 3) := by decide +kernel
theorem dX3_passNumber_20 : decode cX3_passNumber 20 = .ok (.aload_n 0, 1) := by decide +kernel
theorem dX3_passNumber_21 : decode cX3_passNumber 21 = .ok (.getfield 24, 3) := by decide +kernel
theorem dX3_passNumber_24 : decode cX3_passNumber 24 = .ok (.invokevirtual 63, 3) := by decide +kernel
theorem dX3_passNumber_27 : decode cX3_passNumber 27 = .ok (.istore 5, 2) := by decide +kernel
theorem dX3_passNumber_29 : decode cX3_passNumber 29 = .ok (.iload 5, 2) := by decide +kernel
theorem dX3_passNumber_31 : decode cX3_passNumber 31 = .ok (.bipush 48, 2) := by decide +kernel
theorem dX3_passNumber_33 : decode cX3_passNumber 33 = .ok (.if_icmp .lt 43, 3) := by decide +kernel
theorem dX3_passNumber_36 : decode cX3_passNumber 36 = .ok (.iload 5, 2) := by decide +kernel
theorem dX3_passNumber_38 : decode cX3_passNumber 38 = .ok (.bipush 57, 2) := by decide +kernel
theorem dX3_passNumber_40 : decode cX3_passNumber 40 = .ok (.if_icmp .le 6, 3) := by decide +kernel
theorem dX3_passNumber_43 : decode cX3_passNumber 43 = .ok (.goto 33, 3) := by decide +kernel
theorem dX3_passNumber_46 : decode cX3_passNumber 46 = .ok (.bipush 10, 2) := by decide +kernel
theorem dX3_passNumber_48 : decode cX3_passNumber 48 = .ok (.iload_n 2, 1) := by decide +kernel
theorem dX3_passNumber_49 : decode cX3_passNumber 49 = .ok (.imul, 1) := by decide +kernel
theorem dX3_passNumber_50 : decode cX3_passNumber 50 = .ok (.iload 5, 2) := by decide +kernel
theorem dX3_passNumber_52 : decode cX3_passNumber 52 = .ok (.iadd, 1) := by decide +kernel
theorem dX3_passNumber_53 : decode cX3_passNumber 53 = .ok (.bipush 48, 2) := by decide +kernel
theorem dX3_passNumber_55 : decode cX3_passNumber 55 = .ok (.isub, 1) := by decide +kernel
theorem dX3_passNumber_56 : decode cX3_passNumber 56 = .ok (.istore_n 2, 1) := by decide +kernel
theorem dX3_passNumber_57 : decode cX3_passNumber 57 = .ok (.iinc 3 1, 3) := by decide +kernel
theorem dX3_passNumber_60 : decode cX3_passNumber 60 = .ok (.aload_n 0, 1) := by decide +kernel
theorem dX3_passNumber_61 : decode cX3_passNumber 61 = .ok (.dup, 1) := by decide +kernel
theorem dX3_passNumber_62 : decode cX3_passNumber 62 = .ok (.getfield 24, 3) := by decide +kernel
theorem dX3_passNumber_65 : decode cX3_passNumber 65 = .ok (.iconst 1, 1) := by decide +kernel
theorem dX3_passNumber_66 : decode cX3_passNumber 66 = .ok (.iadd, 1) := by decide +kernel
theorem dX3_passNumber_67 : decode cX3_passNumber 67 = .ok (.putfield 24, 3) := by decide +kernel
theorem dX3_passNumber_70 : decode cX3_passNumber 70 = .ok (.iinc 4 1, 3) := by decide +kernel
theorem dX3_passNumber_73 : decode cX3_passNumber 73 = .ok (.goto (-66), 3) := by decide +kernel
theorem dX3_passNumber_76 : decode cX3_passNumber 76 = .ok (.aload_n 0, 1) := by decide +kernel
theorem dX3_passNumber_77 : decode cX3_passNumber 77 = .ok (.getfield 20, 3) := by decide +kernel
theorem dX3_passNumber_80 : decode cX3_passNumber 80 = .ok (.iload_n 2, 1) := by decide +kernel
theorem dX3_passNumber_81 : decode cX3_passNumber 81 = .ok (.invokevirtual 111, 3) := by decide +kernel
theorem dX3_passNumber_84 : decode cX3_passNumber 84 = .ok (.iload_n 3, 1) := by decide +kernel
theorem dX3_passNumber_85 : decode cX3_passNumber 85 = .ok (.ifCond .le 7, 3) := by decide +kernel
theorem dX3_passNumber_88 : decode cX3_passNumber 88 = .ok (.iconst 1, 1) := by decide +kernel
theorem dX3_passNumber_89 : decode cX3_passNumber 89 = .ok (.goto 4, 3) := by decide +kernel
theorem dX3_passNumber_92 : decode cX3_passNumber 92 = .ok (.iconst 0, 1) := by decide +kernel
theorem dX3_passNumber_93 : decode cX3_passNumber 93 = .ok (.ireturn, 1) := by decide +kernel
theorem dX3_passKind_0 : decode cX3_passKind 0 = .ok (.aload_n 0, 1) := by decide +kernel
theorem dX3_passKind_1 : decode cX3_passKind 1 = .ok (.getfield 9, 3) := by decide +kernel
theorem dX3_passKind_4 : decode cX3_passKind 4 = .ok (.getfield 32, 3) := by decide +kernel
theorem dX3_passKind_7 : decode cX3_passKind 7 = .ok (.aload_n 0, 1) := by decide +kernel
theorem dX3_passKind_8 : decode cX3_passKind 8 = .ok (.getfield 24, 3) := by decide +kernel
theorem dX3_passKind_11 : decode cX3_passKind 11 = .ok (.invokevirtual 63, 3) := by decide +kernel
theorem dX3_passKind_14 : decode cX3_passKind 14 = .ok (.istore_n 1, 1) := by decide +kernel
theorem dX3_passKind_15 : decode cX3_passKind 15 = .ok (.iload_n 1, 1) := by decide +kernel
theorem dX3_passKind_16 : decode cX3_passKind 16 = .ok (.ifCond .ge 7, 3) := by decide +kernel
theorem dX3_passKind_19 : decode cX3_passKind 19 = .ok (.iconst (-1), 1) := by decide +kernel
theorem dX3_passKind_20 : decode cX3_passKind 20 = .ok (.goto 10, 3) := by decide +kernel
theorem dX3_passKind_23 : decode cX3_passKind 23 = .ok (.ldc 114, 2) := by decide +kernel
theorem dX3_passKind_25 : decode cX3_passKind 25 = .ok (.iload_n 1, 1) := by decide +kernel
theorem dX3_passKind_26 : decode cX3_passKind 26 = .ok (.i2c, 1) := by decide +kernel
theorem dX3_passKind_27 : decode cX3_passKind 27 = .ok (.invokevirtual 116, 3) := by decide +kernel
theorem dX3_passKind_30 : decode cX3_passKind 30 = .ok (.istore_n 2, 1) := by decide +kernel
theorem dX3_passKind_31 : decode cX3_passKind 31 = .ok (.iload_n 2, 1) := by decide +kernel
theorem dX3_passKind_32 : decode cX3_passKind 32 = .ok (.ifCond .ge 5, 3) := by decide +kernel
theorem dX3_passKind_35 : decode cX3_passKind 35 = .ok (.iconst 0, 1) := by decide +kernel
theorem dX3_passKind_36 : decode cX3_passKind 36 = .ok (.ireturn, 1) := by decide +kernel
theorem dX3_passKind_37 : decode cX3_passKind 37 = .ok (.aload_n 0, 1) := by decide +kernel
theorem dX3_passKind_38 : decode cX3_passKind 38 = .ok (.getfield 20, 3) := by decide +kernel
theorem dX3_passKind_41 : decode cX3_passKind 41 = .ok (.iload_n 2, 1) := by decide +kernel
theorem dX3_passKind_42 : decode cX3_passKind 42 = .ok (.invokevirtual 111, 3) := by decide +kernel
theorem dX3_passKind_45 : decode cX3_passKind 45 = .ok (.aload_n 0, 1) := by decide +kernel
theorem dX3_passKind_46 : decode cX3_passKind 46 = .ok (.dup, 1) := by decide +kernel
theorem dX3_passKind_47 : decode cX3_passKind 47 = .ok (.getfield 24, 3) := by decide +kernel
theorem dX3_passKind_50 : decode cX3_passKind 50 = .ok (.iconst 1, 1) := by decide +kernel
theorem dX3_passKind_51 : decode cX3_passKind 51 = .ok (.iadd, 1) := by decide +kernel
theorem dX3_passKind_52 : decode cX3_passKind 52 = .ok (.putfield 24, 3) := by decide +kernel
theorem dX3_passKind_55 : decode cX3_passKind 55 = .ok (.iconst 1, 1) := by decide +kernel
theorem dX3_passKind_56 : decode cX3_passKind 56 = .ok (.ireturn, 1) := by decide +kernel
theorem dX3_passSign_0 : decode cX3_passSign 0 = .ok (.aload_n 0, 1) := by decide +kernel
theorem dX3_passSign_1 : decode cX3_passSign 1 = .ok (.getfield 9, 3) := by decide +kernel
theorem dX3_passSign_4 : decode cX3_passSign 4 = .ok (.getfield 32, 3) := by decide +kernel
theorem dX3_passSign_7 : decode cX3_passSign 7 = .ok (.aload_n 0, 1) := by decide +kernel
theorem dX3_passSign_8 : decode cX3_passSign 8 = .ok (.getfield 24, 3) := by decide +kernel
theorem dX3_passSign_11 : decode cX3_passSign 11 = .ok (.invokevirtual 63, 3) := by decide +kernel
theorem dX3_passSign_14 : decode cX3_passSign 14 = .ok (.iload_n 1, 1) := by decide +kernel
theorem dX3_passSign_15 : decode cX3_passSign 15 = .ok (.if_icmp .eq 5, 3) := by decide +kernel
theorem dX3_passSign_18 : decode cX3_passSign 18 = .ok (.iconst 0, 1) := by decide +kernel
theorem dX3_passSign_19 : decode cX3_passSign 19 = .ok (.ireturn, 1) := by decide +kernel
theorem dX3_passSign_20 : decode cX3_passSign 20 = .ok (.aload_n 0, 1) := by decide +kernel
theorem dX3_passSign_21 : decode cX3_passSign 21 = .ok (.dup, 1) := by decide +kernel
theorem dX3_passSign_22 : decode cX3_passSign 22 = .ok (.getfield 24, 3) := by decide +kernel
theorem dX3_passSign_25 : decode cX3_passSign 25 = .ok (.iconst 1, 1) := by decide +kernel
theorem dX3_passSign_26 : decode cX3_passSign 26 = .ok (.iadd, 1) := by decide +kernel
theorem dX3_passSign_27 : decode cX3_passSign 27 = .ok (.putfield 24, 3) := by decide +kernel
theorem dX3_passSign_30 : decode cX3_passSign 30 = .ok (.iconst 1, 1) := by decide +kernel
theorem dX3_passSign_31 : decode cX3_passSign 31 = .ok (.ireturn, 1) := by decide +kernel
theorem dX3_takeStatement_0 : decode cX3_takeStatement 0 = .ok (.aload_n 0, 1) := by decide +kernel
theorem dX3_takeStatement_1 : decode cX3_takeStatement 1 = .ok (.getfield 67, 3) := by decide +kernel
theorem dX3_takeStatement_4 : decode cX3_takeStatement 4 = .ok (.lookupswitch 83 #[(100, 49), (104, 78), (110, 36)], 36) := by decide +kernel
theorem dX3_takeStatement_40 : decode cX3_takeStatement 40 = .ok (.aload_n 0, 1) := by decide +kernel
theorem dX3_takeStatement_41 : decode cX3_takeStatement 41 = .ok (.aload_n 0, 1) := by decide +kernel
theorem dX3_takeStatement_42 : decode cX3_takeStatement 42 = .ok (.getfield 20, 3) := by decide +kernel
theorem dX3_takeStatement_45 : decode cX3_takeStatement 45 = .ok (.iconst 0, 1) := by decide +kernel
theorem dX3_takeStatement_46 : decode cX3_takeStatement 46 = .ok (.invokevirtual 63, 3) := by decide +kernel
theorem dX3_takeStatement_49 : decode cX3_takeStatement 49 = .ok (.invokevirtual 119, 3) := by decide +kernel
theorem dX3_takeStatement_52 : decode cX3_takeStatement 52 = .ok (.ireturn, 1) := by decide +kernel
theorem dX3_takeStatement_53 : decode cX3_takeStatement 53 = .ok (.aload_n 0, 1) := by decide +kernel
theorem dX3_takeStatement_54 : decode cX3_takeStatement 54 = .ok (.aload_n 0, 1) := by decide +kernel
theorem dX3_takeStatement_55 : decode cX3_takeStatement 55 = .ok (.getfield 20, 3) := by decide +kernel
theorem dX3_takeStatement_58 : decode cX3_takeStatement 58 = .ok (.iconst 0, 1) := by decide +kernel
theorem dX3_takeStatement_59 : decode cX3_takeStatement 59 = .ok (.invokevirtual 63, 3) := by decide +kernel
theorem dX3_takeStatement_62 : decode cX3_takeStatement 62 = .ok (.aload_n 0, 1) := by decide +kernel
theorem dX3_takeStatement_63 : decode cX3_takeStatement 63 = .ok (.getfield 20, 3) := by decide +kernel
theorem dX3_takeStatement_66 : decode cX3_takeStatement 66 = .ok (.iconst 1, 1) := by decide +kernel
theorem dX3_takeStatement_67 : decode cX3_takeStatement 67 = .ok (.invokevirtual 63, 3) := by decide +kernel
theorem dX3_takeStatement_70 : decode cX3_takeStatement 70 = .ok (.aload_n 0, 1) := by decide +kernel
theorem dX3_takeStatement_71 : decode cX3_takeStatement 71 = .ok (.getfield 20, 3) := by decide +kernel
theorem dX3_takeStatement_74 : decode cX3_takeStatement 74 = .ok (.iconst 2, 1) := by decide +kernel
theorem dX3_takeStatement_75 : decode cX3_takeStatement 75 = .ok (.invokevirtual 63, 3) := by decide +kernel
theorem dX3_takeStatement_78 : decode cX3_takeStatement 78 = .ok (.invokevirtual 122, 3) := by decide +kernel
theorem dX3_takeStatement_81 : decode cX3_takeStatement 81 = .ok (.ireturn, 1) := by decide +kernel
theorem dX3_takeStatement_82 : decode cX3_takeStatement 82 = .ok (.aload_n 0, 1) := by decide +kernel
theorem dX3_takeStatement_83 : decode cX3_takeStatement 83 = .ok (.invokevirtual 126, 3) := by decide +kernel
theorem dX3_takeStatement_86 : decode cX3_takeStatement 86 = .ok (.ireturn, 1) := by decide +kernel
theorem dX3_takeStatement_87 : decode cX3_takeStatement 87 = .ok (.aload_n 0, 1) := by decide +kernel
theorem dX3_takeStatement_88 : decode cX3_takeStatement 88 = .ok (.aload_n 0, 1) := by decide +kernel
theorem dX3_takeStatement_89 : decode cX3_takeStatement 89 = .ok (.getfield 20, 3) := by decide +kernel
theorem dX3_takeStatement_92 : decode cX3_takeStatement 92 = .ok (.iconst 0, 1) := by decide +kernel
theorem dX3_takeStatement_93 : decode cX3_takeStatement 93 = .ok (.invokevirtual 63, 3) := by decide +kernel
theorem dX3_takeStatement_96 : decode cX3_takeStatement 96 = .ok (.aload_n 0, 1) := by decide +kernel
theorem dX3_takeStatement_97 : decode cX3_takeStatement 97 = .ok (.getfield 20, 3) := by decide +kernel
theorem dX3_takeStatement_100 : decode cX3_takeStatement 100 = .ok (.iconst 1, 1) := by decide +kernel
theorem dX3_takeStatement_101 : decode cX3_takeStatement 101 = .ok (.invokevirtual 63, 3) := by decide +kernel
theorem dX3_takeStatement_104 : decode cX3_takeStatement 104 = .ok (.aload_n 0, 1) := by decide +kernel
theorem dX3_takeStatement_105 : decode cX3_takeStatement 105 = .ok (.getfield 20, 3) := by decide +kernel
theorem dX3_takeStatement_108 : decode cX3_takeStatement 108 = .ok (.iconst 2, 1) := by decide +kernel
theorem dX3_takeStatement_109 : decode cX3_takeStatement 109 = .ok (.invokevirtual 63, 3) := by decide +kernel
theorem dX3_takeStatement_112 : decode cX3_takeStatement 112 = .ok (.invokevirtual 129, 3) := by decide +kernel
theorem dX3_takeStatement_115 : decode cX3_takeStatement 115 = .ok (.ireturn, 1) := by decide +kernel
theorem dX3_takeRooms_0 : decode cX3_takeRooms 0 = .ok (.iload_n 1, 1) := by decide +kernel
theorem dX3_takeRooms_1 : decode cX3_takeRooms 1 = .ok (.iconst 1, 1) := by decide +kernel
theorem dX3_takeRooms_2 : decode cX3_takeRooms 2 = .ok (.if_icmp .lt 23, 3) := by decide +kernel
theorem dX3_takeRooms_5 : decode cX3_takeRooms 5 = .ok (.iload_n 1, 1) := by decide +kernel
theorem dX3_takeRooms_6 : decode cX3_takeRooms 6 = .ok (.bipush 6, 2) := by decide +kernel
theorem dX3_takeRooms_8 : decode cX3_takeRooms 8 = .ok (.if_icmp .gt 17, 3) := by decide +kernel
theorem dX3_takeRooms_11 : decode cX3_takeRooms 11 = .ok (.iload_n 1, 1) := by decide +kernel
theorem dX3_takeRooms_12 : decode cX3_takeRooms 12 = .ok (.aload_n 0, 1) := by decide +kernel
theorem dX3_takeRooms_13 : decode cX3_takeRooms 13 = .ok (.getfield 9, 3) := by decide +kernel
theorem dX3_takeRooms_16 : decode cX3_takeRooms 16 = .ok (.getfield 43, 3) := by decide +kernel
theorem dX3_takeRooms_19 : decode cX3_takeRooms 19 = .ok (.invokevirtual 132, 3) := by decide +kernel
theorem dX3_takeRooms_22 : decode cX3_takeRooms 22 = .ok (.if_icmp .ge 5, 3) := by decide +kernel
theorem dX3_takeRooms_25 : decode cX3_takeRooms 25 = .ok (.iconst 0, 1) := by decide +kernel
theorem dX3_takeRooms_26 : decode cX3_takeRooms 26 = .ok (.ireturn, 1) := by decide +kernel
theorem dX3_takeRooms_27 : decode cX3_takeRooms 27 = .ok (.aload_n 0, 1) := by decide +kernel
theorem dX3_takeRooms_28 : decode cX3_takeRooms 28 = .ok (.getfield 9, 3) := by decide +kernel
theorem dX3_takeRooms_31 : decode cX3_takeRooms 31 = .ok (.iload_n 1, 1) := by decide +kernel
theorem dX3_takeRooms_32 : decode cX3_takeRooms 32 = .ok (.putfield 40, 3) := by decide +kernel
theorem dX3_takeRooms_35 : decode cX3_takeRooms 35 = .ok (.iconst 1, 1) := by decide +kernel
theorem dX3_takeRooms_36 : decode cX3_takeRooms 36 = .ok (.ireturn, 1) := by decide +kernel
theorem dX3_takeDoor_0 : decode cX3_takeDoor 0 = .ok (.iload_n 1, 1) := by decide +kernel
theorem dX3_takeDoor_1 : decode cX3_takeDoor 1 = .ok (.iload_n 2, 1) := by decide +kernel
theorem dX3_takeDoor_2 : decode cX3_takeDoor 2 = .ok (.if_icmp .eq 38, 3) := by decide +kernel
theorem dX3_takeDoor_5 : decode cX3_takeDoor 5 = .ok (.iload_n 1, 1) := by decide +kernel
theorem dX3_takeDoor_6 : decode cX3_takeDoor 6 = .ok (.aload_n 0, 1) := by decide +kernel
theorem dX3_takeDoor_7 : decode cX3_takeDoor 7 = .ok (.getfield 9, 3) := by decide +kernel
theorem dX3_takeDoor_10 : decode cX3_takeDoor 10 = .ok (.getfield 40, 3) := by decide +kernel
theorem dX3_takeDoor_13 : decode cX3_takeDoor 13 = .ok (.if_icmp .ge 27, 3) := by decide +kernel
theorem dX3_takeDoor_16 : decode cX3_takeDoor 16 = .ok (.iload_n 2, 1) := by decide +kernel
theorem dX3_takeDoor_17 : decode cX3_takeDoor 17 = .ok (.aload_n 0, 1) := by decide +kernel
theorem dX3_takeDoor_18 : decode cX3_takeDoor 18 = .ok (.getfield 9, 3) := by decide +kernel
theorem dX3_takeDoor_21 : decode cX3_takeDoor 21 = .ok (.getfield 40, 3) := by decide +kernel
theorem dX3_takeDoor_24 : decode cX3_takeDoor 24 = .ok (.if_icmp .ge 16, 3) := by decide +kernel
theorem dX3_takeDoor_27 : decode cX3_takeDoor 27 = .ok (.aload_n 0, 1) := by decide +kernel
theorem dX3_takeDoor_28 : decode cX3_takeDoor 28 = .ok (.getfield 9, 3) := by decide +kernel
theorem dX3_takeDoor_31 : decode cX3_takeDoor 31 = .ok (.getfield 43, 3) := by decide +kernel
theorem dX3_takeDoor_34 : decode cX3_takeDoor 34 = .ok (.invokevirtual 135, 3) := by decide +kernel
theorem dX3_takeDoor_37 : decode cX3_takeDoor 37 = .ok (.ifCond .eq 5, 3) := by decide +kernel
theorem dX3_takeDoor_40 : decode cX3_takeDoor 40 = .ok (.iconst 0, 1) := by decide +kernel
theorem dX3_takeDoor_41 : decode cX3_takeDoor 41 = .ok (.ireturn, 1) := by decide +kernel
theorem dX3_takeDoor_42 : decode cX3_takeDoor 42 = .ok (.aload_n 0, 1) := by decide +kernel
theorem dX3_takeDoor_43 : decode cX3_takeDoor 43 = .ok (.getfield 9, 3) := by decide +kernel
theorem dX3_takeDoor_46 : decode cX3_takeDoor 46 = .ok (.getfield 43, 3) := by decide +kernel
theorem dX3_takeDoor_49 : decode cX3_takeDoor 49 = .ok (.iload_n 1, 1) := by decide +kernel
theorem dX3_takeDoor_50 : decode cX3_takeDoor 50 = .ok (.iload_n 2, 1) := by decide +kernel
theorem dX3_takeDoor_51 : decode cX3_takeDoor 51 = .ok (.bipush 7, 2) := by decide +kernel
theorem dX3_takeDoor_53 : decode cX3_takeDoor 53 = .ok (.iload_n 3, 1) := by decide +kernel
theorem dX3_takeDoor_54 : decode cX3_takeDoor 54 = .ok (.iconst 0, 1) := by decide +kernel
theorem dX3_takeDoor_55 : decode cX3_takeDoor 55 = .ok (.iconst 0, 1) := by decide +kernel
theorem dX3_takeDoor_56 : decode cX3_takeDoor 56 = .ok (.iconst 0, 1) := by decide +kernel
theorem dX3_takeDoor_57 : decode cX3_takeDoor 57 = .ok (.invokevirtual 138, 3) := by decide +kernel
theorem dX3_takeDoor_60 : decode cX3_takeDoor 60 = .ok (.iconst 1, 1) := by decide +kernel
theorem dX3_takeDoor_61 : decode cX3_takeDoor 61 = .ok (.ireturn, 1) := by decide +kernel
theorem dX3_takeHole_0 : decode cX3_takeHole 0 = .ok (.aload_n 0, 1) := by decide +kernel
theorem dX3_takeHole_1 : decode cX3_takeHole 1 = .ok (.getfield 20, 3) := by decide +kernel
theorem dX3_takeHole_4 : decode cX3_takeHole 4 = .ok (.iconst 0, 1) := by decide +kernel
theorem dX3_takeHole_5 : decode cX3_takeHole 5 = .ok (.invokevirtual 63, 3) := by decide +kernel
theorem dX3_takeHole_8 : decode cX3_takeHole 8 = .ok (.istore_n 1, 1) := by decide +kernel
theorem dX3_takeHole_9 : decode cX3_takeHole 9 = .ok (.aload_n 0, 1) := by decide +kernel
theorem dX3_takeHole_10 : decode cX3_takeHole 10 = .ok (.getfield 20, 3) := by decide +kernel
theorem dX3_takeHole_13 : decode cX3_takeHole 13 = .ok (.iconst 4, 1) := by decide +kernel
theorem dX3_takeHole_14 : decode cX3_takeHole 14 = .ok (.invokevirtual 63, 3) := by decide +kernel
theorem dX3_takeHole_17 : decode cX3_takeHole 17 = .ok (.istore_n 2, 1) := by decide +kernel
theorem dX3_takeHole_18 : decode cX3_takeHole 18 = .ok (.iload_n 1, 1) := by decide +kernel
theorem dX3_takeHole_19 : decode cX3_takeHole 19 = .ok (.aload_n 0, 1) := by decide +kernel
theorem dX3_takeHole_20 : decode cX3_takeHole 20 = .ok (.getfield 9, 3) := by decide +kernel
theorem dX3_takeHole_23 : decode cX3_takeHole 23 = .ok (.getfield 40, 3) := by decide +kernel
theorem dX3_takeHole_26 : decode cX3_takeHole 26 = .ok (.if_icmp .ge 21, 3) := by decide +kernel
theorem dX3_takeHole_29 : decode cX3_takeHole 29 = .ok (.iload_n 2, 1) := by decide +kernel
theorem dX3_takeHole_30 : decode cX3_takeHole 30 = .ok (.iconst 3, 1) := by decide +kernel
theorem dX3_takeHole_31 : decode cX3_takeHole 31 = .ok (.if_icmp .gt 16, 3) := by decide +kernel
theorem dX3_takeHole_34 : decode cX3_takeHole 34 = .ok (.aload_n 0, 1) := by decide +kernel
theorem dX3_takeHole_35 : decode cX3_takeHole 35 = .ok (.getfield 9, 3) := by decide +kernel
theorem dX3_takeHole_38 : decode cX3_takeHole 38 = .ok (.getfield 43, 3) := by decide +kernel
theorem dX3_takeHole_41 : decode cX3_takeHole 41 = .ok (.invokevirtual 135, 3) := by decide +kernel
theorem dX3_takeHole_44 : decode cX3_takeHole 44 = .ok (.ifCond .eq 5, 3) := by decide +kernel
theorem dX3_takeHole_47 : decode cX3_takeHole 47 = .ok (.iconst 0, 1) := by decide +kernel
theorem dX3_takeHole_48 : decode cX3_takeHole 48 = .ok (.ireturn, 1) := by decide +kernel
theorem dX3_takeHole_49 : decode cX3_takeHole 49 = .ok (.aload_n 0, 1) := by decide +kernel
theorem dX3_takeHole_50 : decode cX3_takeHole 50 = .ok (.getfield 9, 3) := by decide +kernel
theorem dX3_takeHole_53 : decode cX3_takeHole 53 = .ok (.getfield 43, 3) := by decide +kernel
theorem dX3_takeHole_56 : decode cX3_takeHole 56 = .ok (.iload_n 1, 1) := by decide +kernel
theorem dX3_takeHole_57 : decode cX3_takeHole 57 = .ok (.bipush (-9), 2) := by decide +kernel
theorem dX3_takeHole_59 : decode cX3_takeHole 59 = .ok (.aload_n 0, 1) := by decide +kernel
theorem dX3_takeHole_60 : decode cX3_takeHole 60 = .ok (.getfield 20, 3) := by decide +kernel
theorem dX3_takeHole_63 : decode cX3_takeHole 63 = .ok (.iconst 1, 1) := by decide +kernel
theorem dX3_takeHole_64 : decode cX3_takeHole 64 = .ok (.invokevirtual 63, 3) := by decide +kernel
theorem dX3_takeHole_67 : decode cX3_takeHole 67 = .ok (.aload_n 0, 1) := by decide +kernel
theorem dX3_takeHole_68 : decode cX3_takeHole 68 = .ok (.getfield 20, 3) := by decide +kernel
theorem dX3_takeHole_71 : decode cX3_takeHole 71 = .ok (.iconst 2, 1) := by decide +kernel
theorem dX3_takeHole_72 : decode cX3_takeHole 72 = .ok (.invokevirtual 63, 3) := by decide +kernel
theorem dX3_takeHole_75 : decode cX3_takeHole 75 = .ok (.aload_n 0, 1) := by decide +kernel
theorem dX3_takeHole_76 : decode cX3_takeHole 76 = .ok (.getfield 20, 3) := by decide +kernel
theorem dX3_takeHole_79 : decode cX3_takeHole 79 = .ok (.iconst 3, 1) := by decide +kernel
theorem dX3_takeHole_80 : decode cX3_takeHole 80 = .ok (.invokevirtual 63, 3) := by decide +kernel
theorem dX3_takeHole_83 : decode cX3_takeHole 83 = .ok (.iload_n 2, 1) := by decide +kernel
theorem dX3_takeHole_84 : decode cX3_takeHole 84 = .ok (.aload_n 0, 1) := by decide +kernel
theorem dX3_takeHole_85 : decode cX3_takeHole 85 = .ok (.getfield 20, 3) := by decide +kernel
theorem dX3_takeHole_88 : decode cX3_takeHole 88 = .ok (.iconst 5, 1) := by decide +kernel
theorem dX3_takeHole_89 : decode cX3_takeHole 89 = .ok (.invokevirtual 63, 3) := by decide +kernel
theorem dX3_takeHole_92 : decode cX3_takeHole 92 = .ok (.invokevirtual 138, 3) := by decide +kernel
theorem dX3_takeHole_95 : decode cX3_takeHole 95 = .ok (.iconst 1, 1) := by decide +kernel
theorem dX3_takeHole_96 : decode cX3_takeHole 96 = .ok (.ireturn, 1) := by decide +kernel
theorem dX3_takeWeather_0 : decode cX3_takeWeather 0 = .ok (.iload_n 1, 1) := by decide +kernel
theorem dX3_takeWeather_1 : decode cX3_takeWeather 1 = .ok (.bipush 40, 2) := by decide +kernel
theorem dX3_takeWeather_3 : decode cX3_takeWeather 3 = .ok (.if_icmp .gt 27, 3) := by decide +kernel
theorem dX3_takeWeather_6 : decode cX3_takeWeather 6 = .ok (.iload_n 2, 1) := by decide +kernel
theorem dX3_takeWeather_7 : decode cX3_takeWeather 7 = .ok (.bipush 20, 2) := by decide +kernel
theorem dX3_takeWeather_9 : decode cX3_takeWeather 9 = .ok (.if_icmp .gt 21, 3) := by decide +kernel
theorem dX3_takeWeather_12 : decode cX3_takeWeather 12 = .ok (.iload_n 3, 1) := by decide +kernel
theorem dX3_takeWeather_13 : decode cX3_takeWeather 13 = .ok (.iconst 3, 1) := by decide +kernel
theorem dX3_takeWeather_14 : decode cX3_takeWeather 14 = .ok (.if_icmp .gt 16, 3) := by decide +kernel
theorem dX3_takeWeather_17 : decode cX3_takeWeather 17 = .ok (.aload_n 0, 1) := by decide +kernel
theorem dX3_takeWeather_18 : decode cX3_takeWeather 18 = .ok (.getfield 9, 3) := by decide +kernel
theorem dX3_takeWeather_21 : decode cX3_takeWeather 21 = .ok (.getfield 50, 3) := by decide +kernel
theorem dX3_takeWeather_24 : decode cX3_takeWeather 24 = .ok (.invokevirtual 141, 3) := by decide +kernel
theorem dX3_takeWeather_27 : decode cX3_takeWeather 27 = .ok (.ifCond .eq 5, 3) := by decide +kernel
theorem dX3_takeWeather_30 : decode cX3_takeWeather 30 = .ok (.iconst 0, 1) := by decide +kernel
theorem dX3_takeWeather_31 : decode cX3_takeWeather 31 = .ok (.ireturn, 1) := by decide +kernel
theorem dX3_takeWeather_32 : decode cX3_takeWeather 32 = .ok (.aload_n 0, 1) := by decide +kernel
theorem dX3_takeWeather_33 : decode cX3_takeWeather 33 = .ok (.getfield 9, 3) := by decide +kernel
theorem dX3_takeWeather_36 : decode cX3_takeWeather 36 = .ok (.getfield 50, 3) := by decide +kernel
theorem dX3_takeWeather_39 : decode cX3_takeWeather 39 = .ok (.iload_n 1, 1) := by decide +kernel
theorem dX3_takeWeather_40 : decode cX3_takeWeather 40 = .ok (.iload_n 2, 1) := by decide +kernel
theorem dX3_takeWeather_41 : decode cX3_takeWeather 41 = .ok (.iload_n 3, 1) := by decide +kernel
theorem dX3_takeWeather_42 : decode cX3_takeWeather 42 = .ok (.invokevirtual 142, 3) := by decide +kernel
theorem dX3_takeWeather_45 : decode cX3_takeWeather 45 = .ok (.iconst 1, 1) := by decide +kernel
theorem dX3_takeWeather_46 : decode cX3_takeWeather 46 = .ok (.ireturn, 1) := by decide +kernel
theorem dX4_init_0 : decode cX4_init 0 = .ok (.aload_n 0, 1) := by decide +kernel
theorem dX4_init_1 : decode cX4_init 1 = .ok (.invokespecial 1, 3) := by decide +kernel
theorem dX4_init_4 : decode cX4_init 4 = .ok (.aload_n 0, 1) := by decide +kernel
theorem dX4_init_5 : decode cX4_init 5 = .ok (.iload_n 1, 1) := by decide +kernel
theorem dX4_init_6 : decode cX4_init 6 = .ok (.iconst 0, 1) := by decide +kernel
theorem dX4_init_7 : decode cX4_init 7 = .ok (.invokestatic 7, 3) := by decide +kernel
theorem dX4_init_10 : decode cX4_init 10 = .ok (.newarray .int, 2) := by decide +kernel
theorem dX4_init_12 : decode cX4_init 12 = .ok (.putfield 13, 3) := by decide +kernel
theorem dX4_init_15 : decode cX4_init 15 = .ok (.aload_n 0, 1) := by decide +kernel
theorem dX4_init_16 : decode cX4_init 16 = .ok (.iconst 0, 1) := by decide +kernel
theorem dX4_init_17 : decode cX4_init 17 = .ok (.putfield 19, 3) := by decide +kernel
theorem dX4_init_20 : decode cX4_init 20 = .ok (.return_, 1) := by decide +kernel
theorem dX4_isFull_0 : decode cX4_isFull 0 = .ok (.aload_n 0, 1) := by decide +kernel
theorem dX4_isFull_1 : decode cX4_isFull 1 = .ok (.getfield 19, 3) := by decide +kernel
theorem dX4_isFull_4 : decode cX4_isFull 4 = .ok (.aload_n 0, 1) := by decide +kernel
theorem dX4_isFull_5 : decode cX4_isFull 5 = .ok (.getfield 13, 3) := by decide +kernel
theorem dX4_isFull_8 : decode cX4_isFull 8 = .ok (.arraylength, 1) := by decide +kernel
theorem dX4_isFull_9 : decode cX4_isFull 9 = .ok (.if_icmp .lt 7, 3) := by decide +kernel
theorem dX4_isFull_12 : decode cX4_isFull 12 = .ok (.iconst 1, 1) := by decide +kernel
theorem dX4_isFull_13 : decode cX4_isFull 13 = .ok (.goto 4, 3) := by decide +kernel
theorem dX4_isFull_16 : decode cX4_isFull 16 = .ok (.iconst 0, 1) := by decide +kernel
theorem dX4_isFull_17 : decode cX4_isFull 17 = .ok (.ireturn, 1) := by decide +kernel
theorem dX4_add_0 : decode cX4_add 0 = .ok (.aload_n 0, 1) := by decide +kernel
theorem dX4_add_1 : decode cX4_add 1 = .ok (.invokevirtual 23, 3) := by decide +kernel
theorem dX4_add_4 : decode cX4_add 4 = .ok (.ifCond .ne 25, 3) := by decide +kernel
theorem dX4_add_7 : decode cX4_add 7 = .ok (.aload_n 0, 1) := by decide +kernel
theorem dX4_add_8 : decode cX4_add 8 = .ok (.getfield 13, 3) := by decide +kernel
theorem dX4_add_11 : decode cX4_add 11 = .ok (.aload_n 0, 1) := by decide +kernel
theorem dX4_add_12 : decode cX4_add 12 = .ok (.getfield 19, 3) := by decide +kernel
theorem dX4_add_15 : decode cX4_add 15 = .ok (.iload_n 1, 1) := by decide +kernel
theorem dX4_add_16 : decode cX4_add 16 = .ok (.invokestatic 27, 3) := by decide +kernel
theorem dX4_add_19 : decode cX4_add 19 = .ok (.aload_n 0, 1) := by decide +kernel
theorem dX4_add_20 : decode cX4_add 20 = .ok (.dup, 1) := by decide +kernel
theorem dX4_add_21 : decode cX4_add 21 = .ok (.getfield 19, 3) := by decide +kernel
theorem dX4_add_24 : decode cX4_add 24 = .ok (.iconst 1, 1) := by decide +kernel
theorem dX4_add_25 : decode cX4_add 25 = .ok (.iadd, 1) := by decide +kernel
theorem dX4_add_26 : decode cX4_add 26 = .ok (.putfield 19, 3) := by decide +kernel
theorem dX4_add_29 : decode cX4_add 29 = .ok (.return_, 1) := by decide +kernel
theorem dX4_get_0 : decode cX4_get 0 = .ok (.iload_n 1, 1) := by decide +kernel
theorem dX4_get_1 : decode cX4_get 1 = .ok (.aload_n 0, 1) := by decide +kernel
theorem dX4_get_2 : decode cX4_get 2 = .ok (.getfield 19, 3) := by decide +kernel
theorem dX4_get_5 : decode cX4_get 5 = .ok (.if_icmp .ge 14, 3) := by decide +kernel
theorem dX4_get_8 : decode cX4_get 8 = .ok (.aload_n 0, 1) := by decide +kernel
theorem dX4_get_9 : decode cX4_get 9 = .ok (.getfield 13, 3) := by decide +kernel
theorem dX4_get_12 : decode cX4_get 12 = .ok (.iload_n 1, 1) := by decide +kernel
theorem dX4_get_13 : decode cX4_get 13 = .ok (.invokestatic 33, 3) := by decide +kernel
theorem dX4_get_16 : decode cX4_get 16 = .ok (.goto 4, 3) := by decide +kernel
theorem dX4_get_19 : decode cX4_get 19 = .ok (.iconst (-1), 1) := by decide +kernel
theorem dX4_get_20 : decode cX4_get 20 = .ok (.ireturn, 1) := by decide +kernel
theorem dX4_clear_0 : decode cX4_clear 0 = .ok (.aload_n 0, 1) := by decide +kernel
theorem dX4_clear_1 : decode cX4_clear 1 = .ok (.iconst 0, 1) := by decide +kernel
theorem dX4_clear_2 : decode cX4_clear 2 = .ok (.putfield 19, 3) := by decide +kernel
theorem dX4_clear_5 : decode cX4_clear 5 = .ok (.return_, 1) := by decide +kernel
theorem dX4_become_0 : decode cX4_become 0 = .ok (.aload_n 1, 1) := by decide +kernel
theorem dX4_become_1 : decode cX4_become 1 = .ok (.getfield 13, 3) := by decide +kernel
theorem dX4_become_4 : decode cX4_become 4 = .ok (.aload_n 0, 1) := by decide +kernel
theorem dX4_become_5 : decode cX4_become 5 = .ok (.getfield 13, 3) := by decide +kernel
theorem dX4_become_8 : decode cX4_become 8 = .ok (.invokestatic 37, 3) := by decide +kernel
theorem dX4_become_11 : decode cX4_become 11 = .ok (.aload_n 0, 1) := by decide +kernel
theorem dX4_become_12 : decode cX4_become 12 = .ok (.aload_n 1, 1) := by decide +kernel
theorem dX4_become_13 : decode cX4_become 13 = .ok (.getfield 19, 3) := by decide +kernel
theorem dX4_become_16 : decode cX4_become 16 = .ok (.putfield 19, 3) := by decide +kernel
theorem dX4_become_19 : decode cX4_become 19 = .ok (.return_, 1) := by decide +kernel
theorem dX5_at_0 : decode cX5_at 0 = .ok (.iload_n 1, 1) := by decide +kernel
theorem dX5_at_1 : decode cX5_at 1 = .ok (.ifCond .lt 15, 3) := by decide +kernel
theorem dX5_at_4 : decode cX5_at 4 = .ok (.iload_n 1, 1) := by decide +kernel
theorem dX5_at_5 : decode cX5_at 5 = .ok (.aload_n 0, 1) := by decide +kernel
theorem dX5_at_6 : decode cX5_at 6 = .ok (.arraylength, 1) := by decide +kernel
theorem dX5_at_7 : decode cX5_at 7 = .ok (.if_icmp .ge 9, 3) := by decide +kernel
theorem dX5_at_10 : decode cX5_at 10 = .ok (.aload_n 0, 1) := by decide +kernel
theorem dX5_at_11 : decode cX5_at 11 = .ok (.iload_n 1, 1) := by decide +kernel
theorem dX5_at_12 : decode cX5_at 12 = .ok (.iaload, 1) := by decide +kernel
theorem dX5_at_13 : decode cX5_at 13 = .ok (.goto 4, 3) := by decide +kernel
theorem dX5_at_16 : decode cX5_at 16 = .ok (.iconst 0, 1) := by decide +kernel
theorem dX5_at_17 : decode cX5_at 17 = .ok (.ireturn, 1) := by decide +kernel
theorem dX5_put_0 : decode cX5_put 0 = .ok (.iload_n 1, 1) := by decide +kernel
theorem dX5_put_1 : decode cX5_put 1 = .ok (.ifCond .lt 13, 3) := by decide +kernel
theorem dX5_put_4 : decode cX5_put 4 = .ok (.iload_n 1, 1) := by decide +kernel
theorem dX5_put_5 : decode cX5_put 5 = .ok (.aload_n 0, 1) := by decide +kernel
theorem dX5_put_6 : decode cX5_put 6 = .ok (.arraylength, 1) := by decide +kernel
theorem dX5_put_7 : decode cX5_put 7 = .ok (.if_icmp .ge 7, 3) := by decide +kernel
theorem dX5_put_10 : decode cX5_put 10 = .ok (.aload_n 0, 1) := by decide +kernel
theorem dX5_put_11 : decode cX5_put 11 = .ok (.iload_n 1, 1) := by decide +kernel
theorem dX5_put_12 : decode cX5_put 12 = .ok (.iload_n 2, 1) := by decide +kernel
theorem dX5_put_13 : decode cX5_put 13 = .ok (.iastore, 1) := by decide +kernel
theorem dX5_put_14 : decode cX5_put 14 = .ok (.return_, 1) := by decide +kernel
theorem dX5_copy_0 : decode cX5_copy 0 = .ok (.iconst 0, 1) := by decide +kernel
theorem dX5_copy_1 : decode cX5_copy 1 = .ok (.istore_n 2, 1) := by decide +kernel
theorem dX5_copy_2 : decode cX5_copy 2 = .ok (.iload_n 2, 1) := by decide +kernel
theorem dX5_copy_3 : decode cX5_copy 3 = .ok (.aload_n 0, 1) := by decide +kernel
theorem dX5_copy_4 : decode cX5_copy 4 = .ok (.arraylength, 1) := by decide +kernel
theorem dX5_copy_5 : decode cX5_copy 5 = .ok (.if_icmp .ge 21, 3) := by decide +kernel
theorem dX5_copy_8 : decode cX5_copy 8 = .ok (.iload_n 2, 1) := by decide +kernel
theorem dX5_copy_9 : decode cX5_copy 9 = .ok (.aload_n 1, 1) := by decide +kernel
theorem dX5_copy_10 : decode cX5_copy 10 = .ok (.arraylength, 1) := by decide +kernel
theorem dX5_copy_11 : decode cX5_copy 11 = .ok (.if_icmp .ge 15, 3) := by decide +kernel
theorem dX5_copy_14 : decode cX5_copy 14 = .ok (.aload_n 1, 1) := by decide +kernel
theorem dX5_copy_15 : decode cX5_copy 15 = .ok (.iload_n 2, 1) := by decide +kernel
theorem dX5_copy_16 : decode cX5_copy 16 = .ok (.aload_n 0, 1) := by decide +kernel
theorem dX5_copy_17 : decode cX5_copy 17 = .ok (.iload_n 2, 1) := by decide +kernel
theorem dX5_copy_18 : decode cX5_copy 18 = .ok (.iaload, 1) := by decide +kernel
theorem dX5_copy_19 : decode cX5_copy 19 = .ok (.iastore, 1) := by decide +kernel
theorem dX5_copy_20 : decode cX5_copy 20 = .ok (.iinc 2 1, 3) := by decide +kernel
theorem dX5_copy_23 : decode cX5_copy 23 = .ok (.goto (-21), 3) := by decide +kernel
theorem dX5_copy_26 : decode cX5_copy 26 = .ok (.return_, 1) := by decide +kernel
theorem dX6_init_0 : decode cX6_init 0 = .ok (.aload_n 0, 1) := by decide +kernel
theorem dX6_init_1 : decode cX6_init 1 = .ok (.invokespecial 1, 3) := by decide +kernel
theorem dX6_init_4 : decode cX6_init 4 = .ok (.return_, 1) := by decide +kernel
theorem dX6_draw_0 : decode cX6_draw 0 = .ok (.aload_n 0, 1) := by decide +kernel
theorem dX6_draw_1 : decode cX6_draw 1 = .ok (.aload_n 0, 1) := by decide +kernel
theorem dX6_draw_2 : decode cX6_draw 2 = .ok (.getfield 7, 3) := by decide +kernel
theorem dX6_draw_5 : decode cX6_draw 5 = .ok (.ldc 13, 2) := by decide +kernel
theorem dX6_draw_7 : decode cX6_draw 7 = .ok (.imul, 1) := by decide +kernel
theorem dX6_draw_8 : decode cX6_draw 8 = .ok (.ldc 14, 2) := by decide +kernel
theorem dX6_draw_10 : decode cX6_draw 10 = .ok (.iadd, 1) := by decide +kernel
theorem dX6_draw_11 : decode cX6_draw 11 = .ok (.putfield 7, 3) := by decide +kernel
theorem dX6_draw_14 : decode cX6_draw 14 = .ok (.iload_n 1, 1) := by decide +kernel
theorem dX6_draw_15 : decode cX6_draw 15 = .ok (.ifCond .le 19, 3) := by decide +kernel
theorem dX6_draw_18 : decode cX6_draw 18 = .ok (.aload_n 0, 1) := by decide +kernel
theorem dX6_draw_19 : decode cX6_draw 19 = .ok (.getfield 7, 3) := by decide +kernel
theorem dX6_draw_22 : decode cX6_draw 22 = .ok (.ldc 15, 2) := by decide +kernel
theorem dX6_draw_24 : decode cX6_draw 24 = .ok (.iand, 1) := by decide +kernel
theorem dX6_draw_25 : decode cX6_draw 25 = .ok (.sipush 256, 3) := by decide +kernel
theorem dX6_draw_28 : decode cX6_draw 28 = .ok (.idiv, 1) := by decide +kernel
theorem dX6_draw_29 : decode cX6_draw 29 = .ok (.iload_n 1, 1) := by decide +kernel
theorem dX6_draw_30 : decode cX6_draw 30 = .ok (.irem, 1) := by decide +kernel
theorem dX6_draw_31 : decode cX6_draw 31 = .ok (.goto 4, 3) := by decide +kernel
theorem dX6_draw_34 : decode cX6_draw 34 = .ok (.iconst 0, 1) := by decide +kernel
theorem dX6_draw_35 : decode cX6_draw 35 = .ok (.ireturn, 1) := by decide +kernel
theorem dX7_init_0 : decode cX7_init 0 = .ok (.aload_n 0, 1) := by decide +kernel
theorem dX7_init_1 : decode cX7_init 1 = .ok (.invokespecial 3, 3) := by decide +kernel
theorem dX7_init_4 : decode cX7_init 4 = .ok (.aload_n 0, 1) := by decide +kernel
theorem dX7_init_5 : decode cX7_init 5 = .ok (.iconst 2, 1) := by decide +kernel
theorem dX7_init_6 : decode cX7_init 6 = .ok (.putfield 9, 3) := by decide +kernel
theorem dX7_init_9 : decode cX7_init 9 = .ok (.aload_n 0, 1) := by decide +kernel
theorem dX7_init_10 : decode cX7_init 10 = .ok (.new 15, 3) := by decide +kernel
theorem dX7_init_13 : decode cX7_init 13 = .ok (.dup, 1) := by decide +kernel
theorem dX7_init_14 : decode cX7_init 14 = .ok (.invokespecial 17, 3) := by decide +kernel
theorem dX7_init_17 : decode cX7_init 17 = .ok (.putfield 18, 3) := by decide +kernel
theorem dX7_init_20 : decode cX7_init 20 = .ok (.aload_n 0, 1) := by decide +kernel
theorem dX7_init_21 : decode cX7_init 21 = .ok (.new 22, 3) := by decide +kernel
theorem dX7_init_24 : decode cX7_init 24 = .ok (.dup, 1) := by decide +kernel
theorem dX7_init_25 : decode cX7_init 25 = .ok (.invokespecial 24, 3) := by decide +kernel
theorem dX7_init_28 : decode cX7_init 28 = .ok (.putfield 25, 3) := by decide +kernel
theorem dX7_init_31 : decode cX7_init 31 = .ok (.aload_n 0, 1) := by decide +kernel
theorem dX7_init_32 : decode cX7_init 32 = .ok (.new 29, 3) := by decide +kernel
theorem dX7_init_35 : decode cX7_init 35 = .ok (.dup, 1) := by decide +kernel
theorem dX7_init_36 : decode cX7_init 36 = .ok (.invokespecial 31, 3) := by decide +kernel
theorem dX7_init_39 : decode cX7_init 39 = .ok (.putfield 32, 3) := by decide +kernel
theorem dX7_init_42 : decode cX7_init 42 = .ok (.aload_n 0, 1) := by decide +kernel
theorem dX7_init_43 : decode cX7_init 43 = .ok (.getfield 32, 3) := by decide +kernel
theorem dX7_init_46 : decode cX7_init 46 = .ok (.bipush 10, 2) := by decide +kernel
theorem dX7_init_48 : decode cX7_init 48 = .ok (.putfield 36, 3) := by decide +kernel
theorem dX7_init_51 : decode cX7_init 51 = .ok (.aload_n 0, 1) := by decide +kernel
theorem dX7_init_52 : decode cX7_init 52 = .ok (.new 39, 3) := by decide +kernel
theorem dX7_init_55 : decode cX7_init 55 = .ok (.dup, 1) := by decide +kernel
theorem dX7_init_56 : decode cX7_init 56 = .ok (.bipush 80, 2) := by decide +kernel
theorem dX7_init_58 : decode cX7_init 58 = .ok (.invokespecial 41, 3) := by decide +kernel
theorem dX7_init_61 : decode cX7_init 61 = .ok (.putfield 44, 3) := by decide +kernel
theorem dX7_init_64 : decode cX7_init 64 = .ok (.aload_n 0, 1) := by decide +kernel
theorem dX7_init_65 : decode cX7_init 65 = .ok (.new 39, 3) := by decide +kernel
theorem dX7_init_68 : decode cX7_init 68 = .ok (.dup, 1) := by decide +kernel
theorem dX7_init_69 : decode cX7_init 69 = .ok (.bipush 10, 2) := by decide +kernel
theorem dX7_init_71 : decode cX7_init 71 = .ok (.invokespecial 41, 3) := by decide +kernel
theorem dX7_init_74 : decode cX7_init 74 = .ok (.putfield 48, 3) := by decide +kernel
theorem dX7_init_77 : decode cX7_init 77 = .ok (.return_, 1) := by decide +kernel
theorem dX7_become_0 : decode cX7_become 0 = .ok (.aload_n 0, 1) := by decide +kernel
theorem dX7_become_1 : decode cX7_become 1 = .ok (.aload_n 1, 1) := by decide +kernel
theorem dX7_become_2 : decode cX7_become 2 = .ok (.getfield 9, 3) := by decide +kernel
theorem dX7_become_5 : decode cX7_become 5 = .ok (.putfield 9, 3) := by decide +kernel
theorem dX7_become_8 : decode cX7_become 8 = .ok (.aload_n 0, 1) := by decide +kernel
theorem dX7_become_9 : decode cX7_become 9 = .ok (.getfield 18, 3) := by decide +kernel
theorem dX7_become_12 : decode cX7_become 12 = .ok (.aload_n 1, 1) := by decide +kernel
theorem dX7_become_13 : decode cX7_become 13 = .ok (.getfield 18, 3) := by decide +kernel
theorem dX7_become_16 : decode cX7_become 16 = .ok (.invokevirtual 51, 3) := by decide +kernel
theorem dX7_become_19 : decode cX7_become 19 = .ok (.aload_n 0, 1) := by decide +kernel
theorem dX7_become_20 : decode cX7_become 20 = .ok (.getfield 25, 3) := by decide +kernel
theorem dX7_become_23 : decode cX7_become 23 = .ok (.aload_n 1, 1) := by decide +kernel
theorem dX7_become_24 : decode cX7_become 24 = .ok (.getfield 25, 3) := by decide +kernel
theorem dX7_become_27 : decode cX7_become 27 = .ok (.invokevirtual 55, 3) := by decide +kernel
theorem dX7_become_30 : decode cX7_become 30 = .ok (.aload_n 0, 1) := by decide +kernel
theorem dX7_become_31 : decode cX7_become 31 = .ok (.getfield 32, 3) := by decide +kernel
theorem dX7_become_34 : decode cX7_become 34 = .ok (.aload_n 1, 1) := by decide +kernel
theorem dX7_become_35 : decode cX7_become 35 = .ok (.getfield 32, 3) := by decide +kernel
theorem dX7_become_38 : decode cX7_become 38 = .ok (.getfield 36, 3) := by decide +kernel
theorem dX7_become_41 : decode cX7_become 41 = .ok (.aload_n 1, 1) := by decide +kernel
theorem dX7_become_42 : decode cX7_become 42 = .ok (.getfield 32, 3) := by decide +kernel
theorem dX7_become_45 : decode cX7_become 45 = .ok (.getfield 58, 3) := by decide +kernel
theorem dX7_become_48 : decode cX7_become 48 = .ok (.aload_n 1, 1) := by decide +kernel
theorem dX7_become_49 : decode cX7_become 49 = .ok (.getfield 32, 3) := by decide +kernel
theorem dX7_become_52 : decode cX7_become 52 = .ok (.getfield 61, 3) := by decide +kernel
theorem dX7_become_55 : decode cX7_become 55 = .ok (.aload_n 1, 1) := by decide +kernel
theorem dX7_become_56 : decode cX7_become 56 = .ok (.getfield 32, 3) := by decide +kernel
theorem dX7_become_59 : decode cX7_become 59 = .ok (.getfield 64, 3) := by decide +kernel
theorem dX7_become_62 : decode cX7_become 62 = .ok (.invokevirtual 67, 3) := by decide +kernel
theorem dX7_become_65 : decode cX7_become 65 = .ok (.aload_n 0, 1) := by decide +kernel
theorem dX7_become_66 : decode cX7_become 66 = .ok (.getfield 44, 3) := by decide +kernel
theorem dX7_become_69 : decode cX7_become 69 = .ok (.aload_n 1, 1) := by decide +kernel
theorem dX7_become_70 : decode cX7_become 70 = .ok (.getfield 44, 3) := by decide +kernel
theorem dX7_become_73 : decode cX7_become 73 = .ok (.invokevirtual 70, 3) := by decide +kernel
theorem dX7_become_76 : decode cX7_become 76 = .ok (.aload_n 0, 1) := by decide +kernel
theorem dX7_become_77 : decode cX7_become 77 = .ok (.getfield 48, 3) := by decide +kernel
theorem dX7_become_80 : decode cX7_become 80 = .ok (.aload_n 1, 1) := by decide +kernel
theorem dX7_become_81 : decode cX7_become 81 = .ok (.getfield 48, 3) := by decide +kernel
theorem dX7_become_84 : decode cX7_become 84 = .ok (.invokevirtual 70, 3) := by decide +kernel
theorem dX7_become_87 : decode cX7_become 87 = .ok (.return_, 1) := by decide +kernel
theorem dX8_init_0 : decode cX8_init 0 = .ok (.aload_n 0, 1) := by decide +kernel
theorem dX8_init_1 : decode cX8_init 1 = .ok (.invokespecial 3, 3) := by decide +kernel
theorem dX8_init_4 : decode cX8_init 4 = .ok (.aload_n 0, 1) := by decide +kernel
theorem dX8_init_5 : decode cX8_init 5 = .ok (.iconst 4, 1) := by decide +kernel
theorem dX8_init_6 : decode cX8_init 6 = .ok (.newarray .int, 2) := by decide +kernel
theorem dX8_init_8 : decode cX8_init 8 = .ok (.putfield 9, 3) := by decide +kernel
theorem dX8_init_11 : decode cX8_init 11 = .ok (.aload_n 0, 1) := by decide +kernel
theorem dX8_init_12 : decode cX8_init 12 = .ok (.iconst 4, 1) := by decide +kernel
theorem dX8_init_13 : decode cX8_init 13 = .ok (.newarray .int, 2) := by decide +kernel
theorem dX8_init_15 : decode cX8_init 15 = .ok (.putfield 15, 3) := by decide +kernel
theorem dX8_init_18 : decode cX8_init 18 = .ok (.aload_n 0, 1) := by decide +kernel
theorem dX8_init_19 : decode cX8_init 19 = .ok (.iconst 4, 1) := by decide +kernel
theorem dX8_init_20 : decode cX8_init 20 = .ok (.newarray .int, 2) := by decide +kernel
theorem dX8_init_22 : decode cX8_init 22 = .ok (.putfield 18, 3) := by decide +kernel
theorem dX8_init_25 : decode cX8_init 25 = .ok (.return_, 1) := by decide +kernel
theorem dX8_isFull_0 : decode cX8_isFull 0 = .ok (.aload_n 0, 1) := by decide +kernel
theorem dX8_isFull_1 : decode cX8_isFull 1 = .ok (.getfield 21, 3) := by decide +kernel
theorem dX8_isFull_4 : decode cX8_isFull 4 = .ok (.iconst 4, 1) := by decide +kernel
theorem dX8_isFull_5 : decode cX8_isFull 5 = .ok (.if_icmp .lt 7, 3) := by decide +kernel
theorem dX8_isFull_8 : decode cX8_isFull 8 = .ok (.iconst 1, 1) := by decide +kernel
theorem dX8_isFull_9 : decode cX8_isFull 9 = .ok (.goto 4, 3) := by decide +kernel
theorem dX8_isFull_12 : decode cX8_isFull 12 = .ok (.iconst 0, 1) := by decide +kernel
theorem dX8_isFull_13 : decode cX8_isFull 13 = .ok (.ireturn, 1) := by decide +kernel
theorem dX8_add_0 : decode cX8_add 0 = .ok (.aload_n 0, 1) := by decide +kernel
theorem dX8_add_1 : decode cX8_add 1 = .ok (.invokevirtual 25, 3) := by decide +kernel
theorem dX8_add_4 : decode cX8_add 4 = .ok (.ifCond .ne 49, 3) := by decide +kernel
theorem dX8_add_7 : decode cX8_add 7 = .ok (.aload_n 0, 1) := by decide +kernel
theorem dX8_add_8 : decode cX8_add 8 = .ok (.getfield 9, 3) := by decide +kernel
theorem dX8_add_11 : decode cX8_add 11 = .ok (.aload_n 0, 1) := by decide +kernel
theorem dX8_add_12 : decode cX8_add 12 = .ok (.getfield 21, 3) := by decide +kernel
theorem dX8_add_15 : decode cX8_add 15 = .ok (.iload_n 1, 1) := by decide +kernel
theorem dX8_add_16 : decode cX8_add 16 = .ok (.invokestatic 29, 3) := by decide +kernel
theorem dX8_add_19 : decode cX8_add 19 = .ok (.aload_n 0, 1) := by decide +kernel
theorem dX8_add_20 : decode cX8_add 20 = .ok (.getfield 15, 3) := by decide +kernel
theorem dX8_add_23 : decode cX8_add 23 = .ok (.aload_n 0, 1) := by decide +kernel
theorem dX8_add_24 : decode cX8_add 24 = .ok (.getfield 21, 3) := by decide +kernel
theorem dX8_add_27 : decode cX8_add 27 = .ok (.iload_n 2, 1) := by decide +kernel
theorem dX8_add_28 : decode cX8_add 28 = .ok (.invokestatic 29, 3) := by decide +kernel
theorem dX8_add_31 : decode cX8_add 31 = .ok (.aload_n 0, 1) := by decide +kernel
theorem dX8_add_32 : decode cX8_add 32 = .ok (.getfield 18, 3) := by decide +kernel
theorem dX8_add_35 : decode cX8_add 35 = .ok (.aload_n 0, 1) := by decide +kernel
theorem dX8_add_36 : decode cX8_add 36 = .ok (.getfield 21, 3) := by decide +kernel
theorem dX8_add_39 : decode cX8_add 39 = .ok (.iload_n 3, 1) := by decide +kernel
theorem dX8_add_40 : decode cX8_add 40 = .ok (.invokestatic 29, 3) := by decide +kernel
theorem dX8_add_43 : decode cX8_add 43 = .ok (.aload_n 0, 1) := by decide +kernel
theorem dX8_add_44 : decode cX8_add 44 = .ok (.dup, 1) := by decide +kernel
theorem dX8_add_45 : decode cX8_add 45 = .ok (.getfield 21, 3) := by decide +kernel
theorem dX8_add_48 : decode cX8_add 48 = .ok (.iconst 1, 1) := by decide +kernel
theorem dX8_add_49 : decode cX8_add 49 = .ok (.iadd, 1) := by decide +kernel
theorem dX8_add_50 : decode cX8_add 50 = .ok (.putfield 21, 3) := by decide +kernel
theorem dX8_add_53 : decode cX8_add 53 = .ok (.return_, 1) := by decide +kernel
theorem dX8_become_0 : decode cX8_become 0 = .ok (.aload_n 1, 1) := by decide +kernel
theorem dX8_become_1 : decode cX8_become 1 = .ok (.getfield 9, 3) := by decide +kernel
theorem dX8_become_4 : decode cX8_become 4 = .ok (.aload_n 0, 1) := by decide +kernel
theorem dX8_become_5 : decode cX8_become 5 = .ok (.getfield 9, 3) := by decide +kernel
theorem dX8_become_8 : decode cX8_become 8 = .ok (.invokestatic 35, 3) := by decide +kernel
theorem dX8_become_11 : decode cX8_become 11 = .ok (.aload_n 1, 1) := by decide +kernel
theorem dX8_become_12 : decode cX8_become 12 = .ok (.getfield 15, 3) := by decide +kernel
theorem dX8_become_15 : decode cX8_become 15 = .ok (.aload_n 0, 1) := by decide +kernel
theorem dX8_become_16 : decode cX8_become 16 = .ok (.getfield 15, 3) := by decide +kernel
theorem dX8_become_19 : decode cX8_become 19 = .ok (.invokestatic 35, 3) := by decide +kernel
theorem dX8_become_22 : decode cX8_become 22 = .ok (.aload_n 1, 1) := by decide +kernel
theorem dX8_become_23 : decode cX8_become 23 = .ok (.getfield 18, 3) := by decide +kernel
theorem dX8_become_26 : decode cX8_become 26 = .ok (.aload_n 0, 1) := by decide +kernel
theorem dX8_become_27 : decode cX8_become 27 = .ok (.getfield 18, 3) := by decide +kernel
theorem dX8_become_30 : decode cX8_become 30 = .ok (.invokestatic 35, 3) := by decide +kernel
theorem dX8_become_33 : decode cX8_become 33 = .ok (.aload_n 0, 1) := by decide +kernel
theorem dX8_become_34 : decode cX8_become 34 = .ok (.aload_n 1, 1) := by decide +kernel
theorem dX8_become_35 : decode cX8_become 35 = .ok (.getfield 21, 3) := by decide +kernel
theorem dX8_become_38 : decode cX8_become 38 = .ok (.putfield 21, 3) := by decide +kernel
theorem dX8_become_41 : decode cX8_become 41 = .ok (.return_, 1) := by decide +kernel
end
section
theorem dX9_init_0 : decode cX9_init 0 = .ok (.aload_n 0, 1) := by decide +kernel
theorem dX9_init_1 : decode cX9_init 1 = .ok (.invokespecial 1, 3) := by decide +kernel
theorem dX9_init_4 : decode cX9_init 4 = .ok (.aload_n 0, 1) := by decide +kernel
theorem dX9_init_5 : decode cX9_init 5 = .ok (.new 7, 3) := by decide +kernel
theorem dX9_init_8 : decode cX9_init 8 = .ok (.dup, 1) := by decide +kernel
theorem dX9_init_9 : decode cX9_init 9 = .ok (.invokespecial 9, 3) := by decide +kernel
theorem dX9_init_12 : decode cX9_init 12 = .ok (.putfield 10, 3) := by decide +kernel
theorem dX9_init_15 : decode cX9_init 15 = .ok (.aload_n 0, 1) := by decide +kernel
theorem dX9_init_16 : decode cX9_init 16 = .ok (.new 7, 3) := by decide +kernel
theorem dX9_init_19 : decode cX9_init 19 = .ok (.dup, 1) := by decide +kernel
theorem dX9_init_20 : decode cX9_init 20 = .ok (.invokespecial 9, 3) := by decide +kernel
theorem dX9_init_23 : decode cX9_init 23 = .ok (.putfield 16, 3) := by decide +kernel
theorem dX9_init_26 : decode cX9_init 26 = .ok (.aload_n 0, 1) := by decide +kernel
theorem dX9_init_27 : decode cX9_init 27 = .ok (.iconst 0, 1) := by decide +kernel
theorem dX9_init_28 : decode cX9_init 28 = .ok (.putfield 19, 3) := by decide +kernel
theorem dX9_init_31 : decode cX9_init 31 = .ok (.aload_n 0, 1) := by decide +kernel
theorem dX9_init_32 : decode cX9_init 32 = .ok (.new 23, 3) := by decide +kernel
theorem dX9_init_35 : decode cX9_init 35 = .ok (.dup, 1) := by decide +kernel
theorem dX9_init_36 : decode cX9_init 36 = .ok (.aload_n 0, 1) := by decide +kernel
theorem dX9_init_37 : decode cX9_init 37 = .ok (.getfield 10, 3) := by decide +kernel
theorem dX9_init_40 : decode cX9_init 40 = .ok (.invokespecial 25, 3) := by decide +kernel
theorem dX9_init_43 : decode cX9_init 43 = .ok (.putfield 28, 3) := by decide +kernel
theorem dX9_init_46 : decode cX9_init 46 = .ok (.aload_n 0, 1) := by decide +kernel
theorem dX9_init_47 : decode cX9_init 47 = .ok (.new 32, 3) := by decide +kernel
theorem dX9_init_50 : decode cX9_init 50 = .ok (.dup, 1) := by decide +kernel
theorem dX9_init_51 : decode cX9_init 51 = .ok (.aload_n 0, 1) := by decide +kernel
theorem dX9_init_52 : decode cX9_init 52 = .ok (.getfield 10, 3) := by decide +kernel
theorem dX9_init_55 : decode cX9_init 55 = .ok (.invokespecial 34, 3) := by decide +kernel
theorem dX9_init_58 : decode cX9_init 58 = .ok (.putfield 35, 3) := by decide +kernel
theorem dX9_init_61 : decode cX9_init 61 = .ok (.aload_n 0, 1) := by decide +kernel
theorem dX9_init_62 : decode cX9_init 62 = .ok (.new 39, 3) := by decide +kernel
theorem dX9_init_65 : decode cX9_init 65 = .ok (.dup, 1) := by decide +kernel
theorem dX9_init_66 : decode cX9_init 66 = .ok (.invokespecial 41, 3) := by decide +kernel
theorem dX9_init_69 : decode cX9_init 69 = .ok (.putfield 42, 3) := by decide +kernel
theorem dX9_init_72 : decode cX9_init 72 = .ok (.aload_n 0, 1) := by decide +kernel
theorem dX9_init_73 : decode cX9_init 73 = .ok (.new 46, 3) := by decide +kernel
theorem dX9_init_76 : decode cX9_init 76 = .ok (.dup, 1) := by decide +kernel
theorem dX9_init_77 : decode cX9_init 77 = .ok (.invokespecial 48, 3) := by decide +kernel
theorem dX9_init_80 : decode cX9_init 80 = .ok (.putfield 49, 3) := by decide +kernel
theorem dX9_init_83 : decode cX9_init 83 = .ok (.aload_n 0, 1) := by decide +kernel
theorem dX9_init_84 : decode cX9_init 84 = .ok (.bipush 7, 2) := by decide +kernel
theorem dX9_init_86 : decode cX9_init 86 = .ok (.newarray .int, 2) := by decide +kernel
theorem dX9_init_88 : decode cX9_init 88 = .ok (.putfield 53, 3) := by decide +kernel
theorem dX9_init_91 : decode cX9_init 91 = .ok (.return_, 1) := by decide +kernel
theorem dX9_letter_0 : decode cX9_letter 0 = .ok (.iload_n 1, 1) := by decide +kernel
theorem dX9_letter_1 : decode cX9_letter 1 = .ok (.ifCond .ge 10, 3) := by decide +kernel
theorem dX9_letter_4 : decode cX9_letter 4 = .ok (.aload_n 0, 1) := by decide +kernel
theorem dX9_letter_5 : decode cX9_letter 5 = .ok (.bipush (-4), 2) := by decide +kernel
theorem dX9_letter_7 : decode cX9_letter 7 = .ok (.invokevirtual 57, 3) := by decide +kernel
theorem dX9_letter_10 : decode cX9_letter 10 = .ok (.ireturn, 1) := by decide +kernel
theorem dX9_letter_11 : decode cX9_letter 11 = .ok (.iload_n 1, 1) := by decide +kernel
theorem dX9_letter_12 : decode cX9_letter 12 = .ok (.sipush 255, 3) := by decide +kernel
theorem dX9_letter_15 : decode cX9_letter 15 = .ok (.if_icmp .gt 16, 3) := by decide +kernel
theorem dX9_letter_18 : decode cX9_letter 18 = .ok (.aload_n 0, 1) := by decide +kernel
theorem dX9_letter_19 : decode cX9_letter 19 = .ok (.getfield 10, 3) := by decide +kernel
theorem dX9_letter_22 : decode cX9_letter 22 = .ok (.getfield 61, 3) := by decide +kernel
theorem dX9_letter_25 : decode cX9_letter 25 = .ok (.invokevirtual 65, 3) := by decide +kernel
theorem dX9_letter_28 : decode cX9_letter 28 = .ok (.ifCond .eq 10, 3) := by decide +kernel
theorem dX9_letter_31 : decode cX9_letter 31 = .ok (.aload_n 0, 1) := by decide +kernel
theorem dX9_letter_32 : decode cX9_letter 32 = .ok (.bipush (-6), 2) := by decide +kernel
theorem dX9_letter_34 : decode cX9_letter 34 = .ok (.invokevirtual 57, 3) := by decide +kernel
theorem dX9_letter_37 : decode cX9_letter 37 = .ok (.ireturn, 1) := by decide +kernel
theorem dX9_letter_38 : decode cX9_letter 38 = .ok (.aload_n 0, 1) := by decide +kernel
theorem dX9_letter_39 : decode cX9_letter 39 = .ok (.getfield 10, 3) := by decide +kernel
theorem dX9_letter_42 : decode cX9_letter 42 = .ok (.getfield 61, 3) := by decide +kernel
theorem dX9_letter_45 : decode cX9_letter 45 = .ok (.iload_n 1, 1) := by decide +kernel
theorem dX9_letter_46 : decode cX9_letter 46 = .ok (.invokevirtual 71, 3) := by decide +kernel
theorem dX9_letter_49 : decode cX9_letter 49 = .ok (.aload_n 0, 1) := by decide +kernel
theorem dX9_letter_50 : decode cX9_letter 50 = .ok (.getfield 10, 3) := by decide +kernel
theorem dX9_letter_53 : decode cX9_letter 53 = .ok (.getfield 61, 3) := by decide +kernel
theorem dX9_letter_56 : decode cX9_letter 56 = .ok (.getfield 75, 3) := by decide +kernel
theorem dX9_letter_59 : decode cX9_letter 59 = .ok (.ireturn, 1) := by decide +kernel
theorem dX9_house_0 : decode cX9_house 0 = .ok (.aload_n 0, 1) := by decide +kernel
theorem dX9_house_1 : decode cX9_house 1 = .ok (.getfield 35, 3) := by decide +kernel
theorem dX9_house_4 : decode cX9_house 4 = .ok (.invokevirtual 79, 3) := by decide +kernel
theorem dX9_house_7 : decode cX9_house 7 = .ok (.istore_n 1, 1) := by decide +kernel
theorem dX9_house_8 : decode cX9_house 8 = .ok (.iload_n 1, 1) := by decide +kernel
theorem dX9_house_9 : decode cX9_house 9 = .ok (.ifCond .ge 7, 3) := by decide +kernel
theorem dX9_house_12 : decode cX9_house 12 = .ok (.iload_n 1, 1) := by decide +kernel
theorem dX9_house_13 : decode cX9_house 13 = .ok (.goto 10, 3) := by decide +kernel
theorem dX9_house_16 : decode cX9_house 16 = .ok (.aload_n 0, 1) := by decide +kernel
theorem dX9_house_17 : decode cX9_house 17 = .ok (.getfield 35, 3) := by decide +kernel
theorem dX9_house_20 : decode cX9_house 20 = .ok (.invokevirtual 83, 3) := by decide +kernel
theorem dX9_house_23 : decode cX9_house 23 = .ok (.istore_n 2, 1) := by decide +kernel
theorem dX9_house_24 : decode cX9_house 24 = .ok (.aload_n 0, 1) := by decide +kernel
theorem dX9_house_25 : decode cX9_house 25 = .ok (.getfield 10, 3) := by decide +kernel
theorem dX9_house_28 : decode cX9_house 28 = .ok (.getfield 61, 3) := by decide +kernel
theorem dX9_house_31 : decode cX9_house 31 = .ok (.invokevirtual 86, 3) := by decide +kernel
theorem dX9_house_34 : decode cX9_house 34 = .ok (.iload_n 2, 1) := by decide +kernel
theorem dX9_house_35 : decode cX9_house 35 = .ok (.ireturn, 1) := by decide +kernel
theorem dX9_hole_0 : decode cX9_hole 0 = .ok (.aload_n 0, 1) := by decide +kernel
theorem dX9_hole_1 : decode cX9_hole 1 = .ok (.getfield 10, 3) := by decide +kernel
theorem dX9_hole_4 : decode cX9_hole 4 = .ok (.getfield 89, 3) := by decide +kernel
theorem dX9_hole_7 : decode cX9_hole 7 = .ok (.iload_n 1, 1) := by decide +kernel
theorem dX9_hole_8 : decode cX9_hole 8 = .ok (.invokevirtual 93, 3) := by decide +kernel
theorem dX9_hole_11 : decode cX9_hole 11 = .ok (.ifCond .ne 9, 3) := by decide +kernel
theorem dX9_hole_14 : decode cX9_hole 14 = .ok (.aload_n 0, 1) := by decide +kernel
theorem dX9_hole_15 : decode cX9_hole 15 = .ok (.iconst (-1), 1) := by decide +kernel
theorem dX9_hole_16 : decode cX9_hole 16 = .ok (.invokevirtual 57, 3) := by decide +kernel
theorem dX9_hole_19 : decode cX9_hole 19 = .ok (.ireturn, 1) := by decide +kernel
theorem dX9_hole_20 : decode cX9_hole 20 = .ok (.iload_n 2, 1) := by decide +kernel
theorem dX9_hole_21 : decode cX9_hole 21 = .ok (.tableswitch 148 0 6 #[43, 58, 73, 88, 103, 118, 133], 43) := by decide +kernel
theorem dX9_hole_64 : decode cX9_hole 64 = .ok (.aload_n 0, 1) := by decide +kernel
theorem dX9_hole_65 : decode cX9_hole 65 = .ok (.getfield 10, 3) := by decide +kernel
theorem dX9_hole_68 : decode cX9_hole 68 = .ok (.getfield 89, 3) := by decide +kernel
theorem dX9_hole_71 : decode cX9_hole 71 = .ok (.getfield 99, 3) := by decide +kernel
theorem dX9_hole_74 : decode cX9_hole 74 = .ok (.iload_n 1, 1) := by decide +kernel
theorem dX9_hole_75 : decode cX9_hole 75 = .ok (.invokestatic 102, 3) := by decide +kernel
theorem dX9_hole_78 : decode cX9_hole 78 = .ok (.ireturn, 1) := by decide +kernel
theorem dX9_hole_79 : decode cX9_hole 79 = .ok (.aload_n 0, 1) := by decide +kernel
theorem dX9_hole_80 : decode cX9_hole 80 = .ok (.getfield 10, 3) := by decide +kernel
theorem dX9_hole_83 : decode cX9_hole 83 = .ok (.getfield 89, 3) := by decide +kernel
theorem dX9_hole_86 : decode cX9_hole 86 = .ok (.getfield 108, 3) := by decide +kernel
theorem dX9_hole_89 : decode cX9_hole 89 = .ok (.iload_n 1, 1) := by decide +kernel
theorem dX9_hole_90 : decode cX9_hole 90 = .ok (.invokestatic 102, 3) := by decide +kernel
theorem dX9_hole_93 : decode cX9_hole 93 = .ok (.ireturn, 1) := by decide +kernel
theorem dX9_hole_94 : decode cX9_hole 94 = .ok (.aload_n 0, 1) := by decide +kernel
theorem dX9_hole_95 : decode cX9_hole 95 = .ok (.getfield 10, 3) := by decide +kernel
theorem dX9_hole_98 : decode cX9_hole 98 = .ok (.getfield 89, 3) := by decide +kernel
theorem dX9_hole_101 : decode cX9_hole 101 = .ok (.getfield 111, 3) := by decide +kernel
theorem dX9_hole_104 : decode cX9_hole 104 = .ok (.iload_n 1, 1) := by decide +kernel
theorem dX9_hole_105 : decode cX9_hole 105 = .ok (.invokestatic 102, 3) := by decide +kernel
theorem dX9_hole_108 : decode cX9_hole 108 = .ok (.ireturn, 1) := by decide +kernel
theorem dX9_hole_109 : decode cX9_hole 109 = .ok (.aload_n 0, 1) := by decide +kernel
theorem dX9_hole_110 : decode cX9_hole 110 = .ok (.getfield 10, 3) := by decide +kernel
theorem dX9_hole_113 : decode cX9_hole 113 = .ok (.getfield 89, 3) := by decide +kernel
theorem dX9_hole_116 : decode cX9_hole 116 = .ok (.getfield 114, 3) := by decide +kernel
theorem dX9_hole_119 : decode cX9_hole 119 = .ok (.iload_n 1, 1) := by decide +kernel
theorem dX9_hole_120 : decode cX9_hole 120 = .ok (.invokestatic 102, 3) := by decide +kernel
theorem dX9_hole_123 : decode cX9_hole 123 = .ok (.ireturn, 1) := by decide +kernel
theorem dX9_hole_124 : decode cX9_hole 124 = .ok (.aload_n 0, 1) := by decide +kernel
theorem dX9_hole_125 : decode cX9_hole 125 = .ok (.getfield 10, 3) := by decide +kernel
theorem dX9_hole_128 : decode cX9_hole 128 = .ok (.getfield 89, 3) := by decide +kernel
theorem dX9_hole_131 : decode cX9_hole 131 = .ok (.getfield 117, 3) := by decide +kernel
theorem dX9_hole_134 : decode cX9_hole 134 = .ok (.iload_n 1, 1) := by decide +kernel
theorem dX9_hole_135 : decode cX9_hole 135 = .ok (.invokestatic 102, 3) := by decide +kernel
theorem dX9_hole_138 : decode cX9_hole 138 = .ok (.ireturn, 1) := by decide +kernel
theorem dX9_hole_139 : decode cX9_hole 139 = .ok (.aload_n 0, 1) := by decide +kernel
theorem dX9_hole_140 : decode cX9_hole 140 = .ok (.getfield 10, 3) := by decide +kernel
theorem dX9_hole_143 : decode cX9_hole 143 = .ok (.getfield 89, 3) := by decide +kernel
theorem dX9_hole_146 : decode cX9_hole 146 = .ok (.getfield 120, 3) := by decide +kernel
theorem dX9_hole_149 : decode cX9_hole 149 = .ok (.iload_n 1, 1) := by decide +kernel
theorem dX9_hole_150 : decode cX9_hole 150 = .ok (.invokestatic 102, 3) := by decide +kernel
theorem dX9_hole_153 : decode cX9_hole 153 = .ok (.ireturn, 1) := by decide +kernel
theorem dX9_hole_154 : decode cX9_hole 154 = .ok (.aload_n 0, 1) := by decide +kernel
theorem dX9_hole_155 : decode cX9_hole 155 = .ok (.getfield 10, 3) := by decide +kernel
theorem dX9_hole_158 : decode cX9_hole 158 = .ok (.getfield 89, 3) := by decide +kernel
theorem dX9_hole_161 : decode cX9_hole 161 = .ok (.getfield 123, 3) := by decide +kernel
theorem dX9_hole_164 : decode cX9_hole 164 = .ok (.iload_n 1, 1) := by decide +kernel
theorem dX9_hole_165 : decode cX9_hole 165 = .ok (.invokestatic 102, 3) := by decide +kernel
theorem dX9_hole_168 : decode cX9_hole 168 = .ok (.ireturn, 1) := by decide +kernel
theorem dX9_hole_169 : decode cX9_hole 169 = .ok (.aload_n 0, 1) := by decide +kernel
theorem dX9_hole_170 : decode cX9_hole 170 = .ok (.bipush (-2), 2) := by decide +kernel
theorem dX9_hole_172 : decode cX9_hole 172 = .ok (.invokevirtual 57, 3) := by decide +kernel
theorem dX9_hole_175 : decode cX9_hole 175 = .ok (.ireturn, 1) := by decide +kernel
theorem dX9_weather_0 : decode cX9_weather 0 = .ok (.iload_n 1, 1) := by decide +kernel
theorem dX9_weather_1 : decode cX9_weather 1 = .ok (.ifCond .lt 17, 3) := by decide +kernel
theorem dX9_weather_4 : decode cX9_weather 4 = .ok (.iload_n 1, 1) := by decide +kernel
theorem dX9_weather_5 : decode cX9_weather 5 = .ok (.aload_n 0, 1) := by decide +kernel
theorem dX9_weather_6 : decode cX9_weather 6 = .ok (.getfield 10, 3) := by decide +kernel
theorem dX9_weather_9 : decode cX9_weather 9 = .ok (.getfield 126, 3) := by decide +kernel
theorem dX9_weather_12 : decode cX9_weather 12 = .ok (.getfield 130, 3) := by decide +kernel
theorem dX9_weather_15 : decode cX9_weather 15 = .ok (.if_icmp .lt 9, 3) := by decide +kernel
theorem dX9_weather_18 : decode cX9_weather 18 = .ok (.aload_n 0, 1) := by decide +kernel
theorem dX9_weather_19 : decode cX9_weather 19 = .ok (.iconst (-1), 1) := by decide +kernel
theorem dX9_weather_20 : decode cX9_weather 20 = .ok (.invokevirtual 57, 3) := by decide +kernel
theorem dX9_weather_23 : decode cX9_weather 23 = .ok (.ireturn, 1) := by decide +kernel
theorem dX9_weather_24 : decode cX9_weather 24 = .ok (.iload_n 2, 1) := by decide +kernel
theorem dX9_weather_25 : decode cX9_weather 25 = .ok (.tableswitch 72 0 2 #[27, 42, 57], 27) := by decide +kernel
theorem dX9_weather_52 : decode cX9_weather 52 = .ok (.aload_n 0, 1) := by decide +kernel
theorem dX9_weather_53 : decode cX9_weather 53 = .ok (.getfield 10, 3) := by decide +kernel
theorem dX9_weather_56 : decode cX9_weather 56 = .ok (.getfield 126, 3) := by decide +kernel
theorem dX9_weather_59 : decode cX9_weather 59 = .ok (.getfield 133, 3) := by decide +kernel
theorem dX9_weather_62 : decode cX9_weather 62 = .ok (.iload_n 1, 1) := by decide +kernel
theorem dX9_weather_63 : decode cX9_weather 63 = .ok (.invokestatic 102, 3) := by decide +kernel
theorem dX9_weather_66 : decode cX9_weather 66 = .ok (.ireturn, 1) := by decide +kernel
theorem dX9_weather_67 : decode cX9_weather 67 = .ok (.aload_n 0, 1) := by decide +kernel
theorem dX9_weather_68 : decode cX9_weather 68 = .ok (.getfield 10, 3) := by decide +kernel
theorem dX9_weather_71 : decode cX9_weather 71 = .ok (.getfield 126, 3) := by decide +kernel
theorem dX9_weather_74 : decode cX9_weather 74 = .ok (.getfield 136, 3) := by decide +kernel
theorem dX9_weather_77 : decode cX9_weather 77 = .ok (.iload_n 1, 1) := by decide +kernel
theorem dX9_weather_78 : decode cX9_weather 78 = .ok (.invokestatic 102, 3) := by decide +kernel
theorem dX9_weather_81 : decode cX9_weather 81 = .ok (.ireturn, 1) := by decide +kernel
theorem dX9_weather_82 : decode cX9_weather 82 = .ok (.aload_n 0, 1) := by decide +kernel
theorem dX9_weather_83 : decode cX9_weather 83 = .ok (.getfield 10, 3) := by decide +kernel
theorem dX9_weather_86 : decode cX9_weather 86 = .ok (.getfield 126, 3) := by decide +kernel
theorem dX9_weather_89 : decode cX9_weather 89 = .ok (.getfield 139, 3) := by decide +kernel
theorem dX9_weather_92 : decode cX9_weather 92 = .ok (.iload_n 1, 1) := by decide +kernel
theorem dX9_weather_93 : decode cX9_weather 93 = .ok (.invokestatic 102, 3) := by decide +kernel
theorem dX9_weather_96 : decode cX9_weather 96 = .ok (.ireturn, 1) := by decide +kernel
theorem dX9_weather_97 : decode cX9_weather 97 = .ok (.aload_n 0, 1) := by decide +kernel
theorem dX9_weather_98 : decode cX9_weather 98 = .ok (.bipush (-2), 2) := by decide +kernel
theorem dX9_weather_100 : decode cX9_weather 100 = .ok (.invokevirtual 57, 3) := by decide +kernel
theorem dX9_weather_103 : decode cX9_weather 103 = .ok (.ireturn, 1) := by decide +kernel
theorem dX9_set_0 : decode cX9_set 0 = .ok (.iload_n 1, 1) := by decide +kernel
theorem dX9_set_1 : decode cX9_set 1 = .ok (.ifCond .lt 8, 3) := by decide +kernel
theorem dX9_set_4 : decode cX9_set 4 = .ok (.iload_n 1, 1) := by decide +kernel
theorem dX9_set_5 : decode cX9_set 5 = .ok (.iconst 2, 1) := by decide +kernel
theorem dX9_set_6 : decode cX9_set 6 = .ok (.if_icmp .le 10, 3) := by decide +kernel
theorem dX9_set_9 : decode cX9_set 9 = .ok (.aload_n 0, 1) := by decide +kernel
theorem dX9_set_10 : decode cX9_set 10 = .ok (.bipush (-2), 2) := by decide +kernel
theorem dX9_set_12 : decode cX9_set 12 = .ok (.invokevirtual 57, 3) := by decide +kernel
theorem dX9_set_15 : decode cX9_set 15 = .ok (.ireturn, 1) := by decide +kernel
theorem dX9_set_16 : decode cX9_set 16 = .ok (.iload_n 2, 1) := by decide +kernel
theorem dX9_set_17 : decode cX9_set 17 = .ok (.ifCond .ge 10, 3) := by decide +kernel
theorem dX9_set_20 : decode cX9_set 20 = .ok (.aload_n 0, 1) := by decide +kernel
theorem dX9_set_21 : decode cX9_set 21 = .ok (.bipush (-4), 2) := by decide +kernel
theorem dX9_set_23 : decode cX9_set 23 = .ok (.invokevirtual 57, 3) := by decide +kernel
theorem dX9_set_26 : decode cX9_set 26 = .ok (.ireturn, 1) := by decide +kernel
theorem dX9_set_27 : decode cX9_set 27 = .ok (.iload_n 1, 1) := by decide +kernel
theorem dX9_set_28 : decode cX9_set 28 = .ok (.ifCond .ne 8, 3) := by decide +kernel
theorem dX9_set_31 : decode cX9_set 31 = .ok (.bipush 40, 2) := by decide +kernel
theorem dX9_set_33 : decode cX9_set 33 = .ok (.goto 14, 3) := by decide +kernel
theorem dX9_set_36 : decode cX9_set 36 = .ok (.iload_n 1, 1) := by decide +kernel
theorem dX9_set_37 : decode cX9_set 37 = .ok (.iconst 1, 1) := by decide +kernel
theorem dX9_set_38 : decode cX9_set 38 = .ok (.if_icmp .ne 8, 3) := by decide +kernel
theorem dX9_set_41 : decode cX9_set 41 = .ok (.bipush 20, 2) := by decide +kernel
theorem dX9_set_43 : decode cX9_set 43 = .ok (.goto 4, 3) := by decide +kernel
theorem dX9_set_46 : decode cX9_set 46 = .ok (.iconst 3, 1) := by decide +kernel
theorem dX9_set_47 : decode cX9_set 47 = .ok (.istore_n 3, 1) := by decide +kernel
theorem dX9_set_48 : decode cX9_set 48 = .ok (.iload_n 2, 1) := by decide +kernel
theorem dX9_set_49 : decode cX9_set 49 = .ok (.iload_n 3, 1) := by decide +kernel
theorem dX9_set_50 : decode cX9_set 50 = .ok (.if_icmp .le 10, 3) := by decide +kernel
theorem dX9_set_53 : decode cX9_set 53 = .ok (.aload_n 0, 1) := by decide +kernel
theorem dX9_set_54 : decode cX9_set 54 = .ok (.bipush (-6), 2) := by decide +kernel
theorem dX9_set_56 : decode cX9_set 56 = .ok (.invokevirtual 57, 3) := by decide +kernel
theorem dX9_set_59 : decode cX9_set 59 = .ok (.ireturn, 1) := by decide +kernel
theorem dX9_set_60 : decode cX9_set 60 = .ok (.aload_n 0, 1) := by decide +kernel
theorem dX9_set_61 : decode cX9_set 61 = .ok (.iload_n 1, 1) := by decide +kernel
theorem dX9_set_62 : decode cX9_set 62 = .ok (.invokevirtual 140, 3) := by decide +kernel
theorem dX9_set_65 : decode cX9_set 65 = .ok (.istore 4, 2) := by decide +kernel
theorem dX9_set_67 : decode cX9_set 67 = .ok (.iload_n 1, 1) := by decide +kernel
theorem dX9_set_68 : decode cX9_set 68 = .ok (.ifCond .ne 17, 3) := by decide +kernel
theorem dX9_set_71 : decode cX9_set 71 = .ok (.aload_n 0, 1) := by decide +kernel
theorem dX9_set_72 : decode cX9_set 72 = .ok (.getfield 10, 3) := by decide +kernel
theorem dX9_set_75 : decode cX9_set 75 = .ok (.getfield 143, 3) := by decide +kernel
theorem dX9_set_78 : decode cX9_set 78 = .ok (.iload_n 2, 1) := by decide +kernel
theorem dX9_set_79 : decode cX9_set 79 = .ok (.putfield 146, 3) := by decide +kernel
theorem dX9_set_82 : decode cX9_set 82 = .ok (.goto 33, 3) := by decide +kernel
theorem dX9_set_85 : decode cX9_set 85 = .ok (.iload_n 1, 1) := by decide +kernel
theorem dX9_set_86 : decode cX9_set 86 = .ok (.iconst 1, 1) := by decide +kernel
theorem dX9_set_87 : decode cX9_set 87 = .ok (.if_icmp .ne 17, 3) := by decide +kernel
theorem dX9_set_90 : decode cX9_set 90 = .ok (.aload_n 0, 1) := by decide +kernel
theorem dX9_set_91 : decode cX9_set 91 = .ok (.getfield 10, 3) := by decide +kernel
theorem dX9_set_94 : decode cX9_set 94 = .ok (.getfield 143, 3) := by decide +kernel
theorem dX9_set_97 : decode cX9_set 97 = .ok (.iload_n 2, 1) := by decide +kernel
theorem dX9_set_98 : decode cX9_set 98 = .ok (.putfield 148, 3) := by decide +kernel
theorem dX9_set_101 : decode cX9_set 101 = .ok (.goto 14, 3) := by decide +kernel
theorem dX9_set_104 : decode cX9_set 104 = .ok (.aload_n 0, 1) := by decide +kernel
theorem dX9_set_105 : decode cX9_set 105 = .ok (.getfield 10, 3) := by decide +kernel
theorem dX9_set_108 : decode cX9_set 108 = .ok (.getfield 143, 3) := by decide +kernel
theorem dX9_set_111 : decode cX9_set 111 = .ok (.iload_n 2, 1) := by decide +kernel
theorem dX9_set_112 : decode cX9_set 112 = .ok (.putfield 150, 3) := by decide +kernel
theorem dX9_set_115 : decode cX9_set 115 = .ok (.iload 4, 2) := by decide +kernel
theorem dX9_set_117 : decode cX9_set 117 = .ok (.ireturn, 1) := by decide +kernel
theorem dX9_fan_0 : decode cX9_fan 0 = .ok (.iload_n 1, 1) := by decide +kernel
theorem dX9_fan_1 : decode cX9_fan 1 = .ok (.bipush (-50), 2) := by decide +kernel
theorem dX9_fan_3 : decode cX9_fan 3 = .ok (.if_icmp .ge 10, 3) := by decide +kernel
theorem dX9_fan_6 : decode cX9_fan 6 = .ok (.aload_n 0, 1) := by decide +kernel
theorem dX9_fan_7 : decode cX9_fan 7 = .ok (.bipush (-4), 2) := by decide +kernel
theorem dX9_fan_9 : decode cX9_fan 9 = .ok (.invokevirtual 57, 3) := by decide +kernel
theorem dX9_fan_12 : decode cX9_fan 12 = .ok (.ireturn, 1) := by decide +kernel
theorem dX9_fan_13 : decode cX9_fan 13 = .ok (.iload_n 1, 1) := by decide +kernel
theorem dX9_fan_14 : decode cX9_fan 14 = .ok (.bipush 50, 2) := by decide +kernel
theorem dX9_fan_16 : decode cX9_fan 16 = .ok (.if_icmp .le 10, 3) := by decide +kernel
theorem dX9_fan_19 : decode cX9_fan 19 = .ok (.aload_n 0, 1) := by decide +kernel
theorem dX9_fan_20 : decode cX9_fan 20 = .ok (.bipush (-6), 2) := by decide +kernel
theorem dX9_fan_22 : decode cX9_fan 22 = .ok (.invokevirtual 57, 3) := by decide +kernel
theorem dX9_fan_25 : decode cX9_fan 25 = .ok (.ireturn, 1) := by decide +kernel
theorem dX9_fan_26 : decode cX9_fan 26 = .ok (.aload_n 0, 1) := by decide +kernel
theorem dX9_fan_27 : decode cX9_fan 27 = .ok (.getfield 10, 3) := by decide +kernel
theorem dX9_fan_30 : decode cX9_fan 30 = .ok (.getfield 143, 3) := by decide +kernel
theorem dX9_fan_33 : decode cX9_fan 33 = .ok (.iload_n 1, 1) := by decide +kernel
theorem dX9_fan_34 : decode cX9_fan 34 = .ok (.putfield 152, 3) := by decide +kernel
theorem dX9_fan_37 : decode cX9_fan 37 = .ok (.iload_n 1, 1) := by decide +kernel
theorem dX9_fan_38 : decode cX9_fan 38 = .ok (.bipush 50, 2) := by decide +kernel
theorem dX9_fan_40 : decode cX9_fan 40 = .ok (.iadd, 1) := by decide +kernel
theorem dX9_fan_41 : decode cX9_fan 41 = .ok (.ireturn, 1) := by decide +kernel
theorem dX9_now_0 : decode cX9_now 0 = .ok (.iload_n 1, 1) := by decide +kernel
theorem dX9_now_1 : decode cX9_now 1 = .ok (.ifCond .lt 8, 3) := by decide +kernel
theorem dX9_now_4 : decode cX9_now 4 = .ok (.iload_n 1, 1) := by decide +kernel
theorem dX9_now_5 : decode cX9_now 5 = .ok (.iconst 3, 1) := by decide +kernel
theorem dX9_now_6 : decode cX9_now 6 = .ok (.if_icmp .le 10, 3) := by decide +kernel
theorem dX9_now_9 : decode cX9_now 9 = .ok (.aload_n 0, 1) := by decide +kernel
theorem dX9_now_10 : decode cX9_now 10 = .ok (.bipush (-2), 2) := by decide +kernel
theorem dX9_now_12 : decode cX9_now 12 = .ok (.invokevirtual 155, 3) := by decide +kernel
theorem dX9_now_15 : decode cX9_now 15 = .ok (.ireturn, 1) := by decide +kernel
theorem dX9_now_16 : decode cX9_now 16 = .ok (.aload_n 0, 1) := by decide +kernel
theorem dX9_now_17 : decode cX9_now 17 = .ok (.iload_n 1, 1) := by decide +kernel
theorem dX9_now_18 : decode cX9_now 18 = .ok (.invokevirtual 140, 3) := by decide +kernel
theorem dX9_now_21 : decode cX9_now 21 = .ok (.ireturn, 1) := by decide +kernel
theorem dX9_size_0 : decode cX9_size 0 = .ok (.aload_n 0, 1) := by decide +kernel
theorem dX9_size_1 : decode cX9_size 1 = .ok (.getfield 10, 3) := by decide +kernel
theorem dX9_size_4 : decode cX9_size 4 = .ok (.getfield 89, 3) := by decide +kernel
theorem dX9_size_7 : decode cX9_size 7 = .ok (.iload_n 1, 1) := by decide +kernel
theorem dX9_size_8 : decode cX9_size 8 = .ok (.invokevirtual 93, 3) := by decide +kernel
theorem dX9_size_11 : decode cX9_size 11 = .ok (.ifCond .ne 9, 3) := by decide +kernel
theorem dX9_size_14 : decode cX9_size 14 = .ok (.aload_n 0, 1) := by decide +kernel
theorem dX9_size_15 : decode cX9_size 15 = .ok (.iconst (-1), 1) := by decide +kernel
theorem dX9_size_16 : decode cX9_size 16 = .ok (.invokevirtual 57, 3) := by decide +kernel
theorem dX9_size_19 : decode cX9_size 19 = .ok (.ireturn, 1) := by decide +kernel
theorem dX9_size_20 : decode cX9_size 20 = .ok (.iload_n 2, 1) := by decide +kernel
theorem dX9_size_21 : decode cX9_size 21 = .ok (.ifCond .ge 10, 3) := by decide +kernel
theorem dX9_size_24 : decode cX9_size 24 = .ok (.aload_n 0, 1) := by decide +kernel
theorem dX9_size_25 : decode cX9_size 25 = .ok (.bipush (-4), 2) := by decide +kernel
theorem dX9_size_27 : decode cX9_size 27 = .ok (.invokevirtual 57, 3) := by decide +kernel
theorem dX9_size_30 : decode cX9_size 30 = .ok (.ireturn, 1) := by decide +kernel
theorem dX9_size_31 : decode cX9_size 31 = .ok (.iload_n 2, 1) := by decide +kernel
theorem dX9_size_32 : decode cX9_size 32 = .ok (.bipush 9, 2) := by decide +kernel
theorem dX9_size_34 : decode cX9_size 34 = .ok (.if_icmp .le 10, 3) := by decide +kernel
theorem dX9_size_37 : decode cX9_size 37 = .ok (.aload_n 0, 1) := by decide +kernel
theorem dX9_size_38 : decode cX9_size 38 = .ok (.bipush (-6), 2) := by decide +kernel
theorem dX9_size_40 : decode cX9_size 40 = .ok (.invokevirtual 57, 3) := by decide +kernel
theorem dX9_size_43 : decode cX9_size 43 = .ok (.ireturn, 1) := by decide +kernel
theorem dX9_size_44 : decode cX9_size 44 = .ok (.aload_n 0, 1) := by decide +kernel
theorem dX9_size_45 : decode cX9_size 45 = .ok (.getfield 10, 3) := by decide +kernel
theorem dX9_size_48 : decode cX9_size 48 = .ok (.getfield 89, 3) := by decide +kernel
theorem dX9_size_51 : decode cX9_size 51 = .ok (.getfield 114, 3) := by decide +kernel
theorem dX9_size_54 : decode cX9_size 54 = .ok (.iload_n 1, 1) := by decide +kernel
theorem dX9_size_55 : decode cX9_size 55 = .ok (.invokestatic 102, 3) := by decide +kernel
theorem dX9_size_58 : decode cX9_size 58 = .ok (.istore_n 3, 1) := by decide +kernel
theorem dX9_size_59 : decode cX9_size 59 = .ok (.aload_n 0, 1) := by decide +kernel
theorem dX9_size_60 : decode cX9_size 60 = .ok (.getfield 10, 3) := by decide +kernel
theorem dX9_size_63 : decode cX9_size 63 = .ok (.getfield 89, 3) := by decide +kernel
theorem dX9_size_66 : decode cX9_size 66 = .ok (.getfield 114, 3) := by decide +kernel
theorem dX9_size_69 : decode cX9_size 69 = .ok (.iload_n 1, 1) := by decide +kernel
theorem dX9_size_70 : decode cX9_size 70 = .ok (.iload_n 2, 1) := by decide +kernel
theorem dX9_size_71 : decode cX9_size 71 = .ok (.invokestatic 158, 3) := by decide +kernel
theorem dX9_size_74 : decode cX9_size 74 = .ok (.iload_n 3, 1) := by decide +kernel
theorem dX9_size_75 : decode cX9_size 75 = .ok (.ireturn, 1) := by decide +kernel
theorem dX9_outside_0 : decode cX9_outside 0 = .ok (.aload_n 0, 1) := by decide +kernel
theorem dX9_outside_1 : decode cX9_outside 1 = .ok (.getfield 10, 3) := by decide +kernel
theorem dX9_outside_4 : decode cX9_outside 4 = .ok (.getfield 89, 3) := by decide +kernel
theorem dX9_outside_7 : decode cX9_outside 7 = .ok (.iload_n 1, 1) := by decide +kernel
theorem dX9_outside_8 : decode cX9_outside 8 = .ok (.invokevirtual 93, 3) := by decide +kernel
theorem dX9_outside_11 : decode cX9_outside 11 = .ok (.ifCond .ne 9, 3) := by decide +kernel
theorem dX9_outside_14 : decode cX9_outside 14 = .ok (.aload_n 0, 1) := by decide +kernel
theorem dX9_outside_15 : decode cX9_outside 15 = .ok (.iconst (-1), 1) := by decide +kernel
theorem dX9_outside_16 : decode cX9_outside 16 = .ok (.invokevirtual 155, 3) := by decide +kernel
theorem dX9_outside_19 : decode cX9_outside 19 = .ok (.ireturn, 1) := by decide +kernel
theorem dX9_outside_20 : decode cX9_outside 20 = .ok (.aload_n 0, 1) := by decide +kernel
theorem dX9_outside_21 : decode cX9_outside 21 = .ok (.getfield 10, 3) := by decide +kernel
theorem dX9_outside_24 : decode cX9_outside 24 = .ok (.getfield 89, 3) := by decide +kernel
theorem dX9_outside_27 : decode cX9_outside 27 = .ok (.iload_n 1, 1) := by decide +kernel
theorem dX9_outside_28 : decode cX9_outside 28 = .ok (.invokevirtual 162, 3) := by decide +kernel
theorem dX9_outside_31 : decode cX9_outside 31 = .ok (.ifCond .eq 10, 3) := by decide +kernel
theorem dX9_outside_34 : decode cX9_outside 34 = .ok (.aload_n 0, 1) := by decide +kernel
theorem dX9_outside_35 : decode cX9_outside 35 = .ok (.bipush (-3), 2) := by decide +kernel
theorem dX9_outside_37 : decode cX9_outside 37 = .ok (.invokevirtual 155, 3) := by decide +kernel
theorem dX9_outside_40 : decode cX9_outside 40 = .ok (.ireturn, 1) := by decide +kernel
theorem dX9_outside_41 : decode cX9_outside 41 = .ok (.aload_n 0, 1) := by decide +kernel
theorem dX9_outside_42 : decode cX9_outside 42 = .ok (.getfield 10, 3) := by decide +kernel
theorem dX9_outside_45 : decode cX9_outside 45 = .ok (.getfield 89, 3) := by decide +kernel
theorem dX9_outside_48 : decode cX9_outside 48 = .ok (.iload_n 1, 1) := by decide +kernel
theorem dX9_outside_49 : decode cX9_outside 49 = .ok (.aload_n 0, 1) := by decide +kernel
theorem dX9_outside_50 : decode cX9_outside 50 = .ok (.getfield 10, 3) := by decide +kernel
theorem dX9_outside_53 : decode cX9_outside 53 = .ok (.getfield 143, 3) := by decide +kernel
theorem dX9_outside_56 : decode cX9_outside 56 = .ok (.invokevirtual 165, 3) := by decide +kernel
theorem dX9_outside_59 : decode cX9_outside 59 = .ok (.ireturn, 1) := by decide +kernel
theorem dX9_push_0 : decode cX9_push 0 = .ok (.iload_n 1, 1) := by decide +kernel
theorem dX9_push_1 : decode cX9_push 1 = .ok (.ifCond .lt 14, 3) := by decide +kernel
theorem dX9_push_4 : decode cX9_push 4 = .ok (.iload_n 1, 1) := by decide +kernel
theorem dX9_push_5 : decode cX9_push 5 = .ok (.aload_n 0, 1) := by decide +kernel
theorem dX9_push_6 : decode cX9_push 6 = .ok (.getfield 10, 3) := by decide +kernel
theorem dX9_push_9 : decode cX9_push 9 = .ok (.getfield 169, 3) := by decide +kernel
theorem dX9_push_12 : decode cX9_push 12 = .ok (.if_icmp .lt 9, 3) := by decide +kernel
theorem dX9_push_15 : decode cX9_push 15 = .ok (.aload_n 0, 1) := by decide +kernel
theorem dX9_push_16 : decode cX9_push 16 = .ok (.iconst (-1), 1) := by decide +kernel
theorem dX9_push_17 : decode cX9_push 17 = .ok (.invokevirtual 155, 3) := by decide +kernel
theorem dX9_push_20 : decode cX9_push 20 = .ok (.ireturn, 1) := by decide +kernel
theorem dX9_push_21 : decode cX9_push 21 = .ok (.aload_n 0, 1) := by decide +kernel
theorem dX9_push_22 : decode cX9_push 22 = .ok (.iconst 0, 1) := by decide +kernel
theorem dX9_push_23 : decode cX9_push 23 = .ok (.invokevirtual 172, 3) := by decide +kernel
theorem dX9_push_26 : decode cX9_push 26 = .ok (.aload_n 0, 1) := by decide +kernel
theorem dX9_push_27 : decode cX9_push 27 = .ok (.getfield 28, 3) := by decide +kernel
theorem dX9_push_30 : decode cX9_push 30 = .ok (.getfield 175, 3) := by decide +kernel
theorem dX9_push_33 : decode cX9_push 33 = .ok (.iload_n 1, 1) := by decide +kernel
theorem dX9_push_34 : decode cX9_push 34 = .ok (.invokestatic 102, 3) := by decide +kernel
theorem dX9_push_37 : decode cX9_push 37 = .ok (.ireturn, 1) := by decide +kernel
theorem dX9_flow_0 : decode cX9_flow 0 = .ok (.aload_n 0, 1) := by decide +kernel
theorem dX9_flow_1 : decode cX9_flow 1 = .ok (.getfield 10, 3) := by decide +kernel
theorem dX9_flow_4 : decode cX9_flow 4 = .ok (.getfield 89, 3) := by decide +kernel
theorem dX9_flow_7 : decode cX9_flow 7 = .ok (.iload_n 1, 1) := by decide +kernel
theorem dX9_flow_8 : decode cX9_flow 8 = .ok (.invokevirtual 93, 3) := by decide +kernel
theorem dX9_flow_11 : decode cX9_flow 11 = .ok (.ifCond .ne 9, 3) := by decide +kernel
theorem dX9_flow_14 : decode cX9_flow 14 = .ok (.aload_n 0, 1) := by decide +kernel
theorem dX9_flow_15 : decode cX9_flow 15 = .ok (.iconst (-1), 1) := by decide +kernel
theorem dX9_flow_16 : decode cX9_flow 16 = .ok (.invokevirtual 155, 3) := by decide +kernel
theorem dX9_flow_19 : decode cX9_flow 19 = .ok (.ireturn, 1) := by decide +kernel
theorem dX9_flow_20 : decode cX9_flow 20 = .ok (.aload_n 0, 1) := by decide +kernel
theorem dX9_flow_21 : decode cX9_flow 21 = .ok (.iconst 0, 1) := by decide +kernel
theorem dX9_flow_22 : decode cX9_flow 22 = .ok (.invokevirtual 172, 3) := by decide +kernel
theorem dX9_flow_25 : decode cX9_flow 25 = .ok (.aload_n 0, 1) := by decide +kernel
theorem dX9_flow_26 : decode cX9_flow 26 = .ok (.getfield 28, 3) := by decide +kernel
theorem dX9_flow_29 : decode cX9_flow 29 = .ok (.iload_n 1, 1) := by decide +kernel
theorem dX9_flow_30 : decode cX9_flow 30 = .ok (.invokevirtual 178, 3) := by decide +kernel
theorem dX9_flow_33 : decode cX9_flow 33 = .ok (.ireturn, 1) := by decide +kernel
theorem dX9_lean_0 : decode cX9_lean 0 = .ok (.aload_n 0, 1) := by decide +kernel
theorem dX9_lean_1 : decode cX9_lean 1 = .ok (.getfield 10, 3) := by decide +kernel
theorem dX9_lean_4 : decode cX9_lean 4 = .ok (.getfield 89, 3) := by decide +kernel
theorem dX9_lean_7 : decode cX9_lean 7 = .ok (.iload_n 1, 1) := by decide +kernel
theorem dX9_lean_8 : decode cX9_lean 8 = .ok (.invokevirtual 93, 3) := by decide +kernel
theorem dX9_lean_11 : decode cX9_lean 11 = .ok (.ifCond .ne 9, 3) := by decide +kernel
theorem dX9_lean_14 : decode cX9_lean 14 = .ok (.aload_n 0, 1) := by decide +kernel
theorem dX9_lean_15 : decode cX9_lean 15 = .ok (.iconst (-1), 1) := by decide +kernel
theorem dX9_lean_16 : decode cX9_lean 16 = .ok (.invokevirtual 57, 3) := by decide +kernel
theorem dX9_lean_19 : decode cX9_lean 19 = .ok (.ireturn, 1) := by decide +kernel
theorem dX9_lean_20 : decode cX9_lean 20 = .ok (.aload_n 0, 1) := by decide +kernel
theorem dX9_lean_21 : decode cX9_lean 21 = .ok (.iconst 0, 1) := by decide +kernel
theorem dX9_lean_22 : decode cX9_lean 22 = .ok (.invokevirtual 172, 3) := by decide +kernel
theorem dX9_lean_25 : decode cX9_lean 25 = .ok (.aload_n 0, 1) := by decide +kernel
theorem dX9_lean_26 : decode cX9_lean 26 = .ok (.iload_n 1, 1) := by decide +kernel
theorem dX9_lean_27 : decode cX9_lean 27 = .ok (.invokevirtual 181, 3) := by decide +kernel
theorem dX9_lean_30 : decode cX9_lean 30 = .ok (.ireturn, 1) := by decide +kernel
theorem dX9_coal_0 : decode cX9_coal 0 = .ok (.aload_n 0, 1) := by decide +kernel
theorem dX9_coal_1 : decode cX9_coal 1 = .ok (.iconst 0, 1) := by decide +kernel
theorem dX9_coal_2 : decode cX9_coal 2 = .ok (.invokevirtual 184, 3) := by decide +kernel
theorem dX9_coal_5 : decode cX9_coal 5 = .ok (.ireturn, 1) := by decide +kernel
theorem dX9_smokes_0 : decode cX9_smokes 0 = .ok (.aload_n 0, 1) := by decide +kernel
theorem dX9_smokes_1 : decode cX9_smokes 1 = .ok (.iconst 0, 1) := by decide +kernel
theorem dX9_smokes_2 : decode cX9_smokes 2 = .ok (.invokevirtual 172, 3) := by decide +kernel
theorem dX9_smokes_5 : decode cX9_smokes 5 = .ok (.aload_n 0, 1) := by decide +kernel
theorem dX9_smokes_6 : decode cX9_smokes 6 = .ok (.getfield 28, 3) := by decide +kernel
theorem dX9_smokes_9 : decode cX9_smokes 9 = .ok (.invokevirtual 187, 3) := by decide +kernel
theorem dX9_smokes_12 : decode cX9_smokes 12 = .ok (.ifCond .eq 7, 3) := by decide +kernel
theorem dX9_smokes_15 : decode cX9_smokes 15 = .ok (.iconst 1, 1) := by decide +kernel
theorem dX9_smokes_16 : decode cX9_smokes 16 = .ok (.goto 4, 3) := by decide +kernel
theorem dX9_smokes_19 : decode cX9_smokes 19 = .ok (.iconst 0, 1) := by decide +kernel
theorem dX9_smokes_20 : decode cX9_smokes 20 = .ok (.ireturn, 1) := by decide +kernel
theorem dX9_stopped_0 : decode cX9_stopped 0 = .ok (.iload_n 1, 1) := by decide +kernel
theorem dX9_stopped_1 : decode cX9_stopped 1 = .ok (.ifCond .lt 19, 3) := by decide +kernel
theorem dX9_stopped_4 : decode cX9_stopped 4 = .ok (.iload_n 1, 1) := by decide +kernel
theorem dX9_stopped_5 : decode cX9_stopped 5 = .ok (.iconst 1, 1) := by decide +kernel
theorem dX9_stopped_6 : decode cX9_stopped 6 = .ok (.aload_n 0, 1) := by decide +kernel
theorem dX9_stopped_7 : decode cX9_stopped 7 = .ok (.getfield 10, 3) := by decide +kernel
theorem dX9_stopped_10 : decode cX9_stopped 10 = .ok (.getfield 89, 3) := by decide +kernel
theorem dX9_stopped_13 : decode cX9_stopped 13 = .ok (.getfield 190, 3) := by decide +kernel
theorem dX9_stopped_16 : decode cX9_stopped 16 = .ok (.ishl, 1) := by decide +kernel
theorem dX9_stopped_17 : decode cX9_stopped 17 = .ok (.if_icmp .lt 9, 3) := by decide +kernel
theorem dX9_stopped_20 : decode cX9_stopped 20 = .ok (.aload_n 0, 1) := by decide +kernel
theorem dX9_stopped_21 : decode cX9_stopped 21 = .ok (.iconst (-1), 1) := by decide +kernel
theorem dX9_stopped_22 : decode cX9_stopped 22 = .ok (.invokevirtual 57, 3) := by decide +kernel
theorem dX9_stopped_25 : decode cX9_stopped 25 = .ok (.ireturn, 1) := by decide +kernel
theorem dX9_stopped_26 : decode cX9_stopped 26 = .ok (.aload_n 0, 1) := by decide +kernel
theorem dX9_stopped_27 : decode cX9_stopped 27 = .ok (.iload_n 1, 1) := by decide +kernel
theorem dX9_stopped_28 : decode cX9_stopped 28 = .ok (.invokevirtual 184, 3) := by decide +kernel
theorem dX9_stopped_31 : decode cX9_stopped 31 = .ok (.ireturn, 1) := by decide +kernel
theorem dX9_best_0 : decode cX9_best 0 = .ok (.iload_n 2, 1) := by decide +kernel
theorem dX9_best_1 : decode cX9_best 1 = .ok (.ifCond .lt 8, 3) := by decide +kernel
theorem dX9_best_4 : decode cX9_best 4 = .ok (.iload_n 2, 1) := by decide +kernel
theorem dX9_best_5 : decode cX9_best 5 = .ok (.iconst 1, 1) := by decide +kernel
theorem dX9_best_6 : decode cX9_best 6 = .ok (.if_icmp .le 10, 3) := by decide +kernel
theorem dX9_best_9 : decode cX9_best 9 = .ok (.aload_n 0, 1) := by decide +kernel
theorem dX9_best_10 : decode cX9_best 10 = .ok (.bipush (-2), 2) := by decide +kernel
theorem dX9_best_12 : decode cX9_best 12 = .ok (.invokevirtual 57, 3) := by decide +kernel
theorem dX9_best_15 : decode cX9_best 15 = .ok (.ireturn, 1) := by decide +kernel
theorem dX9_best_16 : decode cX9_best 16 = .ok (.iload_n 1, 1) := by decide +kernel
theorem dX9_best_17 : decode cX9_best 17 = .ok (.ifCond .ge 10, 3) := by decide +kernel
theorem dX9_best_20 : decode cX9_best 20 = .ok (.aload_n 0, 1) := by decide +kernel
theorem dX9_best_21 : decode cX9_best 21 = .ok (.bipush (-4), 2) := by decide +kernel
theorem dX9_best_23 : decode cX9_best 23 = .ok (.invokevirtual 57, 3) := by decide +kernel
theorem dX9_best_26 : decode cX9_best 26 = .ok (.ireturn, 1) := by decide +kernel
theorem dX9_best_27 : decode cX9_best 27 = .ok (.iload_n 1, 1) := by decide +kernel
theorem dX9_best_28 : decode cX9_best 28 = .ok (.bipush 99, 2) := by decide +kernel
theorem dX9_best_30 : decode cX9_best 30 = .ok (.if_icmp .le 10, 3) := by decide +kernel
theorem dX9_best_33 : decode cX9_best 33 = .ok (.aload_n 0, 1) := by decide +kernel
theorem dX9_best_34 : decode cX9_best 34 = .ok (.bipush (-6), 2) := by decide +kernel
theorem dX9_best_36 : decode cX9_best 36 = .ok (.invokevirtual 57, 3) := by decide +kernel
theorem dX9_best_39 : decode cX9_best 39 = .ok (.ireturn, 1) := by decide +kernel
theorem dX9_best_40 : decode cX9_best 40 = .ok (.bipush (-9), 2) := by decide +kernel
theorem dX9_best_42 : decode cX9_best 42 = .ok (.istore_n 3, 1) := by decide +kernel
theorem dX9_best_43 : decode cX9_best 43 = .ok (.bipush (-9), 2) := by decide +kernel
theorem dX9_best_45 : decode cX9_best 45 = .ok (.istore 4, 2) := by decide +kernel
theorem dX9_best_47 : decode cX9_best 47 = .ok (.iconst 1, 1) := by decide +kernel
theorem dX9_best_48 : decode cX9_best 48 = .ok (.aload_n 0, 1) := by decide +kernel
theorem dX9_best_49 : decode cX9_best 49 = .ok (.getfield 10, 3) := by decide +kernel
theorem dX9_best_52 : decode cX9_best 52 = .ok (.getfield 89, 3) := by decide +kernel
theorem dX9_best_55 : decode cX9_best 55 = .ok (.getfield 190, 3) := by decide +kernel
theorem dX9_best_58 : decode cX9_best 58 = .ok (.ishl, 1) := by decide +kernel
theorem dX9_best_59 : decode cX9_best 59 = .ok (.istore 5, 2) := by decide +kernel
theorem dX9_best_61 : decode cX9_best 61 = .ok (.iconst 0, 1) := by decide +kernel
theorem dX9_best_62 : decode cX9_best 62 = .ok (.istore 6, 2) := by decide +kernel
theorem dX9_best_64 : decode cX9_best 64 = .ok (.iload 6, 2) := by decide +kernel
theorem dX9_best_66 : decode cX9_best 66 = .ok (.iload 5, 2) := by decide +kernel
theorem dX9_best_68 : decode cX9_best 68 = .ok (.if_icmp .ge 63, 3) := by decide +kernel
theorem dX9_best_71 : decode cX9_best 71 = .ok (.aload_n 0, 1) := by decide +kernel
theorem dX9_best_72 : decode cX9_best 72 = .ok (.getfield 10, 3) := by decide +kernel
theorem dX9_best_75 : decode cX9_best 75 = .ok (.getfield 89, 3) := by decide +kernel
theorem dX9_best_78 : decode cX9_best 78 = .ok (.iload 6, 2) := by decide +kernel
theorem dX9_best_80 : decode cX9_best 80 = .ok (.iload_n 1, 1) := by decide +kernel
theorem dX9_best_81 : decode cX9_best 81 = .ok (.invokevirtual 191, 3) := by decide +kernel
theorem dX9_best_84 : decode cX9_best 84 = .ok (.ifCond .eq 41, 3) := by decide +kernel
theorem dX9_best_87 : decode cX9_best 87 = .ok (.aload_n 0, 1) := by decide +kernel
theorem dX9_best_88 : decode cX9_best 88 = .ok (.iload 6, 2) := by decide +kernel
theorem dX9_best_90 : decode cX9_best 90 = .ok (.invokevirtual 184, 3) := by decide +kernel
theorem dX9_best_93 : decode cX9_best 93 = .ok (.istore 7, 2) := by decide +kernel
theorem dX9_best_95 : decode cX9_best 95 = .ok (.aload_n 0, 1) := by decide +kernel
theorem dX9_best_96 : decode cX9_best 96 = .ok (.getfield 28, 3) := by decide +kernel
theorem dX9_best_99 : decode cX9_best 99 = .ok (.invokevirtual 187, 3) := by decide +kernel
theorem dX9_best_102 : decode cX9_best 102 = .ok (.ifCond .ne 23, 3) := by decide +kernel
theorem dX9_best_105 : decode cX9_best 105 = .ok (.iload_n 3, 1) := by decide +kernel
theorem dX9_best_106 : decode cX9_best 106 = .ok (.bipush (-9), 2) := by decide +kernel
theorem dX9_best_108 : decode cX9_best 108 = .ok (.if_icmp .eq 10, 3) := by decide +kernel
theorem dX9_best_111 : decode cX9_best 111 = .ok (.iload 7, 2) := by decide +kernel
theorem dX9_best_113 : decode cX9_best 113 = .ok (.iload 4, 2) := by decide +kernel
theorem dX9_best_115 : decode cX9_best 115 = .ok (.if_icmp .ge 10, 3) := by decide +kernel
theorem dX9_best_118 : decode cX9_best 118 = .ok (.iload 6, 2) := by decide +kernel
theorem dX9_best_120 : decode cX9_best 120 = .ok (.istore_n 3, 1) := by decide +kernel
theorem dX9_best_121 : decode cX9_best 121 = .ok (.iload 7, 2) := by decide +kernel
theorem dX9_best_123 : decode cX9_best 123 = .ok (.istore 4, 2) := by decide +kernel
theorem dX9_best_125 : decode cX9_best 125 = .ok (.iinc 6 1, 3) := by decide +kernel
theorem dX9_best_128 : decode cX9_best 128 = .ok (.goto (-64), 3) := by decide +kernel
theorem dX9_best_131 : decode cX9_best 131 = .ok (.iload_n 2, 1) := by decide +kernel
theorem dX9_best_132 : decode cX9_best 132 = .ok (.ifCond .ne 7, 3) := by decide +kernel
theorem dX9_best_135 : decode cX9_best 135 = .ok (.iload_n 3, 1) := by decide +kernel
theorem dX9_best_136 : decode cX9_best 136 = .ok (.goto 5, 3) := by decide +kernel
theorem dX9_best_139 : decode cX9_best 139 = .ok (.iload 4, 2) := by decide +kernel
theorem dX9_best_141 : decode cX9_best 141 = .ok (.ireturn, 1) := by decide +kernel
theorem dX9_pairs_0 : decode cX9_pairs 0 = .ok (.iload_n 1, 1) := by decide +kernel
theorem dX9_pairs_1 : decode cX9_pairs 1 = .ok (.ifCond .lt 8, 3) := by decide +kernel
theorem dX9_pairs_4 : decode cX9_pairs 4 = .ok (.iload_n 1, 1) := by decide +kernel
theorem dX9_pairs_5 : decode cX9_pairs 5 = .ok (.iconst 1, 1) := by decide +kernel
theorem dX9_pairs_6 : decode cX9_pairs 6 = .ok (.if_icmp .le 10, 3) := by decide +kernel
theorem dX9_pairs_9 : decode cX9_pairs 9 = .ok (.aload_n 0, 1) := by decide +kernel
theorem dX9_pairs_10 : decode cX9_pairs 10 = .ok (.bipush (-2), 2) := by decide +kernel
theorem dX9_pairs_12 : decode cX9_pairs 12 = .ok (.invokevirtual 57, 3) := by decide +kernel
theorem dX9_pairs_15 : decode cX9_pairs 15 = .ok (.ireturn, 1) := by decide +kernel
theorem dX9_pairs_16 : decode cX9_pairs 16 = .ok (.bipush (-9), 2) := by decide +kernel
theorem dX9_pairs_18 : decode cX9_pairs 18 = .ok (.istore_n 2, 1) := by decide +kernel
theorem dX9_pairs_19 : decode cX9_pairs 19 = .ok (.iconst 0, 1) := by decide +kernel
theorem dX9_pairs_20 : decode cX9_pairs 20 = .ok (.istore_n 3, 1) := by decide +kernel
theorem dX9_pairs_21 : decode cX9_pairs 21 = .ok (.aload_n 0, 1) := by decide +kernel
theorem dX9_pairs_22 : decode cX9_pairs 22 = .ok (.iconst 0, 1) := by decide +kernel
theorem dX9_pairs_23 : decode cX9_pairs 23 = .ok (.invokevirtual 184, 3) := by decide +kernel
theorem dX9_pairs_26 : decode cX9_pairs 26 = .ok (.istore 4, 2) := by decide +kernel
theorem dX9_pairs_28 : decode cX9_pairs 28 = .ok (.aload_n 0, 1) := by decide +kernel
theorem dX9_pairs_29 : decode cX9_pairs 29 = .ok (.iload 4, 2) := by decide +kernel
theorem dX9_pairs_31 : decode cX9_pairs 31 = .ok (.invokevirtual 195, 3) := by decide +kernel
theorem dX9_pairs_34 : decode cX9_pairs 34 = .ok (.istore 5, 2) := by decide +kernel
theorem dX9_pairs_36 : decode cX9_pairs 36 = .ok (.iconst 0, 1) := by decide +kernel
theorem dX9_pairs_37 : decode cX9_pairs 37 = .ok (.istore 6, 2) := by decide +kernel
theorem dX9_pairs_39 : decode cX9_pairs 39 = .ok (.iload 6, 2) := by decide +kernel
theorem dX9_pairs_41 : decode cX9_pairs 41 = .ok (.aload_n 0, 1) := by decide +kernel
theorem dX9_pairs_42 : decode cX9_pairs 42 = .ok (.getfield 10, 3) := by decide +kernel
theorem dX9_pairs_45 : decode cX9_pairs 45 = .ok (.getfield 89, 3) := by decide +kernel
theorem dX9_pairs_48 : decode cX9_pairs 48 = .ok (.getfield 190, 3) := by decide +kernel
theorem dX9_pairs_51 : decode cX9_pairs 51 = .ok (.if_icmp .ge 88, 3) := by decide +kernel
theorem dX9_pairs_54 : decode cX9_pairs 54 = .ok (.iload 6, 2) := by decide +kernel
theorem dX9_pairs_56 : decode cX9_pairs 56 = .ok (.iconst 1, 1) := by decide +kernel
theorem dX9_pairs_57 : decode cX9_pairs 57 = .ok (.iadd, 1) := by decide +kernel
theorem dX9_pairs_58 : decode cX9_pairs 58 = .ok (.istore 7, 2) := by decide +kernel
theorem dX9_pairs_60 : decode cX9_pairs 60 = .ok (.iload 7, 2) := by decide +kernel
theorem dX9_pairs_62 : decode cX9_pairs 62 = .ok (.aload_n 0, 1) := by decide +kernel
theorem dX9_pairs_63 : decode cX9_pairs 63 = .ok (.getfield 10, 3) := by decide +kernel
theorem dX9_pairs_66 : decode cX9_pairs 66 = .ok (.getfield 89, 3) := by decide +kernel
theorem dX9_pairs_69 : decode cX9_pairs 69 = .ok (.getfield 190, 3) := by decide +kernel
theorem dX9_pairs_72 : decode cX9_pairs 72 = .ok (.if_icmp .ge 61, 3) := by decide +kernel
theorem dX9_pairs_75 : decode cX9_pairs 75 = .ok (.iconst 1, 1) := by decide +kernel
theorem dX9_pairs_76 : decode cX9_pairs 76 = .ok (.iload 6, 2) := by decide +kernel
theorem dX9_pairs_78 : decode cX9_pairs 78 = .ok (.ishl, 1) := by decide +kernel
theorem dX9_pairs_79 : decode cX9_pairs 79 = .ok (.iconst 1, 1) := by decide +kernel
theorem dX9_pairs_80 : decode cX9_pairs 80 = .ok (.iload 7, 2) := by decide +kernel
theorem dX9_pairs_82 : decode cX9_pairs 82 = .ok (.ishl, 1) := by decide +kernel
theorem dX9_pairs_83 : decode cX9_pairs 83 = .ok (.ior, 1) := by decide +kernel
theorem dX9_pairs_84 : decode cX9_pairs 84 = .ok (.istore 8, 2) := by decide +kernel
theorem dX9_pairs_86 : decode cX9_pairs 86 = .ok (.iload 5, 2) := by decide +kernel
theorem dX9_pairs_88 : decode cX9_pairs 88 = .ok (.iload 8, 2) := by decide +kernel
theorem dX9_pairs_90 : decode cX9_pairs 90 = .ok (.iand, 1) := by decide +kernel
theorem dX9_pairs_91 : decode cX9_pairs 91 = .ok (.iload 8, 2) := by decide +kernel
theorem dX9_pairs_93 : decode cX9_pairs 93 = .ok (.if_icmp .ne 34, 3) := by decide +kernel
theorem dX9_pairs_96 : decode cX9_pairs 96 = .ok (.aload_n 0, 1) := by decide +kernel
theorem dX9_pairs_97 : decode cX9_pairs 97 = .ok (.iload 8, 2) := by decide +kernel
theorem dX9_pairs_99 : decode cX9_pairs 99 = .ok (.invokevirtual 184, 3) := by decide +kernel
theorem dX9_pairs_102 : decode cX9_pairs 102 = .ok (.iload 4, 2) := by decide +kernel
theorem dX9_pairs_104 : decode cX9_pairs 104 = .ok (.if_icmp .ge 23, 3) := by decide +kernel
theorem dX9_pairs_107 : decode cX9_pairs 107 = .ok (.iload_n 3, 1) := by decide +kernel
theorem dX9_pairs_108 : decode cX9_pairs 108 = .ok (.ifCond .ne 14, 3) := by decide +kernel
theorem dX9_pairs_111 : decode cX9_pairs 111 = .ok (.bipush 10, 2) := by decide +kernel
theorem dX9_pairs_113 : decode cX9_pairs 113 = .ok (.iload 6, 2) := by decide +kernel
theorem dX9_pairs_115 : decode cX9_pairs 115 = .ok (.imul, 1) := by decide +kernel
theorem dX9_pairs_116 : decode cX9_pairs 116 = .ok (.iload 7, 2) := by decide +kernel
theorem dX9_pairs_118 : decode cX9_pairs 118 = .ok (.iadd, 1) := by decide +kernel
theorem dX9_pairs_119 : decode cX9_pairs 119 = .ok (.goto 4, 3) := by decide +kernel
theorem dX9_pairs_122 : decode cX9_pairs 122 = .ok (.iload_n 2, 1) := by decide +kernel
theorem dX9_pairs_123 : decode cX9_pairs 123 = .ok (.istore_n 2, 1) := by decide +kernel
theorem dX9_pairs_124 : decode cX9_pairs 124 = .ok (.iinc 3 1, 3) := by decide +kernel
theorem dX9_pairs_127 : decode cX9_pairs 127 = .ok (.iinc 7 1, 3) := by decide +kernel
theorem dX9_pairs_130 : decode cX9_pairs 130 = .ok (.goto (-70), 3) := by decide +kernel
theorem dX9_pairs_133 : decode cX9_pairs 133 = .ok (.iinc 6 1, 3) := by decide +kernel
theorem dX9_pairs_136 : decode cX9_pairs 136 = .ok (.goto (-97), 3) := by decide +kernel
theorem dX9_pairs_139 : decode cX9_pairs 139 = .ok (.iload_n 1, 1) := by decide +kernel
theorem dX9_pairs_140 : decode cX9_pairs 140 = .ok (.ifCond .ne 7, 3) := by decide +kernel
theorem dX9_pairs_143 : decode cX9_pairs 143 = .ok (.iload_n 3, 1) := by decide +kernel
theorem dX9_pairs_144 : decode cX9_pairs 144 = .ok (.goto 4, 3) := by decide +kernel
theorem dX9_pairs_147 : decode cX9_pairs 147 = .ok (.iload_n 2, 1) := by decide +kernel
theorem dX9_pairs_148 : decode cX9_pairs 148 = .ok (.ireturn, 1) := by decide +kernel
theorem dX9_shut_0 : decode cX9_shut 0 = .ok (.aload_n 0, 1) := by decide +kernel
theorem dX9_shut_1 : decode cX9_shut 1 = .ok (.getfield 10, 3) := by decide +kernel
theorem dX9_shut_4 : decode cX9_shut 4 = .ok (.getfield 89, 3) := by decide +kernel
theorem dX9_shut_7 : decode cX9_shut 7 = .ok (.iload_n 1, 1) := by decide +kernel
theorem dX9_shut_8 : decode cX9_shut 8 = .ok (.invokevirtual 93, 3) := by decide +kernel
theorem dX9_shut_11 : decode cX9_shut 11 = .ok (.ifCond .eq 17, 3) := by decide +kernel
theorem dX9_shut_14 : decode cX9_shut 14 = .ok (.aload_n 0, 1) := by decide +kernel
theorem dX9_shut_15 : decode cX9_shut 15 = .ok (.getfield 10, 3) := by decide +kernel
theorem dX9_shut_18 : decode cX9_shut 18 = .ok (.getfield 89, 3) := by decide +kernel
theorem dX9_shut_21 : decode cX9_shut 21 = .ok (.iload_n 2, 1) := by decide +kernel
theorem dX9_shut_22 : decode cX9_shut 22 = .ok (.invokevirtual 93, 3) := by decide +kernel
theorem dX9_shut_25 : decode cX9_shut 25 = .ok (.ifCond .ne 9, 3) := by decide +kernel
theorem dX9_shut_28 : decode cX9_shut 28 = .ok (.aload_n 0, 1) := by decide +kernel
theorem dX9_shut_29 : decode cX9_shut 29 = .ok (.iconst (-1), 1) := by decide +kernel
theorem dX9_shut_30 : decode cX9_shut 30 = .ok (.invokevirtual 155, 3) := by decide +kernel
theorem dX9_shut_33 : decode cX9_shut 33 = .ok (.ireturn, 1) := by decide +kernel
theorem dX9_shut_34 : decode cX9_shut 34 = .ok (.aload_n 0, 1) := by decide +kernel
theorem dX9_shut_35 : decode cX9_shut 35 = .ok (.getfield 10, 3) := by decide +kernel
theorem dX9_shut_38 : decode cX9_shut 38 = .ok (.getfield 89, 3) := by decide +kernel
theorem dX9_shut_41 : decode cX9_shut 41 = .ok (.iload_n 1, 1) := by decide +kernel
theorem dX9_shut_42 : decode cX9_shut 42 = .ok (.invokevirtual 162, 3) := by decide +kernel
theorem dX9_shut_45 : decode cX9_shut 45 = .ok (.ifCond .ne 10, 3) := by decide +kernel
theorem dX9_shut_48 : decode cX9_shut 48 = .ok (.aload_n 0, 1) := by decide +kernel
theorem dX9_shut_49 : decode cX9_shut 49 = .ok (.bipush (-3), 2) := by decide +kernel
theorem dX9_shut_51 : decode cX9_shut 51 = .ok (.invokevirtual 155, 3) := by decide +kernel
theorem dX9_shut_54 : decode cX9_shut 54 = .ok (.ireturn, 1) := by decide +kernel
theorem dX9_shut_55 : decode cX9_shut 55 = .ok (.aload_n 0, 1) := by decide +kernel
theorem dX9_shut_56 : decode cX9_shut 56 = .ok (.iconst 0, 1) := by decide +kernel
theorem dX9_shut_57 : decode cX9_shut 57 = .ok (.invokevirtual 172, 3) := by decide +kernel
theorem dX9_shut_60 : decode cX9_shut 60 = .ok (.aload_n 0, 1) := by decide +kernel
theorem dX9_shut_61 : decode cX9_shut 61 = .ok (.getfield 28, 3) := by decide +kernel
theorem dX9_shut_64 : decode cX9_shut 64 = .ok (.iload_n 2, 1) := by decide +kernel
theorem dX9_shut_65 : decode cX9_shut 65 = .ok (.invokevirtual 178, 3) := by decide +kernel
theorem dX9_shut_68 : decode cX9_shut 68 = .ok (.invokestatic 198, 3) := by decide +kernel
theorem dX9_shut_71 : decode cX9_shut 71 = .ok (.istore_n 3, 1) := by decide +kernel
theorem dX9_shut_72 : decode cX9_shut 72 = .ok (.aload_n 0, 1) := by decide +kernel
theorem dX9_shut_73 : decode cX9_shut 73 = .ok (.iconst 1, 1) := by decide +kernel
theorem dX9_shut_74 : decode cX9_shut 74 = .ok (.iload_n 1, 1) := by decide +kernel
theorem dX9_shut_75 : decode cX9_shut 75 = .ok (.ishl, 1) := by decide +kernel
theorem dX9_shut_76 : decode cX9_shut 76 = .ok (.invokevirtual 172, 3) := by decide +kernel
theorem dX9_shut_79 : decode cX9_shut 79 = .ok (.aload_n 0, 1) := by decide +kernel
theorem dX9_shut_80 : decode cX9_shut 80 = .ok (.getfield 28, 3) := by decide +kernel
theorem dX9_shut_83 : decode cX9_shut 83 = .ok (.iload_n 2, 1) := by decide +kernel
theorem dX9_shut_84 : decode cX9_shut 84 = .ok (.invokevirtual 178, 3) := by decide +kernel
theorem dX9_shut_87 : decode cX9_shut 87 = .ok (.invokestatic 198, 3) := by decide +kernel
theorem dX9_shut_90 : decode cX9_shut 90 = .ok (.iload_n 3, 1) := by decide +kernel
theorem dX9_shut_91 : decode cX9_shut 91 = .ok (.isub, 1) := by decide +kernel
theorem dX9_shut_92 : decode cX9_shut 92 = .ok (.ireturn, 1) := by decide +kernel
theorem dX9_chair_0 : decode cX9_chair 0 = .ok (.aload_n 0, 1) := by decide +kernel
theorem dX9_chair_1 : decode cX9_chair 1 = .ok (.iconst 0, 1) := by decide +kernel
theorem dX9_chair_2 : decode cX9_chair 2 = .ok (.invokevirtual 172, 3) := by decide +kernel
theorem dX9_chair_5 : decode cX9_chair 5 = .ok (.iconst 0, 1) := by decide +kernel
theorem dX9_chair_6 : decode cX9_chair 6 = .ok (.istore_n 1, 1) := by decide +kernel
theorem dX9_chair_7 : decode cX9_chair 7 = .ok (.aload_n 0, 1) := by decide +kernel
theorem dX9_chair_8 : decode cX9_chair 8 = .ok (.getfield 28, 3) := by decide +kernel
theorem dX9_chair_11 : decode cX9_chair 11 = .ok (.iconst 0, 1) := by decide +kernel
theorem dX9_chair_12 : decode cX9_chair 12 = .ok (.invokevirtual 203, 3) := by decide +kernel
theorem dX9_chair_15 : decode cX9_chair 15 = .ok (.istore_n 2, 1) := by decide +kernel
theorem dX9_chair_16 : decode cX9_chair 16 = .ok (.iconst 1, 1) := by decide +kernel
theorem dX9_chair_17 : decode cX9_chair 17 = .ok (.istore_n 3, 1) := by decide +kernel
theorem dX9_chair_18 : decode cX9_chair 18 = .ok (.iload_n 3, 1) := by decide +kernel
theorem dX9_chair_19 : decode cX9_chair 19 = .ok (.aload_n 0, 1) := by decide +kernel
theorem dX9_chair_20 : decode cX9_chair 20 = .ok (.getfield 10, 3) := by decide +kernel
theorem dX9_chair_23 : decode cX9_chair 23 = .ok (.getfield 169, 3) := by decide +kernel
theorem dX9_chair_26 : decode cX9_chair 26 = .ok (.if_icmp .ge 30, 3) := by decide +kernel
theorem dX9_chair_29 : decode cX9_chair 29 = .ok (.aload_n 0, 1) := by decide +kernel
theorem dX9_chair_30 : decode cX9_chair 30 = .ok (.getfield 28, 3) := by decide +kernel
theorem dX9_chair_33 : decode cX9_chair 33 = .ok (.iload_n 3, 1) := by decide +kernel
theorem dX9_chair_34 : decode cX9_chair 34 = .ok (.invokevirtual 203, 3) := by decide +kernel
theorem dX9_chair_37 : decode cX9_chair 37 = .ok (.istore 4, 2) := by decide +kernel
theorem dX9_chair_39 : decode cX9_chair 39 = .ok (.iload 4, 2) := by decide +kernel
theorem dX9_chair_41 : decode cX9_chair 41 = .ok (.iload_n 2, 1) := by decide +kernel
theorem dX9_chair_42 : decode cX9_chair 42 = .ok (.if_icmp .ge 8, 3) := by decide +kernel
theorem dX9_chair_45 : decode cX9_chair 45 = .ok (.iload_n 3, 1) := by decide +kernel
theorem dX9_chair_46 : decode cX9_chair 46 = .ok (.istore_n 1, 1) := by decide +kernel
theorem dX9_chair_47 : decode cX9_chair 47 = .ok (.iload 4, 2) := by decide +kernel
theorem dX9_chair_49 : decode cX9_chair 49 = .ok (.istore_n 2, 1) := by decide +kernel
theorem dX9_chair_50 : decode cX9_chair 50 = .ok (.iinc 3 1, 3) := by decide +kernel
theorem dX9_chair_53 : decode cX9_chair 53 = .ok (.goto (-35), 3) := by decide +kernel
theorem dX9_chair_56 : decode cX9_chair 56 = .ok (.iload_n 1, 1) := by decide +kernel
theorem dX9_chair_57 : decode cX9_chair 57 = .ok (.ireturn, 1) := by decide +kernel
theorem dX9_finger_0 : decode cX9_finger 0 = .ok (.bipush (-9), 2) := by decide +kernel
theorem dX9_finger_2 : decode cX9_finger 2 = .ok (.istore_n 1, 1) := by decide +kernel
theorem dX9_finger_3 : decode cX9_finger 3 = .ok (.iconst 0, 1) := by decide +kernel
theorem dX9_finger_4 : decode cX9_finger 4 = .ok (.istore_n 2, 1) := by decide +kernel
theorem dX9_finger_5 : decode cX9_finger 5 = .ok (.iconst 0, 1) := by decide +kernel
theorem dX9_finger_6 : decode cX9_finger 6 = .ok (.istore_n 3, 1) := by decide +kernel
theorem dX9_finger_7 : decode cX9_finger 7 = .ok (.iload_n 3, 1) := by decide +kernel
theorem dX9_finger_8 : decode cX9_finger 8 = .ok (.aload_n 0, 1) := by decide +kernel
theorem dX9_finger_9 : decode cX9_finger 9 = .ok (.getfield 10, 3) := by decide +kernel
theorem dX9_finger_12 : decode cX9_finger 12 = .ok (.getfield 89, 3) := by decide +kernel
theorem dX9_finger_15 : decode cX9_finger 15 = .ok (.getfield 190, 3) := by decide +kernel
theorem dX9_finger_18 : decode cX9_finger 18 = .ok (.if_icmp .ge 103, 3) := by decide +kernel
theorem dX9_finger_21 : decode cX9_finger 21 = .ok (.aload_n 0, 1) := by decide +kernel
theorem dX9_finger_22 : decode cX9_finger 22 = .ok (.getfield 10, 3) := by decide +kernel
theorem dX9_finger_25 : decode cX9_finger 25 = .ok (.getfield 89, 3) := by decide +kernel
theorem dX9_finger_28 : decode cX9_finger 28 = .ok (.getfield 114, 3) := by decide +kernel
theorem dX9_finger_31 : decode cX9_finger 31 = .ok (.iload_n 3, 1) := by decide +kernel
theorem dX9_finger_32 : decode cX9_finger 32 = .ok (.invokestatic 102, 3) := by decide +kernel
theorem dX9_finger_35 : decode cX9_finger 35 = .ok (.iconst 1, 1) := by decide +kernel
theorem dX9_finger_36 : decode cX9_finger 36 = .ok (.iadd, 1) := by decide +kernel
theorem dX9_finger_37 : decode cX9_finger 37 = .ok (.istore 4, 2) := by decide +kernel
theorem dX9_finger_39 : decode cX9_finger 39 = .ok (.aload_n 0, 1) := by decide +kernel
theorem dX9_finger_40 : decode cX9_finger 40 = .ok (.getfield 10, 3) := by decide +kernel
theorem dX9_finger_43 : decode cX9_finger 43 = .ok (.getfield 89, 3) := by decide +kernel
theorem dX9_finger_46 : decode cX9_finger 46 = .ok (.iload_n 3, 1) := by decide +kernel
theorem dX9_finger_47 : decode cX9_finger 47 = .ok (.invokevirtual 162, 3) := by decide +kernel
theorem dX9_finger_50 : decode cX9_finger 50 = .ok (.ifCond .ne 65, 3) := by decide +kernel
theorem dX9_finger_53 : decode cX9_finger 53 = .ok (.iload 4, 2) := by decide +kernel
theorem dX9_finger_55 : decode cX9_finger 55 = .ok (.bipush 9, 2) := by decide +kernel
theorem dX9_finger_57 : decode cX9_finger 57 = .ok (.if_icmp .gt 58, 3) := by decide +kernel
theorem dX9_finger_60 : decode cX9_finger 60 = .ok (.aload_n 0, 1) := by decide +kernel
theorem dX9_finger_61 : decode cX9_finger 61 = .ok (.iload_n 3, 1) := by decide +kernel
theorem dX9_finger_62 : decode cX9_finger 62 = .ok (.iload 4, 2) := by decide +kernel
theorem dX9_finger_64 : decode cX9_finger 64 = .ok (.invokevirtual 206, 3) := by decide +kernel
theorem dX9_finger_67 : decode cX9_finger 67 = .ok (.aload_n 0, 1) := by decide +kernel
theorem dX9_finger_68 : decode cX9_finger 68 = .ok (.getfield 28, 3) := by decide +kernel
theorem dX9_finger_71 : decode cX9_finger 71 = .ok (.invokevirtual 210, 3) := by decide +kernel
theorem dX9_finger_74 : decode cX9_finger 74 = .ok (.aload_n 0, 1) := by decide +kernel
theorem dX9_finger_75 : decode cX9_finger 75 = .ok (.getfield 10, 3) := by decide +kernel
theorem dX9_finger_78 : decode cX9_finger 78 = .ok (.getfield 143, 3) := by decide +kernel
theorem dX9_finger_81 : decode cX9_finger 81 = .ok (.getfield 146, 3) := by decide +kernel
theorem dX9_finger_84 : decode cX9_finger 84 = .ok (.imul, 1) := by decide +kernel
theorem dX9_finger_85 : decode cX9_finger 85 = .ok (.istore 5, 2) := by decide +kernel
theorem dX9_finger_87 : decode cX9_finger 87 = .ok (.aload_n 0, 1) := by decide +kernel
theorem dX9_finger_88 : decode cX9_finger 88 = .ok (.getfield 28, 3) := by decide +kernel
theorem dX9_finger_91 : decode cX9_finger 91 = .ok (.iload_n 3, 1) := by decide +kernel
theorem dX9_finger_92 : decode cX9_finger 92 = .ok (.invokevirtual 178, 3) := by decide +kernel
theorem dX9_finger_95 : decode cX9_finger 95 = .ok (.ifCond .le 20, 3) := by decide +kernel
theorem dX9_finger_98 : decode cX9_finger 98 = .ok (.iload_n 1, 1) := by decide +kernel
theorem dX9_finger_99 : decode cX9_finger 99 = .ok (.bipush (-9), 2) := by decide +kernel
theorem dX9_finger_101 : decode cX9_finger 101 = .ok (.if_icmp .eq 9, 3) := by decide +kernel
theorem dX9_finger_104 : decode cX9_finger 104 = .ok (.iload 5, 2) := by decide +kernel
theorem dX9_finger_106 : decode cX9_finger 106 = .ok (.iload_n 2, 1) := by decide +kernel
theorem dX9_finger_107 : decode cX9_finger 107 = .ok (.if_icmp .ge 8, 3) := by decide +kernel
theorem dX9_finger_110 : decode cX9_finger 110 = .ok (.iload_n 3, 1) := by decide +kernel
theorem dX9_finger_111 : decode cX9_finger 111 = .ok (.istore_n 1, 1) := by decide +kernel
theorem dX9_finger_112 : decode cX9_finger 112 = .ok (.iload 5, 2) := by decide +kernel
theorem dX9_finger_114 : decode cX9_finger 114 = .ok (.istore_n 2, 1) := by decide +kernel
theorem dX9_finger_115 : decode cX9_finger 115 = .ok (.iinc 3 1, 3) := by decide +kernel
theorem dX9_finger_118 : decode cX9_finger 118 = .ok (.goto (-111), 3) := by decide +kernel
theorem dX9_finger_121 : decode cX9_finger 121 = .ok (.iload_n 1, 1) := by decide +kernel
theorem dX9_finger_122 : decode cX9_finger 122 = .ok (.ireturn, 1) := by decide +kernel
theorem dX9_number_0 : decode cX9_number 0 = .ok (.iload_n 1, 1) := by decide +kernel
theorem dX9_number_1 : decode cX9_number 1 = .ok (.bipush (-50), 2) := by decide +kernel
theorem dX9_number_3 : decode cX9_number 3 = .ok (.if_icmp .ge 10, 3) := by decide +kernel
theorem dX9_number_6 : decode cX9_number 6 = .ok (.aload_n 0, 1) := by decide +kernel
theorem dX9_number_7 : decode cX9_number 7 = .ok (.bipush (-4), 2) := by decide +kernel
theorem dX9_number_9 : decode cX9_number 9 = .ok (.invokevirtual 57, 3) := by decide +kernel
theorem dX9_number_12 : decode cX9_number 12 = .ok (.ireturn, 1) := by decide +kernel
theorem dX9_number_13 : decode cX9_number 13 = .ok (.iload_n 1, 1) := by decide +kernel
theorem dX9_number_14 : decode cX9_number 14 = .ok (.bipush 50, 2) := by decide +kernel
theorem dX9_number_16 : decode cX9_number 16 = .ok (.if_icmp .le 10, 3) := by decide +kernel
theorem dX9_number_19 : decode cX9_number 19 = .ok (.aload_n 0, 1) := by decide +kernel
theorem dX9_number_20 : decode cX9_number 20 = .ok (.bipush (-6), 2) := by decide +kernel
theorem dX9_number_22 : decode cX9_number 22 = .ok (.invokevirtual 57, 3) := by decide +kernel
theorem dX9_number_25 : decode cX9_number 25 = .ok (.ireturn, 1) := by decide +kernel
theorem dX9_number_26 : decode cX9_number 26 = .ok (.aload_n 0, 1) := by decide +kernel
theorem dX9_number_27 : decode cX9_number 27 = .ok (.getfield 49, 3) := by decide +kernel
theorem dX9_number_30 : decode cX9_number 30 = .ok (.iconst 0, 1) := by decide +kernel
theorem dX9_number_31 : decode cX9_number 31 = .ok (.iconst 0, 1) := by decide +kernel
theorem dX9_number_32 : decode cX9_number 32 = .ok (.iconst 0, 1) := by decide +kernel
theorem dX9_number_33 : decode cX9_number 33 = .ok (.iload_n 1, 1) := by decide +kernel
theorem dX9_number_34 : decode cX9_number 34 = .ok (.invokevirtual 213, 3) := by decide +kernel
theorem dX9_number_37 : decode cX9_number 37 = .ok (.aload_n 0, 1) := by decide +kernel
theorem dX9_number_38 : decode cX9_number 38 = .ok (.getfield 28, 3) := by decide +kernel
theorem dX9_number_41 : decode cX9_number 41 = .ok (.iconst 0, 1) := by decide +kernel
theorem dX9_number_42 : decode cX9_number 42 = .ok (.invokevirtual 217, 3) := by decide +kernel
theorem dX9_number_45 : decode cX9_number 45 = .ok (.aload_n 0, 1) := by decide +kernel
theorem dX9_number_46 : decode cX9_number 46 = .ok (.getfield 28, 3) := by decide +kernel
theorem dX9_number_49 : decode cX9_number 49 = .ok (.aload_n 0, 1) := by decide +kernel
theorem dX9_number_50 : decode cX9_number 50 = .ok (.getfield 49, 3) := by decide +kernel
theorem dX9_number_53 : decode cX9_number 53 = .ok (.invokevirtual 220, 3) := by decide +kernel
theorem dX9_number_56 : decode cX9_number 56 = .ok (.aload_n 0, 1) := by decide +kernel
theorem dX9_number_57 : decode cX9_number 57 = .ok (.getfield 28, 3) := by decide +kernel
theorem dX9_number_60 : decode cX9_number 60 = .ok (.invokevirtual 210, 3) := by decide +kernel
theorem dX9_number_63 : decode cX9_number 63 = .ok (.ireturn, 1) := by decide +kernel
theorem dX9_winter_0 : decode cX9_winter 0 = .ok (.iconst 0, 1) := by decide +kernel
theorem dX9_winter_1 : decode cX9_winter 1 = .ok (.istore_n 1, 1) := by decide +kernel
theorem dX9_winter_2 : decode cX9_winter 2 = .ok (.iconst 0, 1) := by decide +kernel
theorem dX9_winter_3 : decode cX9_winter 3 = .ok (.istore_n 2, 1) := by decide +kernel
theorem dX9_winter_4 : decode cX9_winter 4 = .ok (.iload_n 2, 1) := by decide +kernel
theorem dX9_winter_5 : decode cX9_winter 5 = .ok (.aload_n 0, 1) := by decide +kernel
theorem dX9_winter_6 : decode cX9_winter 6 = .ok (.getfield 10, 3) := by decide +kernel
theorem dX9_winter_9 : decode cX9_winter 9 = .ok (.getfield 126, 3) := by decide +kernel
theorem dX9_winter_12 : decode cX9_winter 12 = .ok (.getfield 130, 3) := by decide +kernel
theorem dX9_winter_15 : decode cX9_winter 15 = .ok (.if_icmp .ge 32, 3) := by decide +kernel
theorem dX9_winter_18 : decode cX9_winter 18 = .ok (.aload_n 0, 1) := by decide +kernel
theorem dX9_winter_19 : decode cX9_winter 19 = .ok (.iload_n 2, 1) := by decide +kernel
theorem dX9_winter_20 : decode cX9_winter 20 = .ok (.invokevirtual 224, 3) := by decide +kernel
theorem dX9_winter_23 : decode cX9_winter 23 = .ok (.iload_n 1, 1) := by decide +kernel
theorem dX9_winter_24 : decode cX9_winter 24 = .ok (.aload_n 0, 1) := by decide +kernel
theorem dX9_winter_25 : decode cX9_winter 25 = .ok (.getfield 28, 3) := by decide +kernel
theorem dX9_winter_28 : decode cX9_winter 28 = .ok (.invokevirtual 210, 3) := by decide +kernel
theorem dX9_winter_31 : decode cX9_winter 31 = .ok (.aload_n 0, 1) := by decide +kernel
theorem dX9_winter_32 : decode cX9_winter 32 = .ok (.getfield 49, 3) := by decide +kernel
theorem dX9_winter_35 : decode cX9_winter 35 = .ok (.getfield 146, 3) := by decide +kernel
theorem dX9_winter_38 : decode cX9_winter 38 = .ok (.imul, 1) := by decide +kernel
theorem dX9_winter_39 : decode cX9_winter 39 = .ok (.iadd, 1) := by decide +kernel
theorem dX9_winter_40 : decode cX9_winter 40 = .ok (.istore_n 1, 1) := by decide +kernel
theorem dX9_winter_41 : decode cX9_winter 41 = .ok (.iinc 2 1, 3) := by decide +kernel
theorem dX9_winter_44 : decode cX9_winter 44 = .ok (.goto (-40), 3) := by decide +kernel
theorem dX9_winter_47 : decode cX9_winter 47 = .ok (.iload_n 1, 1) := by decide +kernel
theorem dX9_winter_48 : decode cX9_winter 48 = .ok (.ireturn, 1) := by decide +kernel
theorem dX9_turnsAbout_0 : decode cX9_turnsAbout 0 = .ok (.iconst 0, 1) := by decide +kernel
theorem dX9_turnsAbout_1 : decode cX9_turnsAbout 1 = .ok (.istore_n 1, 1) := by decide +kernel
theorem dX9_turnsAbout_2 : decode cX9_turnsAbout 2 = .ok (.iconst 0, 1) := by decide +kernel
theorem dX9_turnsAbout_3 : decode cX9_turnsAbout 3 = .ok (.istore_n 2, 1) := by decide +kernel
theorem dX9_turnsAbout_4 : decode cX9_turnsAbout 4 = .ok (.iconst 0, 1) := by decide +kernel
theorem dX9_turnsAbout_5 : decode cX9_turnsAbout 5 = .ok (.istore_n 3, 1) := by decide +kernel
theorem dX9_turnsAbout_6 : decode cX9_turnsAbout 6 = .ok (.iload_n 3, 1) := by decide +kernel
theorem dX9_turnsAbout_7 : decode cX9_turnsAbout 7 = .ok (.aload_n 0, 1) := by decide +kernel
theorem dX9_turnsAbout_8 : decode cX9_turnsAbout 8 = .ok (.getfield 10, 3) := by decide +kernel
theorem dX9_turnsAbout_11 : decode cX9_turnsAbout 11 = .ok (.getfield 126, 3) := by decide +kernel
theorem dX9_turnsAbout_14 : decode cX9_turnsAbout 14 = .ok (.getfield 130, 3) := by decide +kernel
theorem dX9_turnsAbout_17 : decode cX9_turnsAbout 17 = .ok (.if_icmp .ge 81, 3) := by decide +kernel
theorem dX9_turnsAbout_20 : decode cX9_turnsAbout 20 = .ok (.aload_n 0, 1) := by decide +kernel
theorem dX9_turnsAbout_21 : decode cX9_turnsAbout 21 = .ok (.iload_n 3, 1) := by decide +kernel
theorem dX9_turnsAbout_22 : decode cX9_turnsAbout 22 = .ok (.invokevirtual 224, 3) := by decide +kernel
theorem dX9_turnsAbout_25 : decode cX9_turnsAbout 25 = .ok (.iconst 0, 1) := by decide +kernel
theorem dX9_turnsAbout_26 : decode cX9_turnsAbout 26 = .ok (.istore 4, 2) := by decide +kernel
theorem dX9_turnsAbout_28 : decode cX9_turnsAbout 28 = .ok (.iload 4, 2) := by decide +kernel
theorem dX9_turnsAbout_30 : decode cX9_turnsAbout 30 = .ok (.aload_n 0, 1) := by decide +kernel
theorem dX9_turnsAbout_31 : decode cX9_turnsAbout 31 = .ok (.getfield 10, 3) := by decide +kernel
theorem dX9_turnsAbout_34 : decode cX9_turnsAbout 34 = .ok (.getfield 89, 3) := by decide +kernel
theorem dX9_turnsAbout_37 : decode cX9_turnsAbout 37 = .ok (.getfield 190, 3) := by decide +kernel
theorem dX9_turnsAbout_40 : decode cX9_turnsAbout 40 = .ok (.if_icmp .ge 52, 3) := by decide +kernel
theorem dX9_turnsAbout_43 : decode cX9_turnsAbout 43 = .ok (.aload_n 0, 1) := by decide +kernel
theorem dX9_turnsAbout_44 : decode cX9_turnsAbout 44 = .ok (.getfield 28, 3) := by decide +kernel
theorem dX9_turnsAbout_47 : decode cX9_turnsAbout 47 = .ok (.iload 4, 2) := by decide +kernel
theorem dX9_turnsAbout_49 : decode cX9_turnsAbout 49 = .ok (.invokevirtual 178, 3) := by decide +kernel
theorem dX9_turnsAbout_52 : decode cX9_turnsAbout 52 = .ok (.istore 5, 2) := by decide +kernel
theorem dX9_turnsAbout_54 : decode cX9_turnsAbout 54 = .ok (.iload_n 1, 1) := by decide +kernel
theorem dX9_turnsAbout_55 : decode cX9_turnsAbout 55 = .ok (.iload 5, 2) := by decide +kernel
theorem dX9_turnsAbout_57 : decode cX9_turnsAbout 57 = .ok (.ifCond .le 10, 3) := by decide +kernel
theorem dX9_turnsAbout_60 : decode cX9_turnsAbout 60 = .ok (.iconst 1, 1) := by decide +kernel
theorem dX9_turnsAbout_61 : decode cX9_turnsAbout 61 = .ok (.iload 4, 2) := by decide +kernel
theorem dX9_turnsAbout_63 : decode cX9_turnsAbout 63 = .ok (.ishl, 1) := by decide +kernel
theorem dX9_turnsAbout_64 : decode cX9_turnsAbout 64 = .ok (.goto 4, 3) := by decide +kernel
theorem dX9_turnsAbout_67 : decode cX9_turnsAbout 67 = .ok (.iconst 0, 1) := by decide +kernel
theorem dX9_turnsAbout_68 : decode cX9_turnsAbout 68 = .ok (.ior, 1) := by decide +kernel
theorem dX9_turnsAbout_69 : decode cX9_turnsAbout 69 = .ok (.istore_n 1, 1) := by decide +kernel
theorem dX9_turnsAbout_70 : decode cX9_turnsAbout 70 = .ok (.iload_n 2, 1) := by decide +kernel
theorem dX9_turnsAbout_71 : decode cX9_turnsAbout 71 = .ok (.iload 5, 2) := by decide +kernel
theorem dX9_turnsAbout_73 : decode cX9_turnsAbout 73 = .ok (.ifCond .ge 10, 3) := by decide +kernel
theorem dX9_turnsAbout_76 : decode cX9_turnsAbout 76 = .ok (.iconst 1, 1) := by decide +kernel
theorem dX9_turnsAbout_77 : decode cX9_turnsAbout 77 = .ok (.iload 4, 2) := by decide +kernel
theorem dX9_turnsAbout_79 : decode cX9_turnsAbout 79 = .ok (.ishl, 1) := by decide +kernel
theorem dX9_turnsAbout_80 : decode cX9_turnsAbout 80 = .ok (.goto 4, 3) := by decide +kernel
theorem dX9_turnsAbout_83 : decode cX9_turnsAbout 83 = .ok (.iconst 0, 1) := by decide +kernel
theorem dX9_turnsAbout_84 : decode cX9_turnsAbout 84 = .ok (.ior, 1) := by decide +kernel
theorem dX9_turnsAbout_85 : decode cX9_turnsAbout 85 = .ok (.istore_n 2, 1) := by decide +kernel
theorem dX9_turnsAbout_86 : decode cX9_turnsAbout 86 = .ok (.iinc 4 1, 3) := by decide +kernel
theorem dX9_turnsAbout_89 : decode cX9_turnsAbout 89 = .ok (.goto (-61), 3) := by decide +kernel
theorem dX9_turnsAbout_92 : decode cX9_turnsAbout 92 = .ok (.iinc 3 1, 3) := by decide +kernel
theorem dX9_turnsAbout_95 : decode cX9_turnsAbout 95 = .ok (.goto (-89), 3) := by decide +kernel
theorem dX9_turnsAbout_98 : decode cX9_turnsAbout 98 = .ok (.iload_n 1, 1) := by decide +kernel
theorem dX9_turnsAbout_99 : decode cX9_turnsAbout 99 = .ok (.iload_n 2, 1) := by decide +kernel
theorem dX9_turnsAbout_100 : decode cX9_turnsAbout 100 = .ok (.iand, 1) := by decide +kernel
theorem dX9_turnsAbout_101 : decode cX9_turnsAbout 101 = .ok (.ireturn, 1) := by decide +kernel
theorem dX9_sizes_0 : decode cX9_sizes 0 = .ok (.aload_n 0, 1) := by decide +kernel
theorem dX9_sizes_1 : decode cX9_sizes 1 = .ok (.getfield 10, 3) := by decide +kernel
theorem dX9_sizes_4 : decode cX9_sizes 4 = .ok (.getfield 89, 3) := by decide +kernel
theorem dX9_sizes_7 : decode cX9_sizes 7 = .ok (.iload_n 1, 1) := by decide +kernel
theorem dX9_sizes_8 : decode cX9_sizes 8 = .ok (.invokevirtual 93, 3) := by decide +kernel
theorem dX9_sizes_11 : decode cX9_sizes 11 = .ok (.ifCond .ne 9, 3) := by decide +kernel
theorem dX9_sizes_14 : decode cX9_sizes 14 = .ok (.aload_n 0, 1) := by decide +kernel
theorem dX9_sizes_15 : decode cX9_sizes 15 = .ok (.iconst (-1), 1) := by decide +kernel
theorem dX9_sizes_16 : decode cX9_sizes 16 = .ok (.invokevirtual 57, 3) := by decide +kernel
theorem dX9_sizes_19 : decode cX9_sizes 19 = .ok (.ireturn, 1) := by decide +kernel
theorem dX9_sizes_20 : decode cX9_sizes 20 = .ok (.iload_n 3, 1) := by decide +kernel
theorem dX9_sizes_21 : decode cX9_sizes 21 = .ok (.ifCond .lt 8, 3) := by decide +kernel
theorem dX9_sizes_24 : decode cX9_sizes 24 = .ok (.iload_n 3, 1) := by decide +kernel
theorem dX9_sizes_25 : decode cX9_sizes 25 = .ok (.iconst 2, 1) := by decide +kernel
theorem dX9_sizes_26 : decode cX9_sizes 26 = .ok (.if_icmp .le 10, 3) := by decide +kernel
theorem dX9_sizes_29 : decode cX9_sizes 29 = .ok (.aload_n 0, 1) := by decide +kernel
theorem dX9_sizes_30 : decode cX9_sizes 30 = .ok (.bipush (-2), 2) := by decide +kernel
theorem dX9_sizes_32 : decode cX9_sizes 32 = .ok (.invokevirtual 57, 3) := by decide +kernel
theorem dX9_sizes_35 : decode cX9_sizes 35 = .ok (.ireturn, 1) := by decide +kernel
theorem dX9_sizes_36 : decode cX9_sizes 36 = .ok (.bipush (-9), 2) := by decide +kernel
theorem dX9_sizes_38 : decode cX9_sizes 38 = .ok (.istore 4, 2) := by decide +kernel
theorem dX9_sizes_40 : decode cX9_sizes 40 = .ok (.bipush (-9), 2) := by decide +kernel
theorem dX9_sizes_42 : decode cX9_sizes 42 = .ok (.istore 5, 2) := by decide +kernel
theorem dX9_sizes_44 : decode cX9_sizes 44 = .ok (.iconst 0, 1) := by decide +kernel
theorem dX9_sizes_45 : decode cX9_sizes 45 = .ok (.istore 6, 2) := by decide +kernel
theorem dX9_sizes_47 : decode cX9_sizes 47 = .ok (.iconst 0, 1) := by decide +kernel
theorem dX9_sizes_48 : decode cX9_sizes 48 = .ok (.istore 7, 2) := by decide +kernel
theorem dX9_sizes_50 : decode cX9_sizes 50 = .ok (.iload 7, 2) := by decide +kernel
theorem dX9_sizes_52 : decode cX9_sizes 52 = .ok (.bipush 9, 2) := by decide +kernel
theorem dX9_sizes_54 : decode cX9_sizes 54 = .ok (.if_icmp .gt 49, 3) := by decide +kernel
theorem dX9_sizes_57 : decode cX9_sizes 57 = .ok (.aload_n 0, 1) := by decide +kernel
theorem dX9_sizes_58 : decode cX9_sizes 58 = .ok (.iload_n 1, 1) := by decide +kernel
theorem dX9_sizes_59 : decode cX9_sizes 59 = .ok (.iload 7, 2) := by decide +kernel
theorem dX9_sizes_61 : decode cX9_sizes 61 = .ok (.invokevirtual 206, 3) := by decide +kernel
theorem dX9_sizes_64 : decode cX9_sizes 64 = .ok (.aload_n 0, 1) := by decide +kernel
theorem dX9_sizes_65 : decode cX9_sizes 65 = .ok (.getfield 28, 3) := by decide +kernel
theorem dX9_sizes_68 : decode cX9_sizes 68 = .ok (.iload_n 1, 1) := by decide +kernel
theorem dX9_sizes_69 : decode cX9_sizes 69 = .ok (.invokevirtual 178, 3) := by decide +kernel
theorem dX9_sizes_72 : decode cX9_sizes 72 = .ok (.iload_n 2, 1) := by decide +kernel
theorem dX9_sizes_73 : decode cX9_sizes 73 = .ok (.if_icmp .ne 24, 3) := by decide +kernel
theorem dX9_sizes_76 : decode cX9_sizes 76 = .ok (.iload 6, 2) := by decide +kernel
theorem dX9_sizes_78 : decode cX9_sizes 78 = .ok (.ifCond .ne 8, 3) := by decide +kernel
theorem dX9_sizes_81 : decode cX9_sizes 81 = .ok (.iload 7, 2) := by decide +kernel
theorem dX9_sizes_83 : decode cX9_sizes 83 = .ok (.goto 5, 3) := by decide +kernel
theorem dX9_sizes_86 : decode cX9_sizes 86 = .ok (.iload 4, 2) := by decide +kernel
theorem dX9_sizes_88 : decode cX9_sizes 88 = .ok (.istore 4, 2) := by decide +kernel
theorem dX9_sizes_90 : decode cX9_sizes 90 = .ok (.iload 7, 2) := by decide +kernel
theorem dX9_sizes_92 : decode cX9_sizes 92 = .ok (.istore 5, 2) := by decide +kernel
theorem dX9_sizes_94 : decode cX9_sizes 94 = .ok (.iinc 6 1, 3) := by decide +kernel
theorem dX9_sizes_97 : decode cX9_sizes 97 = .ok (.iinc 7 1, 3) := by decide +kernel
theorem dX9_sizes_100 : decode cX9_sizes 100 = .ok (.goto (-50), 3) := by decide +kernel
theorem dX9_sizes_103 : decode cX9_sizes 103 = .ok (.iload_n 3, 1) := by decide +kernel
theorem dX9_sizes_104 : decode cX9_sizes 104 = .ok (.ifCond .ne 8, 3) := by decide +kernel
theorem dX9_sizes_107 : decode cX9_sizes 107 = .ok (.iload 4, 2) := by decide +kernel
theorem dX9_sizes_109 : decode cX9_sizes 109 = .ok (.goto 15, 3) := by decide +kernel
theorem dX9_sizes_112 : decode cX9_sizes 112 = .ok (.iload_n 3, 1) := by decide +kernel
theorem dX9_sizes_113 : decode cX9_sizes 113 = .ok (.iconst 1, 1) := by decide +kernel
theorem dX9_sizes_114 : decode cX9_sizes 114 = .ok (.if_icmp .ne 8, 3) := by decide +kernel
theorem dX9_sizes_117 : decode cX9_sizes 117 = .ok (.iload 5, 2) := by decide +kernel
theorem dX9_sizes_119 : decode cX9_sizes 119 = .ok (.goto 5, 3) := by decide +kernel
theorem dX9_sizes_122 : decode cX9_sizes 122 = .ok (.iload 6, 2) := by decide +kernel
theorem dX9_sizes_124 : decode cX9_sizes 124 = .ok (.ireturn, 1) := by decide +kernel
theorem dX9_hidden_0 : decode cX9_hidden 0 = .ok (.iload_n 1, 1) := by decide +kernel
theorem dX9_hidden_1 : decode cX9_hidden 1 = .ok (.ifCond .lt 7, 3) := by decide +kernel
theorem dX9_hidden_4 : decode cX9_hidden 4 = .ok (.iload_n 2, 1) := by decide +kernel
theorem dX9_hidden_5 : decode cX9_hidden 5 = .ok (.ifCond .ge 10, 3) := by decide +kernel
theorem dX9_hidden_8 : decode cX9_hidden 8 = .ok (.aload_n 0, 1) := by decide +kernel
theorem dX9_hidden_9 : decode cX9_hidden 9 = .ok (.bipush (-4), 2) := by decide +kernel
theorem dX9_hidden_11 : decode cX9_hidden 11 = .ok (.invokevirtual 57, 3) := by decide +kernel
theorem dX9_hidden_14 : decode cX9_hidden 14 = .ok (.ireturn, 1) := by decide +kernel
theorem dX9_hidden_15 : decode cX9_hidden 15 = .ok (.iload_n 1, 1) := by decide +kernel
theorem dX9_hidden_16 : decode cX9_hidden 16 = .ok (.bipush 9, 2) := by decide +kernel
theorem dX9_hidden_18 : decode cX9_hidden 18 = .ok (.if_icmp .gt 16, 3) := by decide +kernel
theorem dX9_hidden_21 : decode cX9_hidden 21 = .ok (.aload_n 0, 1) := by decide +kernel
theorem dX9_hidden_22 : decode cX9_hidden 22 = .ok (.getfield 10, 3) := by decide +kernel
theorem dX9_hidden_25 : decode cX9_hidden 25 = .ok (.getfield 89, 3) := by decide +kernel
theorem dX9_hidden_28 : decode cX9_hidden 28 = .ok (.invokevirtual 227, 3) := by decide +kernel
theorem dX9_hidden_31 : decode cX9_hidden 31 = .ok (.ifCond .eq 10, 3) := by decide +kernel
theorem dX9_hidden_34 : decode cX9_hidden 34 = .ok (.aload_n 0, 1) := by decide +kernel
theorem dX9_hidden_35 : decode cX9_hidden 35 = .ok (.bipush (-6), 2) := by decide +kernel
theorem dX9_hidden_37 : decode cX9_hidden 37 = .ok (.invokevirtual 57, 3) := by decide +kernel
theorem dX9_hidden_40 : decode cX9_hidden 40 = .ok (.ireturn, 1) := by decide +kernel
theorem dX9_hidden_41 : decode cX9_hidden 41 = .ok (.bipush (-9), 2) := by decide +kernel
theorem dX9_hidden_43 : decode cX9_hidden 43 = .ok (.istore_n 3, 1) := by decide +kernel
theorem dX9_hidden_44 : decode cX9_hidden 44 = .ok (.iconst 0, 1) := by decide +kernel
theorem dX9_hidden_45 : decode cX9_hidden 45 = .ok (.istore 4, 2) := by decide +kernel
theorem dX9_hidden_47 : decode cX9_hidden 47 = .ok (.iload 4, 2) := by decide +kernel
theorem dX9_hidden_49 : decode cX9_hidden 49 = .ok (.aload_n 0, 1) := by decide +kernel
theorem dX9_hidden_50 : decode cX9_hidden 50 = .ok (.getfield 10, 3) := by decide +kernel
theorem dX9_hidden_53 : decode cX9_hidden 53 = .ok (.getfield 169, 3) := by decide +kernel
theorem dX9_hidden_56 : decode cX9_hidden 56 = .ok (.if_icmp .ge 56, 3) := by decide +kernel
theorem dX9_hidden_59 : decode cX9_hidden 59 = .ok (.iload_n 3, 1) := by decide +kernel
theorem dX9_hidden_60 : decode cX9_hidden 60 = .ok (.bipush (-9), 2) := by decide +kernel
theorem dX9_hidden_62 : decode cX9_hidden 62 = .ok (.if_icmp .ne 50, 3) := by decide +kernel
theorem dX9_hidden_65 : decode cX9_hidden 65 = .ok (.aload_n 0, 1) := by decide +kernel
theorem dX9_hidden_66 : decode cX9_hidden 66 = .ok (.getfield 10, 3) := by decide +kernel
theorem dX9_hidden_69 : decode cX9_hidden 69 = .ok (.getfield 89, 3) := by decide +kernel
theorem dX9_hidden_72 : decode cX9_hidden 72 = .ok (.iload 4, 2) := by decide +kernel
theorem dX9_hidden_74 : decode cX9_hidden 74 = .ok (.bipush (-9), 2) := by decide +kernel
theorem dX9_hidden_76 : decode cX9_hidden 76 = .ok (.iconst 0, 1) := by decide +kernel
theorem dX9_hidden_77 : decode cX9_hidden 77 = .ok (.iload_n 1, 1) := by decide +kernel
theorem dX9_hidden_78 : decode cX9_hidden 78 = .ok (.iconst 5, 1) := by decide +kernel
theorem dX9_hidden_79 : decode cX9_hidden 79 = .ok (.iconst 0, 1) := by decide +kernel
theorem dX9_hidden_80 : decode cX9_hidden 80 = .ok (.iconst 0, 1) := by decide +kernel
theorem dX9_hidden_81 : decode cX9_hidden 81 = .ok (.invokevirtual 228, 3) := by decide +kernel
theorem dX9_hidden_84 : decode cX9_hidden 84 = .ok (.aload_n 0, 1) := by decide +kernel
theorem dX9_hidden_85 : decode cX9_hidden 85 = .ok (.iconst 0, 1) := by decide +kernel
theorem dX9_hidden_86 : decode cX9_hidden 86 = .ok (.invokevirtual 184, 3) := by decide +kernel
theorem dX9_hidden_89 : decode cX9_hidden 89 = .ok (.iload_n 2, 1) := by decide +kernel
theorem dX9_hidden_90 : decode cX9_hidden 90 = .ok (.if_icmp .ne 6, 3) := by decide +kernel
theorem dX9_hidden_93 : decode cX9_hidden 93 = .ok (.iload 4, 2) := by decide +kernel
theorem dX9_hidden_95 : decode cX9_hidden 95 = .ok (.istore_n 3, 1) := by decide +kernel
theorem dX9_hidden_96 : decode cX9_hidden 96 = .ok (.aload_n 0, 1) := by decide +kernel
theorem dX9_hidden_97 : decode cX9_hidden 97 = .ok (.getfield 10, 3) := by decide +kernel
theorem dX9_hidden_100 : decode cX9_hidden 100 = .ok (.getfield 89, 3) := by decide +kernel
theorem dX9_hidden_103 : decode cX9_hidden 103 = .ok (.invokevirtual 231, 3) := by decide +kernel
theorem dX9_hidden_106 : decode cX9_hidden 106 = .ok (.iinc 4 1, 3) := by decide +kernel
theorem dX9_hidden_109 : decode cX9_hidden 109 = .ok (.goto (-62), 3) := by decide +kernel
theorem dX9_hidden_112 : decode cX9_hidden 112 = .ok (.iload_n 3, 1) := by decide +kernel
theorem dX9_hidden_113 : decode cX9_hidden 113 = .ok (.ireturn, 1) := by decide +kernel
theorem dX9_days_0 : decode cX9_days 0 = .ok (.iload_n 1, 1) := by decide +kernel
theorem dX9_days_1 : decode cX9_days 1 = .ok (.iconst 1, 1) := by decide +kernel
theorem dX9_days_2 : decode cX9_days 2 = .ok (.if_icmp .ge 10, 3) := by decide +kernel
theorem dX9_days_5 : decode cX9_days 5 = .ok (.aload_n 0, 1) := by decide +kernel
theorem dX9_days_6 : decode cX9_days 6 = .ok (.bipush (-4), 2) := by decide +kernel
theorem dX9_days_8 : decode cX9_days 8 = .ok (.invokevirtual 57, 3) := by decide +kernel
theorem dX9_days_11 : decode cX9_days 11 = .ok (.ireturn, 1) := by decide +kernel
theorem dX9_days_12 : decode cX9_days 12 = .ok (.iload_n 1, 1) := by decide +kernel
theorem dX9_days_13 : decode cX9_days 13 = .ok (.bipush 30, 2) := by decide +kernel
theorem dX9_days_15 : decode cX9_days 15 = .ok (.if_icmp .le 10, 3) := by decide +kernel
theorem dX9_days_18 : decode cX9_days 18 = .ok (.aload_n 0, 1) := by decide +kernel
theorem dX9_days_19 : decode cX9_days 19 = .ok (.bipush (-6), 2) := by decide +kernel
theorem dX9_days_21 : decode cX9_days 21 = .ok (.invokevirtual 57, 3) := by decide +kernel
theorem dX9_days_24 : decode cX9_days 24 = .ok (.ireturn, 1) := by decide +kernel
theorem dX9_days_25 : decode cX9_days 25 = .ok (.iconst 0, 1) := by decide +kernel
theorem dX9_days_26 : decode cX9_days 26 = .ok (.istore_n 3, 1) := by decide +kernel
theorem dX9_days_27 : decode cX9_days 27 = .ok (.aload_n 0, 1) := by decide +kernel
theorem dX9_days_28 : decode cX9_days 28 = .ok (.getfield 42, 3) := by decide +kernel
theorem dX9_days_31 : decode cX9_days 31 = .ok (.iload_n 2, 1) := by decide +kernel
theorem dX9_days_32 : decode cX9_days 32 = .ok (.putfield 234, 3) := by decide +kernel
theorem dX9_days_35 : decode cX9_days 35 = .ok (.aload_n 0, 1) := by decide +kernel
theorem dX9_days_36 : decode cX9_days 36 = .ok (.getfield 28, 3) := by decide +kernel
theorem dX9_days_39 : decode cX9_days 39 = .ok (.iconst 0, 1) := by decide +kernel
theorem dX9_days_40 : decode cX9_days 40 = .ok (.invokevirtual 217, 3) := by decide +kernel
theorem dX9_days_43 : decode cX9_days 43 = .ok (.iconst 0, 1) := by decide +kernel
theorem dX9_days_44 : decode cX9_days 44 = .ok (.istore 4, 2) := by decide +kernel
theorem dX9_days_46 : decode cX9_days 46 = .ok (.iload 4, 2) := by decide +kernel
theorem dX9_days_48 : decode cX9_days 48 = .ok (.iload_n 1, 1) := by decide +kernel
theorem dX9_days_49 : decode cX9_days 49 = .ok (.if_icmp .ge 93, 3) := by decide +kernel
theorem dX9_days_52 : decode cX9_days 52 = .ok (.aload_n 0, 1) := by decide +kernel
theorem dX9_days_53 : decode cX9_days 53 = .ok (.getfield 42, 3) := by decide +kernel
theorem dX9_days_56 : decode cX9_days 56 = .ok (.bipush 41, 2) := by decide +kernel
theorem dX9_days_58 : decode cX9_days 58 = .ok (.invokevirtual 237, 3) := by decide +kernel
theorem dX9_days_61 : decode cX9_days 61 = .ok (.istore 5, 2) := by decide +kernel
theorem dX9_days_63 : decode cX9_days 63 = .ok (.aload_n 0, 1) := by decide +kernel
theorem dX9_days_64 : decode cX9_days 64 = .ok (.getfield 42, 3) := by decide +kernel
theorem dX9_days_67 : decode cX9_days 67 = .ok (.bipush 21, 2) := by decide +kernel
theorem dX9_days_69 : decode cX9_days 69 = .ok (.invokevirtual 237, 3) := by decide +kernel
theorem dX9_days_72 : decode cX9_days 72 = .ok (.istore 6, 2) := by decide +kernel
theorem dX9_days_74 : decode cX9_days 74 = .ok (.aload_n 0, 1) := by decide +kernel
theorem dX9_days_75 : decode cX9_days 75 = .ok (.getfield 42, 3) := by decide +kernel
theorem dX9_days_78 : decode cX9_days 78 = .ok (.iconst 4, 1) := by decide +kernel
theorem dX9_days_79 : decode cX9_days 79 = .ok (.invokevirtual 237, 3) := by decide +kernel
theorem dX9_days_82 : decode cX9_days 82 = .ok (.istore 7, 2) := by decide +kernel
theorem dX9_days_84 : decode cX9_days 84 = .ok (.aload_n 0, 1) := by decide +kernel
theorem dX9_days_85 : decode cX9_days 85 = .ok (.getfield 49, 3) := by decide +kernel
theorem dX9_days_88 : decode cX9_days 88 = .ok (.iload 5, 2) := by decide +kernel
theorem dX9_days_90 : decode cX9_days 90 = .ok (.iload 6, 2) := by decide +kernel
theorem dX9_days_92 : decode cX9_days 92 = .ok (.iload 7, 2) := by decide +kernel
theorem dX9_days_94 : decode cX9_days 94 = .ok (.aload_n 0, 1) := by decide +kernel
theorem dX9_days_95 : decode cX9_days 95 = .ok (.getfield 10, 3) := by decide +kernel
theorem dX9_days_98 : decode cX9_days 98 = .ok (.getfield 143, 3) := by decide +kernel
theorem dX9_days_101 : decode cX9_days 101 = .ok (.getfield 152, 3) := by decide +kernel
theorem dX9_days_104 : decode cX9_days 104 = .ok (.invokevirtual 213, 3) := by decide +kernel
theorem dX9_days_107 : decode cX9_days 107 = .ok (.aload_n 0, 1) := by decide +kernel
theorem dX9_days_108 : decode cX9_days 108 = .ok (.getfield 28, 3) := by decide +kernel
theorem dX9_days_111 : decode cX9_days 111 = .ok (.aload_n 0, 1) := by decide +kernel
theorem dX9_days_112 : decode cX9_days 112 = .ok (.getfield 49, 3) := by decide +kernel
theorem dX9_days_115 : decode cX9_days 115 = .ok (.invokevirtual 220, 3) := by decide +kernel
theorem dX9_days_118 : decode cX9_days 118 = .ok (.iload_n 3, 1) := by decide +kernel
theorem dX9_days_119 : decode cX9_days 119 = .ok (.aload_n 0, 1) := by decide +kernel
theorem dX9_days_120 : decode cX9_days 120 = .ok (.getfield 28, 3) := by decide +kernel
theorem dX9_days_123 : decode cX9_days 123 = .ok (.invokevirtual 187, 3) := by decide +kernel
theorem dX9_days_126 : decode cX9_days 126 = .ok (.ifCond .eq 7, 3) := by decide +kernel
theorem dX9_days_129 : decode cX9_days 129 = .ok (.iconst 1, 1) := by decide +kernel
theorem dX9_days_130 : decode cX9_days 130 = .ok (.goto 4, 3) := by decide +kernel
theorem dX9_days_133 : decode cX9_days 133 = .ok (.iconst 0, 1) := by decide +kernel
theorem dX9_days_134 : decode cX9_days 134 = .ok (.iadd, 1) := by decide +kernel
theorem dX9_days_135 : decode cX9_days 135 = .ok (.istore_n 3, 1) := by decide +kernel
theorem dX9_days_136 : decode cX9_days 136 = .ok (.iinc 4 1, 3) := by decide +kernel
theorem dX9_days_139 : decode cX9_days 139 = .ok (.goto (-93), 3) := by decide +kernel
theorem dX9_days_142 : decode cX9_days 142 = .ok (.iload_n 3, 1) := by decide +kernel
theorem dX9_days_143 : decode cX9_days 143 = .ok (.ireturn, 1) := by decide +kernel
theorem dX9_row_0 : decode cX9_row 0 = .ok (.iload_n 1, 1) := by decide +kernel
theorem dX9_row_1 : decode cX9_row 1 = .ok (.ifCond .ge 10, 3) := by decide +kernel
theorem dX9_row_4 : decode cX9_row 4 = .ok (.aload_n 0, 1) := by decide +kernel
theorem dX9_row_5 : decode cX9_row 5 = .ok (.bipush (-4), 2) := by decide +kernel
theorem dX9_row_7 : decode cX9_row 7 = .ok (.invokevirtual 57, 3) := by decide +kernel
theorem dX9_row_10 : decode cX9_row 10 = .ok (.ireturn, 1) := by decide +kernel
theorem dX9_row_11 : decode cX9_row 11 = .ok (.iload_n 1, 1) := by decide +kernel
theorem dX9_row_12 : decode cX9_row 12 = .ok (.iconst 2, 1) := by decide +kernel
theorem dX9_row_13 : decode cX9_row 13 = .ok (.if_icmp .gt 16, 3) := by decide +kernel
theorem dX9_row_16 : decode cX9_row 16 = .ok (.aload_n 0, 1) := by decide +kernel
theorem dX9_row_17 : decode cX9_row 17 = .ok (.getfield 10, 3) := by decide +kernel
theorem dX9_row_20 : decode cX9_row 20 = .ok (.getfield 240, 3) := by decide +kernel
theorem dX9_row_23 : decode cX9_row 23 = .ok (.invokevirtual 65, 3) := by decide +kernel
theorem dX9_row_26 : decode cX9_row 26 = .ok (.ifCond .eq 10, 3) := by decide +kernel
theorem dX9_row_29 : decode cX9_row 29 = .ok (.aload_n 0, 1) := by decide +kernel
theorem dX9_row_30 : decode cX9_row 30 = .ok (.bipush (-6), 2) := by decide +kernel
theorem dX9_row_32 : decode cX9_row 32 = .ok (.invokevirtual 57, 3) := by decide +kernel
theorem dX9_row_35 : decode cX9_row 35 = .ok (.ireturn, 1) := by decide +kernel
theorem dX9_row_36 : decode cX9_row 36 = .ok (.aload_n 0, 1) := by decide +kernel
theorem dX9_row_37 : decode cX9_row 37 = .ok (.getfield 10, 3) := by decide +kernel
theorem dX9_row_40 : decode cX9_row 40 = .ok (.getfield 240, 3) := by decide +kernel
theorem dX9_row_43 : decode cX9_row 43 = .ok (.iload_n 1, 1) := by decide +kernel
theorem dX9_row_44 : decode cX9_row 44 = .ok (.invokevirtual 71, 3) := by decide +kernel
theorem dX9_row_47 : decode cX9_row 47 = .ok (.aload_n 0, 1) := by decide +kernel
theorem dX9_row_48 : decode cX9_row 48 = .ok (.getfield 10, 3) := by decide +kernel
theorem dX9_row_51 : decode cX9_row 51 = .ok (.getfield 240, 3) := by decide +kernel
theorem dX9_row_54 : decode cX9_row 54 = .ok (.getfield 75, 3) := by decide +kernel
theorem dX9_row_57 : decode cX9_row 57 = .ok (.ireturn, 1) := by decide +kernel
theorem dX9_judge_0 : decode cX9_judge 0 = .ok (.aload_n 0, 1) := by decide +kernel
theorem dX9_judge_1 : decode cX9_judge 1 = .ok (.invokevirtual 243, 3) := by decide +kernel
theorem dX9_judge_4 : decode cX9_judge 4 = .ok (.istore_n 1, 1) := by decide +kernel
theorem dX9_judge_5 : decode cX9_judge 5 = .ok (.aload_n 0, 1) := by decide +kernel
theorem dX9_judge_6 : decode cX9_judge 6 = .ok (.getfield 10, 3) := by decide +kernel
theorem dX9_judge_9 : decode cX9_judge 9 = .ok (.getfield 240, 3) := by decide +kernel
theorem dX9_judge_12 : decode cX9_judge 12 = .ok (.invokevirtual 86, 3) := by decide +kernel
theorem dX9_judge_15 : decode cX9_judge 15 = .ok (.iload_n 1, 1) := by decide +kernel
theorem dX9_judge_16 : decode cX9_judge 16 = .ok (.ireturn, 1) := by decide +kernel
theorem dX9_image_0 : decode cX9_image 0 = .ok (.aload_n 0, 1) := by decide +kernel
theorem dX9_image_1 : decode cX9_image 1 = .ok (.getfield 16, 3) := by decide +kernel
theorem dX9_image_4 : decode cX9_image 4 = .ok (.aload_n 0, 1) := by decide +kernel
theorem dX9_image_5 : decode cX9_image 5 = .ok (.getfield 10, 3) := by decide +kernel
theorem dX9_image_8 : decode cX9_image 8 = .ok (.invokevirtual 246, 3) := by decide +kernel
theorem dX9_image_11 : decode cX9_image 11 = .ok (.aload_n 0, 1) := by decide +kernel
theorem dX9_image_12 : decode cX9_image 12 = .ok (.iconst 1, 1) := by decide +kernel
theorem dX9_image_13 : decode cX9_image 13 = .ok (.putfield 19, 3) := by decide +kernel
theorem dX9_image_16 : decode cX9_image 16 = .ok (.aload_n 0, 1) := by decide +kernel
theorem dX9_image_17 : decode cX9_image 17 = .ok (.getfield 10, 3) := by decide +kernel
theorem dX9_image_20 : decode cX9_image 20 = .ok (.getfield 89, 3) := by decide +kernel
theorem dX9_image_23 : decode cX9_image 23 = .ok (.getfield 190, 3) := by decide +kernel
theorem dX9_image_26 : decode cX9_image 26 = .ok (.ireturn, 1) := by decide +kernel
theorem dX9_on_0 : decode cX9_on 0 = .ok (.aload_n 0, 1) := by decide +kernel
theorem dX9_on_1 : decode cX9_on 1 = .ok (.getfield 19, 3) := by decide +kernel
theorem dX9_on_4 : decode cX9_on 4 = .ok (.ifCond .ne 10, 3) := by decide +kernel
theorem dX9_on_7 : decode cX9_on 7 = .ok (.aload_n 0, 1) := by decide +kernel
theorem dX9_on_8 : decode cX9_on 8 = .ok (.bipush (-3), 2) := by decide +kernel
theorem dX9_on_10 : decode cX9_on 10 = .ok (.invokevirtual 57, 3) := by decide +kernel
theorem dX9_on_13 : decode cX9_on 13 = .ok (.ireturn, 1) := by decide +kernel
theorem dX9_on_14 : decode cX9_on 14 = .ok (.aload_n 0, 1) := by decide +kernel
theorem dX9_on_15 : decode cX9_on 15 = .ok (.getfield 10, 3) := by decide +kernel
theorem dX9_on_18 : decode cX9_on 18 = .ok (.aload_n 0, 1) := by decide +kernel
theorem dX9_on_19 : decode cX9_on 19 = .ok (.getfield 16, 3) := by decide +kernel
theorem dX9_on_22 : decode cX9_on 22 = .ok (.invokevirtual 246, 3) := by decide +kernel
theorem dX9_on_25 : decode cX9_on 25 = .ok (.aload_n 0, 1) := by decide +kernel
theorem dX9_on_26 : decode cX9_on 26 = .ok (.getfield 10, 3) := by decide +kernel
theorem dX9_on_29 : decode cX9_on 29 = .ok (.getfield 89, 3) := by decide +kernel
theorem dX9_on_32 : decode cX9_on 32 = .ok (.getfield 190, 3) := by decide +kernel
theorem dX9_on_35 : decode cX9_on 35 = .ok (.ireturn, 1) := by decide +kernel
theorem dX9_count_0 : decode cX9_count 0 = .ok (.iload_n 1, 1) := by decide +kernel
theorem dX9_count_1 : decode cX9_count 1 = .ok (.tableswitch 117 0 6 #[43, 51, 62, 73, 84, 95, 106], 43) := by decide +kernel
theorem dX9_count_44 : decode cX9_count 44 = .ok (.aload_n 0, 1) := by decide +kernel
theorem dX9_count_45 : decode cX9_count 45 = .ok (.getfield 10, 3) := by decide +kernel
theorem dX9_count_48 : decode cX9_count 48 = .ok (.getfield 169, 3) := by decide +kernel
theorem dX9_count_51 : decode cX9_count 51 = .ok (.ireturn, 1) := by decide +kernel
theorem dX9_count_52 : decode cX9_count 52 = .ok (.aload_n 0, 1) := by decide +kernel
theorem dX9_count_53 : decode cX9_count 53 = .ok (.getfield 10, 3) := by decide +kernel
theorem dX9_count_56 : decode cX9_count 56 = .ok (.getfield 89, 3) := by decide +kernel
theorem dX9_count_59 : decode cX9_count 59 = .ok (.getfield 190, 3) := by decide +kernel
theorem dX9_count_62 : decode cX9_count 62 = .ok (.ireturn, 1) := by decide +kernel
theorem dX9_count_63 : decode cX9_count 63 = .ok (.aload_n 0, 1) := by decide +kernel
theorem dX9_count_64 : decode cX9_count 64 = .ok (.getfield 10, 3) := by decide +kernel
theorem dX9_count_67 : decode cX9_count 67 = .ok (.getfield 89, 3) := by decide +kernel
theorem dX9_count_70 : decode cX9_count 70 = .ok (.invokevirtual 248, 3) := by decide +kernel
theorem dX9_count_73 : decode cX9_count 73 = .ok (.ireturn, 1) := by decide +kernel
theorem dX9_count_74 : decode cX9_count 74 = .ok (.aload_n 0, 1) := by decide +kernel
theorem dX9_count_75 : decode cX9_count 75 = .ok (.getfield 10, 3) := by decide +kernel
theorem dX9_count_78 : decode cX9_count 78 = .ok (.getfield 126, 3) := by decide +kernel
theorem dX9_count_81 : decode cX9_count 81 = .ok (.getfield 130, 3) := by decide +kernel
theorem dX9_count_84 : decode cX9_count 84 = .ok (.ireturn, 1) := by decide +kernel
theorem dX9_count_85 : decode cX9_count 85 = .ok (.aload_n 0, 1) := by decide +kernel
theorem dX9_count_86 : decode cX9_count 86 = .ok (.getfield 10, 3) := by decide +kernel
theorem dX9_count_89 : decode cX9_count 89 = .ok (.getfield 89, 3) := by decide +kernel
theorem dX9_count_92 : decode cX9_count 92 = .ok (.invokevirtual 251, 3) := by decide +kernel
theorem dX9_count_95 : decode cX9_count 95 = .ok (.ireturn, 1) := by decide +kernel
theorem dX9_count_96 : decode cX9_count 96 = .ok (.aload_n 0, 1) := by decide +kernel
theorem dX9_count_97 : decode cX9_count 97 = .ok (.getfield 10, 3) := by decide +kernel
theorem dX9_count_100 : decode cX9_count 100 = .ok (.getfield 240, 3) := by decide +kernel
theorem dX9_count_103 : decode cX9_count 103 = .ok (.getfield 75, 3) := by decide +kernel
theorem dX9_count_106 : decode cX9_count 106 = .ok (.ireturn, 1) := by decide +kernel
theorem dX9_count_107 : decode cX9_count 107 = .ok (.aload_n 0, 1) := by decide +kernel
theorem dX9_count_108 : decode cX9_count 108 = .ok (.getfield 10, 3) := by decide +kernel
theorem dX9_count_111 : decode cX9_count 111 = .ok (.getfield 61, 3) := by decide +kernel
theorem dX9_count_114 : decode cX9_count 114 = .ok (.getfield 75, 3) := by decide +kernel
theorem dX9_count_117 : decode cX9_count 117 = .ok (.ireturn, 1) := by decide +kernel
theorem dX9_count_118 : decode cX9_count 118 = .ok (.iload_n 1, 1) := by decide +kernel
theorem dX9_count_119 : decode cX9_count 119 = .ok (.bipush 11, 2) := by decide +kernel
theorem dX9_count_121 : decode cX9_count 121 = .ok (.if_icmp .lt 23, 3) := by decide +kernel
theorem dX9_count_124 : decode cX9_count 124 = .ok (.iload_n 1, 1) := by decide +kernel
theorem dX9_count_125 : decode cX9_count 125 = .ok (.bipush 16, 2) := by decide +kernel
theorem dX9_count_127 : decode cX9_count 127 = .ok (.if_icmp .gt 17, 3) := by decide +kernel
theorem dX9_count_130 : decode cX9_count 130 = .ok (.aload_n 0, 1) := by decide +kernel
theorem dX9_count_131 : decode cX9_count 131 = .ok (.getfield 53, 3) := by decide +kernel
theorem dX9_count_134 : decode cX9_count 134 = .ok (.iload_n 1, 1) := by decide +kernel
theorem dX9_count_135 : decode cX9_count 135 = .ok (.bipush 10, 2) := by decide +kernel
theorem dX9_count_137 : decode cX9_count 137 = .ok (.isub, 1) := by decide +kernel
theorem dX9_count_138 : decode cX9_count 138 = .ok (.invokestatic 102, 3) := by decide +kernel
theorem dX9_count_141 : decode cX9_count 141 = .ok (.goto 5, 3) := by decide +kernel
theorem dX9_count_144 : decode cX9_count 144 = .ok (.bipush (-9), 2) := by decide +kernel
theorem dX9_count_146 : decode cX9_count 146 = .ok (.ireturn, 1) := by decide +kernel
theorem dX9_refuse_0 : decode cX9_refuse 0 = .ok (.aload_n 0, 1) := by decide +kernel
theorem dX9_refuse_1 : decode cX9_refuse 1 = .ok (.getfield 53, 3) := by decide +kernel
theorem dX9_refuse_4 : decode cX9_refuse 4 = .ok (.iload_n 1, 1) := by decide +kernel
theorem dX9_refuse_5 : decode cX9_refuse 5 = .ok (.ineg, 1) := by decide +kernel
theorem dX9_refuse_6 : decode cX9_refuse 6 = .ok (.aload_n 0, 1) := by decide +kernel
theorem dX9_refuse_7 : decode cX9_refuse 7 = .ok (.getfield 53, 3) := by decide +kernel
theorem dX9_refuse_10 : decode cX9_refuse 10 = .ok (.iload_n 1, 1) := by decide +kernel
theorem dX9_refuse_11 : decode cX9_refuse 11 = .ok (.ineg, 1) := by decide +kernel
theorem dX9_refuse_12 : decode cX9_refuse 12 = .ok (.invokestatic 102, 3) := by decide +kernel
theorem dX9_refuse_15 : decode cX9_refuse 15 = .ok (.iconst 1, 1) := by decide +kernel
theorem dX9_refuse_16 : decode cX9_refuse 16 = .ok (.iadd, 1) := by decide +kernel
theorem dX9_refuse_17 : decode cX9_refuse 17 = .ok (.invokestatic 158, 3) := by decide +kernel
theorem dX9_refuse_20 : decode cX9_refuse 20 = .ok (.iload_n 1, 1) := by decide +kernel
theorem dX9_refuse_21 : decode cX9_refuse 21 = .ok (.ireturn, 1) := by decide +kernel
theorem dX9_refuseFar_0 : decode cX9_refuseFar 0 = .ok (.ldc 254, 2) := by decide +kernel
theorem dX9_refuseFar_2 : decode cX9_refuseFar 2 = .ok (.aload_n 0, 1) := by decide +kernel
theorem dX9_refuseFar_3 : decode cX9_refuseFar 3 = .ok (.iload_n 1, 1) := by decide +kernel
theorem dX9_refuseFar_4 : decode cX9_refuseFar 4 = .ok (.invokevirtual 57, 3) := by decide +kernel
theorem dX9_refuseFar_7 : decode cX9_refuseFar 7 = .ok (.isub, 1) := by decide +kernel
theorem dX9_refuseFar_8 : decode cX9_refuseFar 8 = .ok (.ireturn, 1) := by decide +kernel
theorem dX9_nowOf_0 : decode cX9_nowOf 0 = .ok (.iload_n 1, 1) := by decide +kernel
theorem dX9_nowOf_1 : decode cX9_nowOf 1 = .ok (.tableswitch 60 0 2 #[27, 38, 49], 27) := by decide +kernel
theorem dX9_nowOf_28 : decode cX9_nowOf 28 = .ok (.aload_n 0, 1) := by decide +kernel
theorem dX9_nowOf_29 : decode cX9_nowOf 29 = .ok (.getfield 10, 3) := by decide +kernel
theorem dX9_nowOf_32 : decode cX9_nowOf 32 = .ok (.getfield 143, 3) := by decide +kernel
theorem dX9_nowOf_35 : decode cX9_nowOf 35 = .ok (.getfield 146, 3) := by decide +kernel
theorem dX9_nowOf_38 : decode cX9_nowOf 38 = .ok (.ireturn, 1) := by decide +kernel
theorem dX9_nowOf_39 : decode cX9_nowOf 39 = .ok (.aload_n 0, 1) := by decide +kernel
theorem dX9_nowOf_40 : decode cX9_nowOf 40 = .ok (.getfield 10, 3) := by decide +kernel
theorem dX9_nowOf_43 : decode cX9_nowOf 43 = .ok (.getfield 143, 3) := by decide +kernel
theorem dX9_nowOf_46 : decode cX9_nowOf 46 = .ok (.getfield 148, 3) := by decide +kernel
theorem dX9_nowOf_49 : decode cX9_nowOf 49 = .ok (.ireturn, 1) := by decide +kernel
theorem dX9_nowOf_50 : decode cX9_nowOf 50 = .ok (.aload_n 0, 1) := by decide +kernel
theorem dX9_nowOf_51 : decode cX9_nowOf 51 = .ok (.getfield 10, 3) := by decide +kernel
theorem dX9_nowOf_54 : decode cX9_nowOf 54 = .ok (.getfield 143, 3) := by decide +kernel
theorem dX9_nowOf_57 : decode cX9_nowOf 57 = .ok (.getfield 150, 3) := by decide +kernel
theorem dX9_nowOf_60 : decode cX9_nowOf 60 = .ok (.ireturn, 1) := by decide +kernel
theorem dX9_nowOf_61 : decode cX9_nowOf 61 = .ok (.aload_n 0, 1) := by decide +kernel
theorem dX9_nowOf_62 : decode cX9_nowOf 62 = .ok (.getfield 10, 3) := by decide +kernel
theorem dX9_nowOf_65 : decode cX9_nowOf 65 = .ok (.getfield 143, 3) := by decide +kernel
theorem dX9_nowOf_68 : decode cX9_nowOf 68 = .ok (.getfield 152, 3) := by decide +kernel
theorem dX9_nowOf_71 : decode cX9_nowOf 71 = .ok (.ireturn, 1) := by decide +kernel
theorem dX9_settleNow_0 : decode cX9_settleNow 0 = .ok (.aload_n 0, 1) := by decide +kernel
theorem dX9_settleNow_1 : decode cX9_settleNow 1 = .ok (.getfield 28, 3) := by decide +kernel
theorem dX9_settleNow_4 : decode cX9_settleNow 4 = .ok (.iload_n 1, 1) := by decide +kernel
theorem dX9_settleNow_5 : decode cX9_settleNow 5 = .ok (.invokevirtual 217, 3) := by decide +kernel
theorem dX9_settleNow_8 : decode cX9_settleNow 8 = .ok (.aload_n 0, 1) := by decide +kernel
theorem dX9_settleNow_9 : decode cX9_settleNow 9 = .ok (.getfield 28, 3) := by decide +kernel
theorem dX9_settleNow_12 : decode cX9_settleNow 12 = .ok (.aload_n 0, 1) := by decide +kernel
theorem dX9_settleNow_13 : decode cX9_settleNow 13 = .ok (.getfield 10, 3) := by decide +kernel
theorem dX9_settleNow_16 : decode cX9_settleNow 16 = .ok (.getfield 143, 3) := by decide +kernel
theorem dX9_settleNow_19 : decode cX9_settleNow 19 = .ok (.invokevirtual 220, 3) := by decide +kernel
theorem dX9_settleNow_22 : decode cX9_settleNow 22 = .ok (.return_, 1) := by decide +kernel
theorem dX9_settleSized_0 : decode cX9_settleSized 0 = .ok (.aload_n 0, 1) := by decide +kernel
theorem dX9_settleSized_1 : decode cX9_settleSized 1 = .ok (.getfield 28, 3) := by decide +kernel
theorem dX9_settleSized_4 : decode cX9_settleSized 4 = .ok (.iconst 0, 1) := by decide +kernel
theorem dX9_settleSized_5 : decode cX9_settleSized 5 = .ok (.invokevirtual 217, 3) := by decide +kernel
theorem dX9_settleSized_8 : decode cX9_settleSized 8 = .ok (.aload_n 0, 1) := by decide +kernel
theorem dX9_settleSized_9 : decode cX9_settleSized 9 = .ok (.getfield 28, 3) := by decide +kernel
theorem dX9_settleSized_12 : decode cX9_settleSized 12 = .ok (.iload_n 1, 1) := by decide +kernel
theorem dX9_settleSized_13 : decode cX9_settleSized 13 = .ok (.iload_n 2, 1) := by decide +kernel
theorem dX9_settleSized_14 : decode cX9_settleSized 14 = .ok (.invokevirtual 255, 3) := by decide +kernel
theorem dX9_settleSized_17 : decode cX9_settleSized 17 = .ok (.aload_n 0, 1) := by decide +kernel
theorem dX9_settleSized_18 : decode cX9_settleSized 18 = .ok (.getfield 28, 3) := by decide +kernel
theorem dX9_settleSized_21 : decode cX9_settleSized 21 = .ok (.aload_n 0, 1) := by decide +kernel
theorem dX9_settleSized_22 : decode cX9_settleSized 22 = .ok (.getfield 10, 3) := by decide +kernel
theorem dX9_settleSized_25 : decode cX9_settleSized 25 = .ok (.getfield 143, 3) := by decide +kernel
theorem dX9_settleSized_28 : decode cX9_settleSized 28 = .ok (.invokevirtual 220, 3) := by decide +kernel
theorem dX9_settleSized_31 : decode cX9_settleSized 31 = .ok (.return_, 1) := by decide +kernel
theorem dX9_settleInWeather_0 : decode cX9_settleInWeather 0 = .ok (.aload_n 0, 1) := by decide +kernel
theorem dX9_settleInWeather_1 : decode cX9_settleInWeather 1 = .ok (.getfield 49, 3) := by decide +kernel
theorem dX9_settleInWeather_4 : decode cX9_settleInWeather 4 = .ok (.aload_n 0, 1) := by decide +kernel
theorem dX9_settleInWeather_5 : decode cX9_settleInWeather 5 = .ok (.getfield 10, 3) := by decide +kernel
theorem dX9_settleInWeather_8 : decode cX9_settleInWeather 8 = .ok (.getfield 126, 3) := by decide +kernel
theorem dX9_settleInWeather_11 : decode cX9_settleInWeather 11 = .ok (.getfield 133, 3) := by decide +kernel
theorem dX9_settleInWeather_14 : decode cX9_settleInWeather 14 = .ok (.iload_n 1, 1) := by decide +kernel
theorem dX9_settleInWeather_15 : decode cX9_settleInWeather 15 = .ok (.invokestatic 102, 3) := by decide +kernel
theorem dX9_settleInWeather_18 : decode cX9_settleInWeather 18 = .ok (.aload_n 0, 1) := by decide +kernel
theorem dX9_settleInWeather_19 : decode cX9_settleInWeather 19 = .ok (.getfield 10, 3) := by decide +kernel
theorem dX9_settleInWeather_22 : decode cX9_settleInWeather 22 = .ok (.getfield 126, 3) := by decide +kernel
theorem dX9_settleInWeather_25 : decode cX9_settleInWeather 25 = .ok (.getfield 136, 3) := by decide +kernel
theorem dX9_settleInWeather_28 : decode cX9_settleInWeather 28 = .ok (.iload_n 1, 1) := by decide +kernel
theorem dX9_settleInWeather_29 : decode cX9_settleInWeather 29 = .ok (.invokestatic 102, 3) := by decide +kernel
theorem dX9_settleInWeather_32 : decode cX9_settleInWeather 32 = .ok (.aload_n 0, 1) := by decide +kernel
theorem dX9_settleInWeather_33 : decode cX9_settleInWeather 33 = .ok (.getfield 10, 3) := by decide +kernel
theorem dX9_settleInWeather_36 : decode cX9_settleInWeather 36 = .ok (.getfield 126, 3) := by decide +kernel
theorem dX9_settleInWeather_39 : decode cX9_settleInWeather 39 = .ok (.getfield 139, 3) := by decide +kernel
theorem dX9_settleInWeather_42 : decode cX9_settleInWeather 42 = .ok (.iload_n 1, 1) := by decide +kernel
theorem dX9_settleInWeather_43 : decode cX9_settleInWeather 43 = .ok (.invokestatic 102, 3) := by decide +kernel
theorem dX9_settleInWeather_46 : decode cX9_settleInWeather 46 = .ok (.aload_n 0, 1) := by decide +kernel
theorem dX9_settleInWeather_47 : decode cX9_settleInWeather 47 = .ok (.getfield 10, 3) := by decide +kernel
theorem dX9_settleInWeather_50 : decode cX9_settleInWeather 50 = .ok (.getfield 143, 3) := by decide +kernel
theorem dX9_settleInWeather_53 : decode cX9_settleInWeather 53 = .ok (.getfield 152, 3) := by decide +kernel
theorem dX9_settleInWeather_56 : decode cX9_settleInWeather 56 = .ok (.invokevirtual 213, 3) := by decide +kernel
theorem dX9_settleInWeather_59 : decode cX9_settleInWeather 59 = .ok (.aload_n 0, 1) := by decide +kernel
theorem dX9_settleInWeather_60 : decode cX9_settleInWeather 60 = .ok (.getfield 28, 3) := by decide +kernel
theorem dX9_settleInWeather_63 : decode cX9_settleInWeather 63 = .ok (.iconst 0, 1) := by decide +kernel
theorem dX9_settleInWeather_64 : decode cX9_settleInWeather 64 = .ok (.invokevirtual 217, 3) := by decide +kernel
theorem dX9_settleInWeather_67 : decode cX9_settleInWeather 67 = .ok (.aload_n 0, 1) := by decide +kernel
theorem dX9_settleInWeather_68 : decode cX9_settleInWeather 68 = .ok (.getfield 28, 3) := by decide +kernel
theorem dX9_settleInWeather_71 : decode cX9_settleInWeather 71 = .ok (.aload_n 0, 1) := by decide +kernel
theorem dX9_settleInWeather_72 : decode cX9_settleInWeather 72 = .ok (.getfield 49, 3) := by decide +kernel
theorem dX9_settleInWeather_75 : decode cX9_settleInWeather 75 = .ok (.invokevirtual 220, 3) := by decide +kernel
theorem dX9_settleInWeather_78 : decode cX9_settleInWeather 78 = .ok (.return_, 1) := by decide +kernel
theorem dX9_coalWithout_0 : decode cX9_coalWithout 0 = .ok (.aload_n 0, 1) := by decide +kernel
theorem dX9_coalWithout_1 : decode cX9_coalWithout 1 = .ok (.getfield 28, 3) := by decide +kernel
theorem dX9_coalWithout_4 : decode cX9_coalWithout 4 = .ok (.iload_n 1, 1) := by decide +kernel
theorem dX9_coalWithout_5 : decode cX9_coalWithout 5 = .ok (.invokevirtual 217, 3) := by decide +kernel
theorem dX9_coalWithout_8 : decode cX9_coalWithout 8 = .ok (.aload_n 0, 1) := by decide +kernel
theorem dX9_coalWithout_9 : decode cX9_coalWithout 9 = .ok (.getfield 28, 3) := by decide +kernel
theorem dX9_coalWithout_12 : decode cX9_coalWithout 12 = .ok (.aload_n 0, 1) := by decide +kernel
theorem dX9_coalWithout_13 : decode cX9_coalWithout 13 = .ok (.getfield 10, 3) := by decide +kernel
theorem dX9_coalWithout_16 : decode cX9_coalWithout 16 = .ok (.getfield 143, 3) := by decide +kernel
theorem dX9_coalWithout_19 : decode cX9_coalWithout 19 = .ok (.invokevirtual 220, 3) := by decide +kernel
theorem dX9_coalWithout_22 : decode cX9_coalWithout 22 = .ok (.aload_n 0, 1) := by decide +kernel
theorem dX9_coalWithout_23 : decode cX9_coalWithout 23 = .ok (.getfield 28, 3) := by decide +kernel
theorem dX9_coalWithout_26 : decode cX9_coalWithout 26 = .ok (.invokevirtual 210, 3) := by decide +kernel
theorem dX9_coalWithout_29 : decode cX9_coalWithout 29 = .ok (.aload_n 0, 1) := by decide +kernel
theorem dX9_coalWithout_30 : decode cX9_coalWithout 30 = .ok (.getfield 10, 3) := by decide +kernel
theorem dX9_coalWithout_33 : decode cX9_coalWithout 33 = .ok (.getfield 143, 3) := by decide +kernel
theorem dX9_coalWithout_36 : decode cX9_coalWithout 36 = .ok (.getfield 146, 3) := by decide +kernel
theorem dX9_coalWithout_39 : decode cX9_coalWithout 39 = .ok (.imul, 1) := by decide +kernel
theorem dX9_coalWithout_40 : decode cX9_coalWithout 40 = .ok (.ireturn, 1) := by decide +kernel
theorem dX9_idleAlone_0 : decode cX9_idleAlone 0 = .ok (.iconst 0, 1) := by decide +kernel
theorem dX9_idleAlone_1 : decode cX9_idleAlone 1 = .ok (.istore_n 2, 1) := by decide +kernel
theorem dX9_idleAlone_2 : decode cX9_idleAlone 2 = .ok (.iconst 0, 1) := by decide +kernel
theorem dX9_idleAlone_3 : decode cX9_idleAlone 3 = .ok (.istore_n 3, 1) := by decide +kernel
theorem dX9_idleAlone_4 : decode cX9_idleAlone 4 = .ok (.iload_n 3, 1) := by decide +kernel
theorem dX9_idleAlone_5 : decode cX9_idleAlone 5 = .ok (.aload_n 0, 1) := by decide +kernel
theorem dX9_idleAlone_6 : decode cX9_idleAlone 6 = .ok (.getfield 10, 3) := by decide +kernel
theorem dX9_idleAlone_9 : decode cX9_idleAlone 9 = .ok (.getfield 89, 3) := by decide +kernel
theorem dX9_idleAlone_12 : decode cX9_idleAlone 12 = .ok (.getfield 190, 3) := by decide +kernel
theorem dX9_idleAlone_15 : decode cX9_idleAlone 15 = .ok (.if_icmp .ge 40, 3) := by decide +kernel
theorem dX9_idleAlone_18 : decode cX9_idleAlone 18 = .ok (.aload_n 0, 1) := by decide +kernel
theorem dX9_idleAlone_19 : decode cX9_idleAlone 19 = .ok (.getfield 10, 3) := by decide +kernel
theorem dX9_idleAlone_22 : decode cX9_idleAlone 22 = .ok (.getfield 89, 3) := by decide +kernel
theorem dX9_idleAlone_25 : decode cX9_idleAlone 25 = .ok (.iload_n 3, 1) := by decide +kernel
theorem dX9_idleAlone_26 : decode cX9_idleAlone 26 = .ok (.invokevirtual 162, 3) := by decide +kernel
theorem dX9_idleAlone_29 : decode cX9_idleAlone 29 = .ok (.ifCond .ne 20, 3) := by decide +kernel
theorem dX9_idleAlone_32 : decode cX9_idleAlone 32 = .ok (.aload_n 0, 1) := by decide +kernel
theorem dX9_idleAlone_33 : decode cX9_idleAlone 33 = .ok (.iconst 1, 1) := by decide +kernel
theorem dX9_idleAlone_34 : decode cX9_idleAlone 34 = .ok (.iload_n 3, 1) := by decide +kernel
theorem dX9_idleAlone_35 : decode cX9_idleAlone 35 = .ok (.ishl, 1) := by decide +kernel
theorem dX9_idleAlone_36 : decode cX9_idleAlone 36 = .ok (.invokevirtual 184, 3) := by decide +kernel
theorem dX9_idleAlone_39 : decode cX9_idleAlone 39 = .ok (.iload_n 1, 1) := by decide +kernel
theorem dX9_idleAlone_40 : decode cX9_idleAlone 40 = .ok (.if_icmp .lt 9, 3) := by decide +kernel
theorem dX9_idleAlone_43 : decode cX9_idleAlone 43 = .ok (.iload_n 2, 1) := by decide +kernel
theorem dX9_idleAlone_44 : decode cX9_idleAlone 44 = .ok (.iconst 1, 1) := by decide +kernel
theorem dX9_idleAlone_45 : decode cX9_idleAlone 45 = .ok (.iload_n 3, 1) := by decide +kernel
theorem dX9_idleAlone_46 : decode cX9_idleAlone 46 = .ok (.ishl, 1) := by decide +kernel
theorem dX9_idleAlone_47 : decode cX9_idleAlone 47 = .ok (.ior, 1) := by decide +kernel
theorem dX9_idleAlone_48 : decode cX9_idleAlone 48 = .ok (.istore_n 2, 1) := by decide +kernel
theorem dX9_idleAlone_49 : decode cX9_idleAlone 49 = .ok (.iinc 3 1, 3) := by decide +kernel
theorem dX9_idleAlone_52 : decode cX9_idleAlone 52 = .ok (.goto (-48), 3) := by decide +kernel
theorem dX9_idleAlone_55 : decode cX9_idleAlone 55 = .ok (.iload_n 2, 1) := by decide +kernel
theorem dX9_idleAlone_56 : decode cX9_idleAlone 56 = .ok (.ireturn, 1) := by decide +kernel
theorem dX9_leanOf_0 : decode cX9_leanOf 0 = .ok (.aload_n 0, 1) := by decide +kernel
theorem dX9_leanOf_1 : decode cX9_leanOf 1 = .ok (.getfield 28, 3) := by decide +kernel
theorem dX9_leanOf_4 : decode cX9_leanOf 4 = .ok (.iload_n 1, 1) := by decide +kernel
theorem dX9_leanOf_5 : decode cX9_leanOf 5 = .ok (.invokevirtual 178, 3) := by decide +kernel
theorem dX9_leanOf_8 : decode cX9_leanOf 8 = .ok (.istore_n 2, 1) := by decide +kernel
theorem dX9_leanOf_9 : decode cX9_leanOf 9 = .ok (.iload_n 2, 1) := by decide +kernel
theorem dX9_leanOf_10 : decode cX9_leanOf 10 = .ok (.ifCond .le 7, 3) := by decide +kernel
theorem dX9_leanOf_13 : decode cX9_leanOf 13 = .ok (.iconst 1, 1) := by decide +kernel
theorem dX9_leanOf_14 : decode cX9_leanOf 14 = .ok (.goto 12, 3) := by decide +kernel
theorem dX9_leanOf_17 : decode cX9_leanOf 17 = .ok (.iload_n 2, 1) := by decide +kernel
theorem dX9_leanOf_18 : decode cX9_leanOf 18 = .ok (.ifCond .ge 7, 3) := by decide +kernel
theorem dX9_leanOf_21 : decode cX9_leanOf 21 = .ok (.iconst 2, 1) := by decide +kernel
theorem dX9_leanOf_22 : decode cX9_leanOf 22 = .ok (.goto 4, 3) := by decide +kernel
theorem dX9_leanOf_25 : decode cX9_leanOf 25 = .ok (.iconst 0, 1) := by decide +kernel
theorem dX9_leanOf_26 : decode cX9_leanOf 26 = .ok (.ireturn, 1) := by decide +kernel
theorem dX9_firstNotSo_0 : decode cX9_firstNotSo 0 = .ok (.aload_n 0, 1) := by decide +kernel
theorem dX9_firstNotSo_1 : decode cX9_firstNotSo 1 = .ok (.iconst 0, 1) := by decide +kernel
theorem dX9_firstNotSo_2 : decode cX9_firstNotSo 2 = .ok (.invokevirtual 172, 3) := by decide +kernel
theorem dX9_firstNotSo_5 : decode cX9_firstNotSo 5 = .ok (.aload_n 0, 1) := by decide +kernel
theorem dX9_firstNotSo_6 : decode cX9_firstNotSo 6 = .ok (.getfield 10, 3) := by decide +kernel
theorem dX9_firstNotSo_9 : decode cX9_firstNotSo 9 = .ok (.getfield 240, 3) := by decide +kernel
theorem dX9_firstNotSo_12 : decode cX9_firstNotSo 12 = .ok (.getfield 75, 3) := by decide +kernel
theorem dX9_firstNotSo_15 : decode cX9_firstNotSo 15 = .ok (.istore_n 1, 1) := by decide +kernel
theorem dX9_firstNotSo_16 : decode cX9_firstNotSo 16 = .ok (.aload_n 0, 1) := by decide +kernel
theorem dX9_firstNotSo_17 : decode cX9_firstNotSo 17 = .ok (.getfield 10, 3) := by decide +kernel
theorem dX9_firstNotSo_20 : decode cX9_firstNotSo 20 = .ok (.getfield 89, 3) := by decide +kernel
theorem dX9_firstNotSo_23 : decode cX9_firstNotSo 23 = .ok (.getfield 190, 3) := by decide +kernel
theorem dX9_firstNotSo_26 : decode cX9_firstNotSo 26 = .ok (.istore_n 2, 1) := by decide +kernel
theorem dX9_firstNotSo_27 : decode cX9_firstNotSo 27 = .ok (.iconst 0, 1) := by decide +kernel
theorem dX9_firstNotSo_28 : decode cX9_firstNotSo 28 = .ok (.istore_n 3, 1) := by decide +kernel
theorem dX9_firstNotSo_29 : decode cX9_firstNotSo 29 = .ok (.iload_n 3, 1) := by decide +kernel
theorem dX9_firstNotSo_30 : decode cX9_firstNotSo 30 = .ok (.iload_n 1, 1) := by decide +kernel
theorem dX9_firstNotSo_31 : decode cX9_firstNotSo 31 = .ok (.if_icmp .ge 35, 3) := by decide +kernel
theorem dX9_firstNotSo_34 : decode cX9_firstNotSo 34 = .ok (.iload_n 3, 1) := by decide +kernel
theorem dX9_firstNotSo_35 : decode cX9_firstNotSo 35 = .ok (.iload_n 2, 1) := by decide +kernel
theorem dX9_firstNotSo_36 : decode cX9_firstNotSo 36 = .ok (.if_icmp .ge 30, 3) := by decide +kernel
theorem dX9_firstNotSo_39 : decode cX9_firstNotSo 39 = .ok (.aload_n 0, 1) := by decide +kernel
theorem dX9_firstNotSo_40 : decode cX9_firstNotSo 40 = .ok (.getfield 10, 3) := by decide +kernel
theorem dX9_firstNotSo_43 : decode cX9_firstNotSo 43 = .ok (.getfield 240, 3) := by decide +kernel
theorem dX9_firstNotSo_46 : decode cX9_firstNotSo 46 = .ok (.iload_n 3, 1) := by decide +kernel
theorem dX9_firstNotSo_47 : decode cX9_firstNotSo 47 = .ok (.invokevirtual 258, 3) := by decide +kernel
theorem dX9_firstNotSo_50 : decode cX9_firstNotSo 50 = .ok (.aload_n 0, 1) := by decide +kernel
theorem dX9_firstNotSo_51 : decode cX9_firstNotSo 51 = .ok (.iload_n 3, 1) := by decide +kernel
theorem dX9_firstNotSo_52 : decode cX9_firstNotSo 52 = .ok (.invokevirtual 181, 3) := by decide +kernel
theorem dX9_firstNotSo_55 : decode cX9_firstNotSo 55 = .ok (.if_icmp .eq 5, 3) := by decide +kernel
theorem dX9_firstNotSo_58 : decode cX9_firstNotSo 58 = .ok (.iload_n 3, 1) := by decide +kernel
theorem dX9_firstNotSo_59 : decode cX9_firstNotSo 59 = .ok (.ireturn, 1) := by decide +kernel
theorem dX9_firstNotSo_60 : decode cX9_firstNotSo 60 = .ok (.iinc 3 1, 3) := by decide +kernel
theorem dX9_firstNotSo_63 : decode cX9_firstNotSo 63 = .ok (.goto (-34), 3) := by decide +kernel
theorem dX9_firstNotSo_66 : decode cX9_firstNotSo 66 = .ok (.iload_n 1, 1) := by decide +kernel
theorem dX9_firstNotSo_67 : decode cX9_firstNotSo 67 = .ok (.iload_n 2, 1) := by decide +kernel
theorem dX9_firstNotSo_68 : decode cX9_firstNotSo 68 = .ok (.if_icmp .ne 8, 3) := by decide +kernel
theorem dX9_firstNotSo_71 : decode cX9_firstNotSo 71 = .ok (.bipush (-9), 2) := by decide +kernel
theorem dX9_firstNotSo_73 : decode cX9_firstNotSo 73 = .ok (.goto 8, 3) := by decide +kernel
theorem dX9_firstNotSo_76 : decode cX9_firstNotSo 76 = .ok (.iload_n 1, 1) := by decide +kernel
theorem dX9_firstNotSo_77 : decode cX9_firstNotSo 77 = .ok (.iload_n 2, 1) := by decide +kernel
theorem dX9_firstNotSo_78 : decode cX9_firstNotSo 78 = .ok (.invokestatic 261, 3) := by decide +kernel
theorem dX9_firstNotSo_81 : decode cX9_firstNotSo 81 = .ok (.ireturn, 1) := by decide +kernel
end
section
theorem dX10_init_0 : decode cX10_init 0 = .ok (.aload_n 0, 1) := by decide +kernel
theorem dX10_init_1 : decode cX10_init 1 = .ok (.invokespecial 1, 3) := by decide +kernel
theorem dX10_init_4 : decode cX10_init 4 = .ok (.aload_n 0, 1) := by decide +kernel
theorem dX10_init_5 : decode cX10_init 5 = .ok (.bipush 80, 2) := by decide +kernel
theorem dX10_init_7 : decode cX10_init 7 = .ok (.newarray .int, 2) := by decide +kernel
theorem dX10_init_9 : decode cX10_init 9 = .ok (.putfield 7, 3) := by decide +kernel
theorem dX10_init_12 : decode cX10_init 12 = .ok (.aload_n 0, 1) := by decide +kernel
theorem dX10_init_13 : decode cX10_init 13 = .ok (.bipush 10, 2) := by decide +kernel
theorem dX10_init_15 : decode cX10_init 15 = .ok (.newarray .int, 2) := by decide +kernel
theorem dX10_init_17 : decode cX10_init 17 = .ok (.putfield 13, 3) := by decide +kernel
theorem dX10_init_20 : decode cX10_init 20 = .ok (.aload_n 0, 1) := by decide +kernel
theorem dX10_init_21 : decode cX10_init 21 = .ok (.bipush 10, 2) := by decide +kernel
theorem dX10_init_23 : decode cX10_init 23 = .ok (.newarray .int, 2) := by decide +kernel
theorem dX10_init_25 : decode cX10_init 25 = .ok (.putfield 16, 3) := by decide +kernel
theorem dX10_init_28 : decode cX10_init 28 = .ok (.aload_n 0, 1) := by decide +kernel
theorem dX10_init_29 : decode cX10_init 29 = .ok (.bipush 10, 2) := by decide +kernel
theorem dX10_init_31 : decode cX10_init 31 = .ok (.newarray .int, 2) := by decide +kernel
theorem dX10_init_33 : decode cX10_init 33 = .ok (.putfield 19, 3) := by decide +kernel
theorem dX10_init_36 : decode cX10_init 36 = .ok (.aload_n 0, 1) := by decide +kernel
theorem dX10_init_37 : decode cX10_init 37 = .ok (.bipush 10, 2) := by decide +kernel
theorem dX10_init_39 : decode cX10_init 39 = .ok (.newarray .int, 2) := by decide +kernel
theorem dX10_init_41 : decode cX10_init 41 = .ok (.putfield 22, 3) := by decide +kernel
theorem dX10_init_44 : decode cX10_init 44 = .ok (.aload_n 0, 1) := by decide +kernel
theorem dX10_init_45 : decode cX10_init 45 = .ok (.bipush 10, 2) := by decide +kernel
theorem dX10_init_47 : decode cX10_init 47 = .ok (.newarray .int, 2) := by decide +kernel
theorem dX10_init_49 : decode cX10_init 49 = .ok (.putfield 25, 3) := by decide +kernel
theorem dX10_init_52 : decode cX10_init 52 = .ok (.aload_n 0, 1) := by decide +kernel
theorem dX10_init_53 : decode cX10_init 53 = .ok (.bipush 10, 2) := by decide +kernel
theorem dX10_init_55 : decode cX10_init 55 = .ok (.newarray .int, 2) := by decide +kernel
theorem dX10_init_57 : decode cX10_init 57 = .ok (.putfield 28, 3) := by decide +kernel
theorem dX10_init_60 : decode cX10_init 60 = .ok (.aload_n 0, 1) := by decide +kernel
theorem dX10_init_61 : decode cX10_init 61 = .ok (.bipush 10, 2) := by decide +kernel
theorem dX10_init_63 : decode cX10_init 63 = .ok (.newarray .int, 2) := by decide +kernel
theorem dX10_init_65 : decode cX10_init 65 = .ok (.putfield 31, 3) := by decide +kernel
theorem dX10_init_68 : decode cX10_init 68 = .ok (.aload_n 0, 1) := by decide +kernel
theorem dX10_init_69 : decode cX10_init 69 = .ok (.bipush 12, 2) := by decide +kernel
theorem dX10_init_71 : decode cX10_init 71 = .ok (.newarray .int, 2) := by decide +kernel
theorem dX10_init_73 : decode cX10_init 73 = .ok (.putfield 34, 3) := by decide +kernel
theorem dX10_init_76 : decode cX10_init 76 = .ok (.aload_n 0, 1) := by decide +kernel
theorem dX10_init_77 : decode cX10_init 77 = .ok (.iconst 3, 1) := by decide +kernel
theorem dX10_init_78 : decode cX10_init 78 = .ok (.newarray .int, 2) := by decide +kernel
theorem dX10_init_80 : decode cX10_init 80 = .ok (.putfield 37, 3) := by decide +kernel
theorem dX10_init_83 : decode cX10_init 83 = .ok (.aload_n 0, 1) := by decide +kernel
theorem dX10_init_84 : decode cX10_init 84 = .ok (.bipush 10, 2) := by decide +kernel
theorem dX10_init_86 : decode cX10_init 86 = .ok (.newarray .int, 2) := by decide +kernel
theorem dX10_init_88 : decode cX10_init 88 = .ok (.putfield 40, 3) := by decide +kernel
theorem dX10_init_91 : decode cX10_init 91 = .ok (.aload_n 0, 1) := by decide +kernel
theorem dX10_init_92 : decode cX10_init 92 = .ok (.bipush 7, 2) := by decide +kernel
theorem dX10_init_94 : decode cX10_init 94 = .ok (.newarray .int, 2) := by decide +kernel
theorem dX10_init_96 : decode cX10_init 96 = .ok (.putfield 43, 3) := by decide +kernel
theorem dX10_init_99 : decode cX10_init 99 = .ok (.aload_n 0, 1) := by decide +kernel
theorem dX10_init_100 : decode cX10_init 100 = .ok (.bipush 6, 2) := by decide +kernel
theorem dX10_init_102 : decode cX10_init 102 = .ok (.newarray .int, 2) := by decide +kernel
theorem dX10_init_104 : decode cX10_init 104 = .ok (.putfield 46, 3) := by decide +kernel
theorem dX10_init_107 : decode cX10_init 107 = .ok (.aload_n 0, 1) := by decide +kernel
theorem dX10_init_108 : decode cX10_init 108 = .ok (.bipush 10, 2) := by decide +kernel
theorem dX10_init_110 : decode cX10_init 110 = .ok (.newarray .int, 2) := by decide +kernel
theorem dX10_init_112 : decode cX10_init 112 = .ok (.putfield 49, 3) := by decide +kernel
theorem dX10_init_115 : decode cX10_init 115 = .ok (.aload_n 0, 1) := by decide +kernel
theorem dX10_init_116 : decode cX10_init 116 = .ok (.sipush 4096, 3) := by decide +kernel
theorem dX10_init_119 : decode cX10_init 119 = .ok (.newarray .int, 2) := by decide +kernel
theorem dX10_init_121 : decode cX10_init 121 = .ok (.putfield 52, 3) := by decide +kernel
theorem dX10_init_124 : decode cX10_init 124 = .ok (.aload_n 0, 1) := by decide +kernel
theorem dX10_init_125 : decode cX10_init 125 = .ok (.bipush 6, 2) := by decide +kernel
theorem dX10_init_127 : decode cX10_init 127 = .ok (.newarray .int, 2) := by decide +kernel
theorem dX10_init_129 : decode cX10_init 129 = .ok (.putfield 55, 3) := by decide +kernel
theorem dX10_init_132 : decode cX10_init 132 = .ok (.aload_n 0, 1) := by decide +kernel
theorem dX10_init_133 : decode cX10_init 133 = .ok (.bipush 90, 2) := by decide +kernel
theorem dX10_init_135 : decode cX10_init 135 = .ok (.newarray .int, 2) := by decide +kernel
theorem dX10_init_137 : decode cX10_init 137 = .ok (.putfield 58, 3) := by decide +kernel
theorem dX10_init_140 : decode cX10_init 140 = .ok (.aload_n 0, 1) := by decide +kernel
theorem dX10_init_141 : decode cX10_init 141 = .ok (.iconst 2, 1) := by decide +kernel
theorem dX10_init_142 : decode cX10_init 142 = .ok (.putfield 61, 3) := by decide +kernel
theorem dX10_init_145 : decode cX10_init 145 = .ok (.aload_n 0, 1) := by decide +kernel
theorem dX10_init_146 : decode cX10_init 146 = .ok (.getfield 37, 3) := by decide +kernel
theorem dX10_init_149 : decode cX10_init 149 = .ok (.iconst 0, 1) := by decide +kernel
theorem dX10_init_150 : decode cX10_init 150 = .ok (.bipush 10, 2) := by decide +kernel
theorem dX10_init_152 : decode cX10_init 152 = .ok (.iastore, 1) := by decide +kernel
theorem dX10_init_153 : decode cX10_init 153 = .ok (.iconst 0, 1) := by decide +kernel
theorem dX10_init_154 : decode cX10_init 154 = .ok (.istore_n 1, 1) := by decide +kernel
theorem dX10_init_155 : decode cX10_init 155 = .ok (.iconst 0, 1) := by decide +kernel
theorem dX10_init_156 : decode cX10_init 156 = .ok (.istore_n 2, 1) := by decide +kernel
theorem dX10_init_157 : decode cX10_init 157 = .ok (.iload_n 2, 1) := by decide +kernel
theorem dX10_init_158 : decode cX10_init 158 = .ok (.sipush 4096, 3) := by decide +kernel
theorem dX10_init_161 : decode cX10_init 161 = .ok (.if_icmp .ge 30, 3) := by decide +kernel
theorem dX10_init_164 : decode cX10_init 164 = .ok (.iload_n 1, 1) := by decide +kernel
theorem dX10_init_165 : decode cX10_init 165 = .ok (.iconst 1, 1) := by decide +kernel
theorem dX10_init_166 : decode cX10_init 166 = .ok (.iadd, 1) := by decide +kernel
theorem dX10_init_167 : decode cX10_init 167 = .ok (.iload_n 1, 1) := by decide +kernel
theorem dX10_init_168 : decode cX10_init 168 = .ok (.iconst 1, 1) := by decide +kernel
theorem dX10_init_169 : decode cX10_init 169 = .ok (.iadd, 1) := by decide +kernel
theorem dX10_init_170 : decode cX10_init 170 = .ok (.imul, 1) := by decide +kernel
theorem dX10_init_171 : decode cX10_init 171 = .ok (.iload_n 2, 1) := by decide +kernel
theorem dX10_init_172 : decode cX10_init 172 = .ok (.if_icmp .gt 6, 3) := by decide +kernel
theorem dX10_init_175 : decode cX10_init 175 = .ok (.iinc 1 1, 3) := by decide +kernel
theorem dX10_init_178 : decode cX10_init 178 = .ok (.aload_n 0, 1) := by decide +kernel
theorem dX10_init_179 : decode cX10_init 179 = .ok (.getfield 52, 3) := by decide +kernel
theorem dX10_init_182 : decode cX10_init 182 = .ok (.iload_n 2, 1) := by decide +kernel
theorem dX10_init_183 : decode cX10_init 183 = .ok (.iload_n 1, 1) := by decide +kernel
theorem dX10_init_184 : decode cX10_init 184 = .ok (.iastore, 1) := by decide +kernel
theorem dX10_init_185 : decode cX10_init 185 = .ok (.iinc 2 1, 3) := by decide +kernel
theorem dX10_init_188 : decode cX10_init 188 = .ok (.goto (-31), 3) := by decide +kernel
theorem dX10_init_191 : decode cX10_init 191 = .ok (.return_, 1) := by decide +kernel
theorem dX10_no_0 : decode cX10_no 0 = .ok (.aload_n 0, 1) := by decide +kernel
theorem dX10_no_1 : decode cX10_no 1 = .ok (.getfield 43, 3) := by decide +kernel
theorem dX10_no_4 : decode cX10_no 4 = .ok (.iload_n 1, 1) := by decide +kernel
theorem dX10_no_5 : decode cX10_no 5 = .ok (.ineg, 1) := by decide +kernel
theorem dX10_no_6 : decode cX10_no 6 = .ok (.dup2, 1) := by decide +kernel
theorem dX10_no_7 : decode cX10_no 7 = .ok (.iaload, 1) := by decide +kernel
theorem dX10_no_8 : decode cX10_no 8 = .ok (.iconst 1, 1) := by decide +kernel
theorem dX10_no_9 : decode cX10_no 9 = .ok (.iadd, 1) := by decide +kernel
theorem dX10_no_10 : decode cX10_no 10 = .ok (.iastore, 1) := by decide +kernel
theorem dX10_no_11 : decode cX10_no 11 = .ok (.iload_n 1, 1) := by decide +kernel
theorem dX10_no_12 : decode cX10_no 12 = .ok (.ireturn, 1) := by decide +kernel
theorem dX10_isHole_0 : decode cX10_isHole 0 = .ok (.iload_n 1, 1) := by decide +kernel
theorem dX10_isHole_1 : decode cX10_isHole 1 = .ok (.ifCond .lt 15, 3) := by decide +kernel
theorem dX10_isHole_4 : decode cX10_isHole 4 = .ok (.iload_n 1, 1) := by decide +kernel
theorem dX10_isHole_5 : decode cX10_isHole 5 = .ok (.aload_n 0, 1) := by decide +kernel
theorem dX10_isHole_6 : decode cX10_isHole 6 = .ok (.getfield 65, 3) := by decide +kernel
theorem dX10_isHole_9 : decode cX10_isHole 9 = .ok (.if_icmp .ge 7, 3) := by decide +kernel
theorem dX10_isHole_12 : decode cX10_isHole 12 = .ok (.iconst 1, 1) := by decide +kernel
theorem dX10_isHole_13 : decode cX10_isHole 13 = .ok (.goto 4, 3) := by decide +kernel
theorem dX10_isHole_16 : decode cX10_isHole 16 = .ok (.iconst 0, 1) := by decide +kernel
theorem dX10_isHole_17 : decode cX10_isHole 17 = .ok (.ireturn, 1) := by decide +kernel
theorem dX10_isDoor_0 : decode cX10_isDoor 0 = .ok (.aload_n 0, 1) := by decide +kernel
theorem dX10_isDoor_1 : decode cX10_isDoor 1 = .ok (.getfield 19, 3) := by decide +kernel
theorem dX10_isDoor_4 : decode cX10_isDoor 4 = .ok (.iload_n 1, 1) := by decide +kernel
theorem dX10_isDoor_5 : decode cX10_isDoor 5 = .ok (.iaload, 1) := by decide +kernel
theorem dX10_isDoor_6 : decode cX10_isDoor 6 = .ok (.bipush 7, 2) := by decide +kernel
theorem dX10_isDoor_8 : decode cX10_isDoor 8 = .ok (.if_icmp .ne 7, 3) := by decide +kernel
theorem dX10_isDoor_11 : decode cX10_isDoor 11 = .ok (.iconst 1, 1) := by decide +kernel
theorem dX10_isDoor_12 : decode cX10_isDoor 12 = .ok (.goto 4, 3) := by decide +kernel
theorem dX10_isDoor_15 : decode cX10_isDoor 15 = .ok (.iconst 0, 1) := by decide +kernel
theorem dX10_isDoor_16 : decode cX10_isDoor 16 = .ok (.ireturn, 1) := by decide +kernel
theorem dX10_letter_0 : decode cX10_letter 0 = .ok (.iload_n 1, 1) := by decide +kernel
theorem dX10_letter_1 : decode cX10_letter 1 = .ok (.ifCond .ge 10, 3) := by decide +kernel
theorem dX10_letter_4 : decode cX10_letter 4 = .ok (.aload_n 0, 1) := by decide +kernel
theorem dX10_letter_5 : decode cX10_letter 5 = .ok (.bipush (-4), 2) := by decide +kernel
theorem dX10_letter_7 : decode cX10_letter 7 = .ok (.invokevirtual 68, 3) := by decide +kernel
theorem dX10_letter_10 : decode cX10_letter 10 = .ok (.ireturn, 1) := by decide +kernel
theorem dX10_letter_11 : decode cX10_letter 11 = .ok (.iload_n 1, 1) := by decide +kernel
theorem dX10_letter_12 : decode cX10_letter 12 = .ok (.sipush 255, 3) := by decide +kernel
theorem dX10_letter_15 : decode cX10_letter 15 = .ok (.if_icmp .gt 12, 3) := by decide +kernel
theorem dX10_letter_18 : decode cX10_letter 18 = .ok (.aload_n 0, 1) := by decide +kernel
theorem dX10_letter_19 : decode cX10_letter 19 = .ok (.getfield 72, 3) := by decide +kernel
theorem dX10_letter_22 : decode cX10_letter 22 = .ok (.bipush 80, 2) := by decide +kernel
theorem dX10_letter_24 : decode cX10_letter 24 = .ok (.if_icmp .ne 10, 3) := by decide +kernel
theorem dX10_letter_27 : decode cX10_letter 27 = .ok (.aload_n 0, 1) := by decide +kernel
theorem dX10_letter_28 : decode cX10_letter 28 = .ok (.bipush (-6), 2) := by decide +kernel
theorem dX10_letter_30 : decode cX10_letter 30 = .ok (.invokevirtual 68, 3) := by decide +kernel
theorem dX10_letter_33 : decode cX10_letter 33 = .ok (.ireturn, 1) := by decide +kernel
theorem dX10_letter_34 : decode cX10_letter 34 = .ok (.aload_n 0, 1) := by decide +kernel
theorem dX10_letter_35 : decode cX10_letter 35 = .ok (.getfield 7, 3) := by decide +kernel
theorem dX10_letter_38 : decode cX10_letter 38 = .ok (.aload_n 0, 1) := by decide +kernel
theorem dX10_letter_39 : decode cX10_letter 39 = .ok (.getfield 72, 3) := by decide +kernel
theorem dX10_letter_42 : decode cX10_letter 42 = .ok (.iload_n 1, 1) := by decide +kernel
theorem dX10_letter_43 : decode cX10_letter 43 = .ok (.iastore, 1) := by decide +kernel
theorem dX10_letter_44 : decode cX10_letter 44 = .ok (.aload_n 0, 1) := by decide +kernel
theorem dX10_letter_45 : decode cX10_letter 45 = .ok (.dup, 1) := by decide +kernel
theorem dX10_letter_46 : decode cX10_letter 46 = .ok (.getfield 72, 3) := by decide +kernel
theorem dX10_letter_49 : decode cX10_letter 49 = .ok (.iconst 1, 1) := by decide +kernel
theorem dX10_letter_50 : decode cX10_letter 50 = .ok (.iadd, 1) := by decide +kernel
theorem dX10_letter_51 : decode cX10_letter 51 = .ok (.dup_x1, 1) := by decide +kernel
theorem dX10_letter_52 : decode cX10_letter 52 = .ok (.putfield 72, 3) := by decide +kernel
theorem dX10_letter_55 : decode cX10_letter 55 = .ok (.ireturn, 1) := by decide +kernel
theorem dX10_sign_0 : decode cX10_sign 0 = .ok (.aload_n 0, 1) := by decide +kernel
theorem dX10_sign_1 : decode cX10_sign 1 = .ok (.getfield 75, 3) := by decide +kernel
theorem dX10_sign_4 : decode cX10_sign 4 = .ok (.aload_n 0, 1) := by decide +kernel
theorem dX10_sign_5 : decode cX10_sign 5 = .ok (.getfield 72, 3) := by decide +kernel
theorem dX10_sign_8 : decode cX10_sign 8 = .ok (.if_icmp .ge 15, 3) := by decide +kernel
theorem dX10_sign_11 : decode cX10_sign 11 = .ok (.aload_n 0, 1) := by decide +kernel
theorem dX10_sign_12 : decode cX10_sign 12 = .ok (.getfield 7, 3) := by decide +kernel
theorem dX10_sign_15 : decode cX10_sign 15 = .ok (.aload_n 0, 1) := by decide +kernel
theorem dX10_sign_16 : decode cX10_sign 16 = .ok (.getfield 75, 3) := by decide +kernel
theorem dX10_sign_19 : decode cX10_sign 19 = .ok (.iaload, 1) := by decide +kernel
theorem dX10_sign_20 : decode cX10_sign 20 = .ok (.goto 4, 3) := by decide +kernel
theorem dX10_sign_23 : decode cX10_sign 23 = .ok (.iconst (-1), 1) := by decide +kernel
theorem dX10_sign_24 : decode cX10_sign 24 = .ok (.ireturn, 1) := by decide +kernel
theorem dX10_is_0 : decode cX10_is 0 = .ok (.aload_n 0, 1) := by decide +kernel
theorem dX10_is_1 : decode cX10_is 1 = .ok (.invokevirtual 78, 3) := by decide +kernel
theorem dX10_is_4 : decode cX10_is 4 = .ok (.iload_n 1, 1) := by decide +kernel
theorem dX10_is_5 : decode cX10_is 5 = .ok (.if_icmp .eq 5, 3) := by decide +kernel
theorem dX10_is_8 : decode cX10_is 8 = .ok (.iconst 0, 1) := by decide +kernel
theorem dX10_is_9 : decode cX10_is 9 = .ok (.ireturn, 1) := by decide +kernel
theorem dX10_is_10 : decode cX10_is 10 = .ok (.aload_n 0, 1) := by decide +kernel
theorem dX10_is_11 : decode cX10_is 11 = .ok (.dup, 1) := by decide +kernel
theorem dX10_is_12 : decode cX10_is 12 = .ok (.getfield 75, 3) := by decide +kernel
theorem dX10_is_15 : decode cX10_is 15 = .ok (.iconst 1, 1) := by decide +kernel
theorem dX10_is_16 : decode cX10_is 16 = .ok (.iadd, 1) := by decide +kernel
theorem dX10_is_17 : decode cX10_is 17 = .ok (.putfield 75, 3) := by decide +kernel
theorem dX10_is_20 : decode cX10_is 20 = .ok (.iconst 1, 1) := by decide +kernel
theorem dX10_is_21 : decode cX10_is 21 = .ok (.ireturn, 1) := by decide +kernel
theorem dX10_isDigit_0 : decode cX10_isDigit 0 = .ok (.iload_n 0, 1) := by decide +kernel
theorem dX10_isDigit_1 : decode cX10_isDigit 1 = .ok (.bipush 48, 2) := by decide +kernel
theorem dX10_isDigit_3 : decode cX10_isDigit 3 = .ok (.if_icmp .lt 13, 3) := by decide +kernel
theorem dX10_isDigit_6 : decode cX10_isDigit 6 = .ok (.iload_n 0, 1) := by decide +kernel
theorem dX10_isDigit_7 : decode cX10_isDigit 7 = .ok (.bipush 57, 2) := by decide +kernel
theorem dX10_isDigit_9 : decode cX10_isDigit 9 = .ok (.if_icmp .gt 7, 3) := by decide +kernel
theorem dX10_isDigit_12 : decode cX10_isDigit 12 = .ok (.iconst 1, 1) := by decide +kernel
theorem dX10_isDigit_13 : decode cX10_isDigit 13 = .ok (.goto 4, 3) := by decide +kernel
theorem dX10_isDigit_16 : decode cX10_isDigit 16 = .ok (.iconst 0, 1) := by decide +kernel
theorem dX10_isDigit_17 : decode cX10_isDigit 17 = .ok (.ireturn, 1) := by decide +kernel
theorem dX10_number_0 : decode cX10_number 0 = .ok (.aload_n 0, 1) := by decide +kernel
theorem dX10_number_1 : decode cX10_number 1 = .ok (.invokevirtual 78, 3) := by decide +kernel
theorem dX10_number_4 : decode cX10_number 4 = .ok (.invokestatic 82, 3) := by decide +kernel
theorem dX10_number_7 : decode cX10_number 7 = .ok (.ifCond .ne 5, 3) := by decide +kernel
theorem dX10_number_10 : decode cX10_number 10 = .ok (.iconst 0, 1) := by decide +kernel
theorem dX10_number_11 : decode cX10_number 11 = .ok (.ireturn, 1) := by decide +kernel
theorem dX10_number_12 : decode cX10_number 12 = .ok (.aload_n 0, 1) := by decide +kernel
theorem dX10_number_13 : decode cX10_number 13 = .ok (.getfield 55, 3) := by decide +kernel
theorem dX10_number_16 : decode cX10_number 16 = .ok (.iload_n 1, 1) := by decide +kernel
theorem dX10_number_17 : decode cX10_number 17 = .ok (.iconst 0, 1) := by decide +kernel
theorem dX10_number_18 : decode cX10_number 18 = .ok (.iastore, 1) := by decide +kernel
theorem dX10_number_19 : decode cX10_number 19 = .ok (.iconst 0, 1) := by decide +kernel
theorem dX10_number_20 : decode cX10_number 20 = .ok (.istore_n 3, 1) := by decide +kernel
theorem dX10_number_21 : decode cX10_number 21 = .ok (.iload_n 3, 1) := by decide +kernel
theorem dX10_number_22 : decode cX10_number 22 = .ok (.iload_n 2, 1) := by decide +kernel
theorem dX10_number_23 : decode cX10_number 23 = .ok (.if_icmp .ge 54, 3) := by decide +kernel
theorem dX10_number_26 : decode cX10_number 26 = .ok (.aload_n 0, 1) := by decide +kernel
theorem dX10_number_27 : decode cX10_number 27 = .ok (.invokevirtual 78, 3) := by decide +kernel
theorem dX10_number_30 : decode cX10_number 30 = .ok (.invokestatic 82, 3) := by decide +kernel
theorem dX10_number_33 : decode cX10_number 33 = .ok (.ifCond .eq 44, 3) := by decide +kernel
theorem dX10_number_36 : decode cX10_number 36 = .ok (.aload_n 0, 1) := by decide +kernel
theorem dX10_number_37 : decode cX10_number 37 = .ok (.getfield 55, 3) := by decide +kernel
theorem dX10_number_40 : decode cX10_number 40 = .ok (.iload_n 1, 1) := by decide +kernel
theorem dX10_number_41 : decode cX10_number 41 = .ok (.bipush 10, 2) := by decide +kernel
theorem dX10_number_43 : decode cX10_number 43 = .ok (.aload_n 0, 1) := by decide +kernel
theorem dX10_number_44 : decode cX10_number 44 = .ok (.getfield 55, 3) := by decide +kernel
theorem dX10_number_47 : decode cX10_number 47 = .ok (.iload_n 1, 1) := by decide +kernel
theorem dX10_number_48 : decode cX10_number 48 = .ok (.iaload, 1) := by decide +kernel
theorem dX10_number_49 : decode cX10_number 49 = .ok (.imul, 1) := by decide +kernel
theorem dX10_number_50 : decode cX10_number 50 = .ok (.aload_n 0, 1) := by decide +kernel
theorem dX10_number_51 : decode cX10_number 51 = .ok (.getfield 7, 3) := by decide +kernel
theorem dX10_number_54 : decode cX10_number 54 = .ok (.aload_n 0, 1) := by decide +kernel
theorem dX10_number_55 : decode cX10_number 55 = .ok (.dup, 1) := by decide +kernel
theorem dX10_number_56 : decode cX10_number 56 = .ok (.getfield 75, 3) := by decide +kernel
theorem dX10_number_59 : decode cX10_number 59 = .ok (.dup_x1, 1) := by decide +kernel
theorem dX10_number_60 : decode cX10_number 60 = .ok (.iconst 1, 1) := by decide +kernel
theorem dX10_number_61 : decode cX10_number 61 = .ok (.iadd, 1) := by decide +kernel
theorem dX10_number_62 : decode cX10_number 62 = .ok (.putfield 75, 3) := by decide +kernel
theorem dX10_number_65 : decode cX10_number 65 = .ok (.iaload, 1) := by decide +kernel
theorem dX10_number_66 : decode cX10_number 66 = .ok (.iadd, 1) := by decide +kernel
theorem dX10_number_67 : decode cX10_number 67 = .ok (.bipush 48, 2) := by decide +kernel
theorem dX10_number_69 : decode cX10_number 69 = .ok (.isub, 1) := by decide +kernel
theorem dX10_number_70 : decode cX10_number 70 = .ok (.iastore, 1) := by decide +kernel
theorem dX10_number_71 : decode cX10_number 71 = .ok (.iinc 3 1, 3) := by decide +kernel
theorem dX10_number_74 : decode cX10_number 74 = .ok (.goto (-53), 3) := by decide +kernel
theorem dX10_number_77 : decode cX10_number 77 = .ok (.iconst 1, 1) := by decide +kernel
theorem dX10_number_78 : decode cX10_number 78 = .ok (.ireturn, 1) := by decide +kernel
theorem dX10_statement_0 : decode cX10_statement 0 = .ok (.aload_n 0, 1) := by decide +kernel
theorem dX10_statement_1 : decode cX10_statement 1 = .ok (.bipush 110, 2) := by decide +kernel
theorem dX10_statement_3 : decode cX10_statement 3 = .ok (.invokevirtual 86, 3) := by decide +kernel
theorem dX10_statement_6 : decode cX10_statement 6 = .ok (.ifCond .eq 27, 3) := by decide +kernel
theorem dX10_statement_9 : decode cX10_statement 9 = .ok (.aload_n 0, 1) := by decide +kernel
theorem dX10_statement_10 : decode cX10_statement 10 = .ok (.iconst 0, 1) := by decide +kernel
theorem dX10_statement_11 : decode cX10_statement 11 = .ok (.iconst 1, 1) := by decide +kernel
theorem dX10_statement_12 : decode cX10_statement 12 = .ok (.invokevirtual 90, 3) := by decide +kernel
theorem dX10_statement_15 : decode cX10_statement 15 = .ok (.ifCond .eq 16, 3) := by decide +kernel
theorem dX10_statement_18 : decode cX10_statement 18 = .ok (.aload_n 0, 1) := by decide +kernel
theorem dX10_statement_19 : decode cX10_statement 19 = .ok (.bipush 59, 2) := by decide +kernel
theorem dX10_statement_21 : decode cX10_statement 21 = .ok (.invokevirtual 86, 3) := by decide +kernel
theorem dX10_statement_24 : decode cX10_statement 24 = .ok (.ifCond .eq 7, 3) := by decide +kernel
theorem dX10_statement_27 : decode cX10_statement 27 = .ok (.iconst 0, 1) := by decide +kernel
theorem dX10_statement_28 : decode cX10_statement 28 = .ok (.goto 4, 3) := by decide +kernel
theorem dX10_statement_31 : decode cX10_statement 31 = .ok (.iconst (-1), 1) := by decide +kernel
theorem dX10_statement_32 : decode cX10_statement 32 = .ok (.ireturn, 1) := by decide +kernel
theorem dX10_statement_33 : decode cX10_statement 33 = .ok (.aload_n 0, 1) := by decide +kernel
theorem dX10_statement_34 : decode cX10_statement 34 = .ok (.bipush 100, 2) := by decide +kernel
theorem dX10_statement_36 : decode cX10_statement 36 = .ok (.invokevirtual 86, 3) := by decide +kernel
theorem dX10_statement_39 : decode cX10_statement 39 = .ok (.ifCond .eq 45, 3) := by decide +kernel
theorem dX10_statement_42 : decode cX10_statement 42 = .ok (.aload_n 0, 1) := by decide +kernel
theorem dX10_statement_43 : decode cX10_statement 43 = .ok (.iconst 0, 1) := by decide +kernel
theorem dX10_statement_44 : decode cX10_statement 44 = .ok (.iconst 1, 1) := by decide +kernel
theorem dX10_statement_45 : decode cX10_statement 45 = .ok (.invokevirtual 90, 3) := by decide +kernel
theorem dX10_statement_48 : decode cX10_statement 48 = .ok (.ifCond .eq 34, 3) := by decide +kernel
theorem dX10_statement_51 : decode cX10_statement 51 = .ok (.aload_n 0, 1) := by decide +kernel
theorem dX10_statement_52 : decode cX10_statement 52 = .ok (.iconst 1, 1) := by decide +kernel
theorem dX10_statement_53 : decode cX10_statement 53 = .ok (.iconst 1, 1) := by decide +kernel
theorem dX10_statement_54 : decode cX10_statement 54 = .ok (.invokevirtual 90, 3) := by decide +kernel
theorem dX10_statement_57 : decode cX10_statement 57 = .ok (.ifCond .eq 25, 3) := by decide +kernel
theorem dX10_statement_60 : decode cX10_statement 60 = .ok (.aload_n 0, 1) := by decide +kernel
theorem dX10_statement_61 : decode cX10_statement 61 = .ok (.iconst 2, 1) := by decide +kernel
theorem dX10_statement_62 : decode cX10_statement 62 = .ok (.iconst 1, 1) := by decide +kernel
theorem dX10_statement_63 : decode cX10_statement 63 = .ok (.invokevirtual 90, 3) := by decide +kernel
theorem dX10_statement_66 : decode cX10_statement 66 = .ok (.ifCond .eq 16, 3) := by decide +kernel
theorem dX10_statement_69 : decode cX10_statement 69 = .ok (.aload_n 0, 1) := by decide +kernel
theorem dX10_statement_70 : decode cX10_statement 70 = .ok (.bipush 59, 2) := by decide +kernel
theorem dX10_statement_72 : decode cX10_statement 72 = .ok (.invokevirtual 86, 3) := by decide +kernel
theorem dX10_statement_75 : decode cX10_statement 75 = .ok (.ifCond .eq 7, 3) := by decide +kernel
theorem dX10_statement_78 : decode cX10_statement 78 = .ok (.iconst 1, 1) := by decide +kernel
theorem dX10_statement_79 : decode cX10_statement 79 = .ok (.goto 4, 3) := by decide +kernel
theorem dX10_statement_82 : decode cX10_statement 82 = .ok (.iconst (-1), 1) := by decide +kernel
theorem dX10_statement_83 : decode cX10_statement 83 = .ok (.ireturn, 1) := by decide +kernel
theorem dX10_statement_84 : decode cX10_statement 84 = .ok (.aload_n 0, 1) := by decide +kernel
theorem dX10_statement_85 : decode cX10_statement 85 = .ok (.bipush 119, 2) := by decide +kernel
theorem dX10_statement_87 : decode cX10_statement 87 = .ok (.invokevirtual 86, 3) := by decide +kernel
theorem dX10_statement_90 : decode cX10_statement 90 = .ok (.ifCond .eq 63, 3) := by decide +kernel
theorem dX10_statement_93 : decode cX10_statement 93 = .ok (.aload_n 0, 1) := by decide +kernel
theorem dX10_statement_94 : decode cX10_statement 94 = .ok (.iconst 0, 1) := by decide +kernel
theorem dX10_statement_95 : decode cX10_statement 95 = .ok (.iconst 2, 1) := by decide +kernel
theorem dX10_statement_96 : decode cX10_statement 96 = .ok (.invokevirtual 90, 3) := by decide +kernel
theorem dX10_statement_99 : decode cX10_statement 99 = .ok (.ifCond .eq 52, 3) := by decide +kernel
theorem dX10_statement_102 : decode cX10_statement 102 = .ok (.aload_n 0, 1) := by decide +kernel
theorem dX10_statement_103 : decode cX10_statement 103 = .ok (.bipush 44, 2) := by decide +kernel
theorem dX10_statement_105 : decode cX10_statement 105 = .ok (.invokevirtual 86, 3) := by decide +kernel
theorem dX10_statement_108 : decode cX10_statement 108 = .ok (.ifCond .eq 43, 3) := by decide +kernel
theorem dX10_statement_111 : decode cX10_statement 111 = .ok (.aload_n 0, 1) := by decide +kernel
theorem dX10_statement_112 : decode cX10_statement 112 = .ok (.iconst 1, 1) := by decide +kernel
theorem dX10_statement_113 : decode cX10_statement 113 = .ok (.iconst 2, 1) := by decide +kernel
theorem dX10_statement_114 : decode cX10_statement 114 = .ok (.invokevirtual 90, 3) := by decide +kernel
theorem dX10_statement_117 : decode cX10_statement 117 = .ok (.ifCond .eq 34, 3) := by decide +kernel
theorem dX10_statement_120 : decode cX10_statement 120 = .ok (.aload_n 0, 1) := by decide +kernel
theorem dX10_statement_121 : decode cX10_statement 121 = .ok (.bipush 44, 2) := by decide +kernel
theorem dX10_statement_123 : decode cX10_statement 123 = .ok (.invokevirtual 86, 3) := by decide +kernel
theorem dX10_statement_126 : decode cX10_statement 126 = .ok (.ifCond .eq 25, 3) := by decide +kernel
theorem dX10_statement_129 : decode cX10_statement 129 = .ok (.aload_n 0, 1) := by decide +kernel
theorem dX10_statement_130 : decode cX10_statement 130 = .ok (.iconst 2, 1) := by decide +kernel
theorem dX10_statement_131 : decode cX10_statement 131 = .ok (.iconst 1, 1) := by decide +kernel
theorem dX10_statement_132 : decode cX10_statement 132 = .ok (.invokevirtual 90, 3) := by decide +kernel
theorem dX10_statement_135 : decode cX10_statement 135 = .ok (.ifCond .eq 16, 3) := by decide +kernel
theorem dX10_statement_138 : decode cX10_statement 138 = .ok (.aload_n 0, 1) := by decide +kernel
theorem dX10_statement_139 : decode cX10_statement 139 = .ok (.bipush 59, 2) := by decide +kernel
theorem dX10_statement_141 : decode cX10_statement 141 = .ok (.invokevirtual 86, 3) := by decide +kernel
theorem dX10_statement_144 : decode cX10_statement 144 = .ok (.ifCond .eq 7, 3) := by decide +kernel
theorem dX10_statement_147 : decode cX10_statement 147 = .ok (.iconst 3, 1) := by decide +kernel
theorem dX10_statement_148 : decode cX10_statement 148 = .ok (.goto 4, 3) := by decide +kernel
theorem dX10_statement_151 : decode cX10_statement 151 = .ok (.iconst (-1), 1) := by decide +kernel
theorem dX10_statement_152 : decode cX10_statement 152 = .ok (.ireturn, 1) := by decide +kernel
theorem dX10_statement_153 : decode cX10_statement 153 = .ok (.aload_n 0, 1) := by decide +kernel
theorem dX10_statement_154 : decode cX10_statement 154 = .ok (.bipush 104, 2) := by decide +kernel
theorem dX10_statement_156 : decode cX10_statement 156 = .ok (.invokevirtual 86, 3) := by decide +kernel
theorem dX10_statement_159 : decode cX10_statement 159 = .ok (.ifCond .eq 12, 3) := by decide +kernel
theorem dX10_statement_162 : decode cX10_statement 162 = .ok (.aload_n 0, 1) := by decide +kernel
theorem dX10_statement_163 : decode cX10_statement 163 = .ok (.iconst 0, 1) := by decide +kernel
theorem dX10_statement_164 : decode cX10_statement 164 = .ok (.iconst 1, 1) := by decide +kernel
theorem dX10_statement_165 : decode cX10_statement 165 = .ok (.invokevirtual 90, 3) := by decide +kernel
theorem dX10_statement_168 : decode cX10_statement 168 = .ok (.ifCond .ne 5, 3) := by decide +kernel
theorem dX10_statement_171 : decode cX10_statement 171 = .ok (.iconst (-1), 1) := by decide +kernel
theorem dX10_statement_172 : decode cX10_statement 172 = .ok (.ireturn, 1) := by decide +kernel
theorem dX10_statement_173 : decode cX10_statement 173 = .ok (.aload_n 0, 1) := by decide +kernel
theorem dX10_statement_174 : decode cX10_statement 174 = .ok (.invokevirtual 78, 3) := by decide +kernel
theorem dX10_statement_177 : decode cX10_statement 177 = .ok (.ifCond .ge 7, 3) := by decide +kernel
theorem dX10_statement_180 : decode cX10_statement 180 = .ok (.iconst (-1), 1) := by decide +kernel
theorem dX10_statement_181 : decode cX10_statement 181 = .ok (.goto 12, 3) := by decide +kernel
theorem dX10_statement_184 : decode cX10_statement 184 = .ok (.ldc 93, 2) := by decide +kernel
theorem dX10_statement_186 : decode cX10_statement 186 = .ok (.aload_n 0, 1) := by decide +kernel
theorem dX10_statement_187 : decode cX10_statement 187 = .ok (.invokevirtual 78, 3) := by decide +kernel
theorem dX10_statement_190 : decode cX10_statement 190 = .ok (.invokevirtual 95, 3) := by decide +kernel
theorem dX10_statement_193 : decode cX10_statement 193 = .ok (.istore_n 1, 1) := by decide +kernel
theorem dX10_statement_194 : decode cX10_statement 194 = .ok (.iload_n 1, 1) := by decide +kernel
theorem dX10_statement_195 : decode cX10_statement 195 = .ok (.ifCond .ge 5, 3) := by decide +kernel
theorem dX10_statement_198 : decode cX10_statement 198 = .ok (.iconst (-1), 1) := by decide +kernel
theorem dX10_statement_199 : decode cX10_statement 199 = .ok (.ireturn, 1) := by decide +kernel
theorem dX10_statement_200 : decode cX10_statement 200 = .ok (.aload_n 0, 1) := by decide +kernel
theorem dX10_statement_201 : decode cX10_statement 201 = .ok (.getfield 55, 3) := by decide +kernel
theorem dX10_statement_204 : decode cX10_statement 204 = .ok (.iconst 1, 1) := by decide +kernel
theorem dX10_statement_205 : decode cX10_statement 205 = .ok (.iload_n 1, 1) := by decide +kernel
theorem dX10_statement_206 : decode cX10_statement 206 = .ok (.iastore, 1) := by decide +kernel
theorem dX10_statement_207 : decode cX10_statement 207 = .ok (.aload_n 0, 1) := by decide +kernel
theorem dX10_statement_208 : decode cX10_statement 208 = .ok (.dup, 1) := by decide +kernel
theorem dX10_statement_209 : decode cX10_statement 209 = .ok (.getfield 75, 3) := by decide +kernel
theorem dX10_statement_212 : decode cX10_statement 212 = .ok (.iconst 1, 1) := by decide +kernel
theorem dX10_statement_213 : decode cX10_statement 213 = .ok (.iadd, 1) := by decide +kernel
theorem dX10_statement_214 : decode cX10_statement 214 = .ok (.putfield 75, 3) := by decide +kernel
theorem dX10_statement_217 : decode cX10_statement 217 = .ok (.aload_n 0, 1) := by decide +kernel
theorem dX10_statement_218 : decode cX10_statement 218 = .ok (.iconst 2, 1) := by decide +kernel
theorem dX10_statement_219 : decode cX10_statement 219 = .ok (.iconst 1, 1) := by decide +kernel
theorem dX10_statement_220 : decode cX10_statement 220 = .ok (.invokevirtual 90, 3) := by decide +kernel
theorem dX10_statement_223 : decode cX10_statement 223 = .ok (.ifCond .eq 52, 3) := by decide +kernel
theorem dX10_statement_226 : decode cX10_statement 226 = .ok (.aload_n 0, 1) := by decide +kernel
theorem dX10_statement_227 : decode cX10_statement 227 = .ok (.iconst 3, 1) := by decide +kernel
theorem dX10_statement_228 : decode cX10_statement 228 = .ok (.iconst 1, 1) := by decide +kernel
theorem dX10_statement_229 : decode cX10_statement 229 = .ok (.invokevirtual 90, 3) := by decide +kernel
theorem dX10_statement_232 : decode cX10_statement 232 = .ok (.ifCond .eq 43, 3) := by decide +kernel
theorem dX10_statement_235 : decode cX10_statement 235 = .ok (.aload_n 0, 1) := by decide +kernel
theorem dX10_statement_236 : decode cX10_statement 236 = .ok (.iconst 4, 1) := by decide +kernel
theorem dX10_statement_237 : decode cX10_statement 237 = .ok (.iconst 1, 1) := by decide +kernel
theorem dX10_statement_238 : decode cX10_statement 238 = .ok (.invokevirtual 90, 3) := by decide +kernel
theorem dX10_statement_241 : decode cX10_statement 241 = .ok (.ifCond .eq 34, 3) := by decide +kernel
theorem dX10_statement_244 : decode cX10_statement 244 = .ok (.aload_n 0, 1) := by decide +kernel
theorem dX10_statement_245 : decode cX10_statement 245 = .ok (.bipush 44, 2) := by decide +kernel
theorem dX10_statement_247 : decode cX10_statement 247 = .ok (.invokevirtual 86, 3) := by decide +kernel
theorem dX10_statement_250 : decode cX10_statement 250 = .ok (.ifCond .eq 25, 3) := by decide +kernel
theorem dX10_statement_253 : decode cX10_statement 253 = .ok (.aload_n 0, 1) := by decide +kernel
theorem dX10_statement_254 : decode cX10_statement 254 = .ok (.iconst 5, 1) := by decide +kernel
theorem dX10_statement_255 : decode cX10_statement 255 = .ok (.iconst 2, 1) := by decide +kernel
theorem dX10_statement_256 : decode cX10_statement 256 = .ok (.invokevirtual 90, 3) := by decide +kernel
theorem dX10_statement_259 : decode cX10_statement 259 = .ok (.ifCond .eq 16, 3) := by decide +kernel
theorem dX10_statement_262 : decode cX10_statement 262 = .ok (.aload_n 0, 1) := by decide +kernel
theorem dX10_statement_263 : decode cX10_statement 263 = .ok (.bipush 59, 2) := by decide +kernel
theorem dX10_statement_265 : decode cX10_statement 265 = .ok (.invokevirtual 86, 3) := by decide +kernel
theorem dX10_statement_268 : decode cX10_statement 268 = .ok (.ifCond .eq 7, 3) := by decide +kernel
theorem dX10_statement_271 : decode cX10_statement 271 = .ok (.iconst 2, 1) := by decide +kernel
theorem dX10_statement_272 : decode cX10_statement 272 = .ok (.goto 4, 3) := by decide +kernel
theorem dX10_statement_275 : decode cX10_statement 275 = .ok (.iconst (-1), 1) := by decide +kernel
theorem dX10_statement_276 : decode cX10_statement 276 = .ok (.ireturn, 1) := by decide +kernel
theorem dX10_toldOf_0 : decode cX10_toldOf 0 = .ok (.iconst 1, 1) := by decide +kernel
theorem dX10_toldOf_1 : decode cX10_toldOf 1 = .ok (.istore_n 1, 1) := by decide +kernel
theorem dX10_toldOf_2 : decode cX10_toldOf 2 = .ok (.iconst 0, 1) := by decide +kernel
theorem dX10_toldOf_3 : decode cX10_toldOf 3 = .ok (.istore_n 2, 1) := by decide +kernel
theorem dX10_toldOf_4 : decode cX10_toldOf 4 = .ok (.iload_n 2, 1) := by decide +kernel
theorem dX10_toldOf_5 : decode cX10_toldOf 5 = .ok (.aload_n 0, 1) := by decide +kernel
theorem dX10_toldOf_6 : decode cX10_toldOf 6 = .ok (.getfield 65, 3) := by decide +kernel
theorem dX10_toldOf_9 : decode cX10_toldOf 9 = .ok (.if_icmp .ge 31, 3) := by decide +kernel
theorem dX10_toldOf_12 : decode cX10_toldOf 12 = .ok (.iload_n 1, 1) := by decide +kernel
theorem dX10_toldOf_13 : decode cX10_toldOf 13 = .ok (.aload_n 0, 1) := by decide +kernel
theorem dX10_toldOf_14 : decode cX10_toldOf 14 = .ok (.getfield 13, 3) := by decide +kernel
theorem dX10_toldOf_17 : decode cX10_toldOf 17 = .ok (.iload_n 2, 1) := by decide +kernel
theorem dX10_toldOf_18 : decode cX10_toldOf 18 = .ok (.iaload, 1) := by decide +kernel
theorem dX10_toldOf_19 : decode cX10_toldOf 19 = .ok (.aload_n 0, 1) := by decide +kernel
theorem dX10_toldOf_20 : decode cX10_toldOf 20 = .ok (.getfield 16, 3) := by decide +kernel
theorem dX10_toldOf_23 : decode cX10_toldOf 23 = .ok (.iload_n 2, 1) := by decide +kernel
theorem dX10_toldOf_24 : decode cX10_toldOf 24 = .ok (.iaload, 1) := by decide +kernel
theorem dX10_toldOf_25 : decode cX10_toldOf 25 = .ok (.invokestatic 100, 3) := by decide +kernel
theorem dX10_toldOf_28 : decode cX10_toldOf 28 = .ok (.iconst 1, 1) := by decide +kernel
theorem dX10_toldOf_29 : decode cX10_toldOf 29 = .ok (.iadd, 1) := by decide +kernel
theorem dX10_toldOf_30 : decode cX10_toldOf 30 = .ok (.invokestatic 100, 3) := by decide +kernel
theorem dX10_toldOf_33 : decode cX10_toldOf 33 = .ok (.istore_n 1, 1) := by decide +kernel
theorem dX10_toldOf_34 : decode cX10_toldOf 34 = .ok (.iinc 2 1, 3) := by decide +kernel
theorem dX10_toldOf_37 : decode cX10_toldOf 37 = .ok (.goto (-33), 3) := by decide +kernel
theorem dX10_toldOf_40 : decode cX10_toldOf 40 = .ok (.iload_n 1, 1) := by decide +kernel
theorem dX10_toldOf_41 : decode cX10_toldOf 41 = .ok (.ireturn, 1) := by decide +kernel
theorem dX10_comes_0 : decode cX10_comes 0 = .ok (.iload_n 1, 1) := by decide +kernel
theorem dX10_comes_1 : decode cX10_comes 1 = .ok (.tableswitch 224 0 2 #[27, 65, 146], 27) := by decide +kernel
theorem dX10_comes_28 : decode cX10_comes 28 = .ok (.aload_n 0, 1) := by decide +kernel
theorem dX10_comes_29 : decode cX10_comes 29 = .ok (.getfield 55, 3) := by decide +kernel
theorem dX10_comes_32 : decode cX10_comes 32 = .ok (.iconst 0, 1) := by decide +kernel
theorem dX10_comes_33 : decode cX10_comes 33 = .ok (.iaload, 1) := by decide +kernel
theorem dX10_comes_34 : decode cX10_comes 34 = .ok (.bipush 6, 2) := by decide +kernel
theorem dX10_comes_36 : decode cX10_comes 36 = .ok (.if_icmp .gt 16, 3) := by decide +kernel
theorem dX10_comes_39 : decode cX10_comes 39 = .ok (.aload_n 0, 1) := by decide +kernel
theorem dX10_comes_40 : decode cX10_comes 40 = .ok (.getfield 55, 3) := by decide +kernel
theorem dX10_comes_43 : decode cX10_comes 43 = .ok (.iconst 0, 1) := by decide +kernel
theorem dX10_comes_44 : decode cX10_comes 44 = .ok (.iaload, 1) := by decide +kernel
theorem dX10_comes_45 : decode cX10_comes 45 = .ok (.aload_n 0, 1) := by decide +kernel
theorem dX10_comes_46 : decode cX10_comes 46 = .ok (.invokevirtual 106, 3) := by decide +kernel
theorem dX10_comes_49 : decode cX10_comes 49 = .ok (.if_icmp .ge 5, 3) := by decide +kernel
theorem dX10_comes_52 : decode cX10_comes 52 = .ok (.iconst 0, 1) := by decide +kernel
theorem dX10_comes_53 : decode cX10_comes 53 = .ok (.ireturn, 1) := by decide +kernel
theorem dX10_comes_54 : decode cX10_comes 54 = .ok (.aload_n 0, 1) := by decide +kernel
theorem dX10_comes_55 : decode cX10_comes 55 = .ok (.aload_n 0, 1) := by decide +kernel
theorem dX10_comes_56 : decode cX10_comes 56 = .ok (.getfield 55, 3) := by decide +kernel
theorem dX10_comes_59 : decode cX10_comes 59 = .ok (.iconst 0, 1) := by decide +kernel
theorem dX10_comes_60 : decode cX10_comes 60 = .ok (.iaload, 1) := by decide +kernel
theorem dX10_comes_61 : decode cX10_comes 61 = .ok (.putfield 61, 3) := by decide +kernel
theorem dX10_comes_64 : decode cX10_comes 64 = .ok (.iconst 1, 1) := by decide +kernel
theorem dX10_comes_65 : decode cX10_comes 65 = .ok (.ireturn, 1) := by decide +kernel
theorem dX10_comes_66 : decode cX10_comes 66 = .ok (.aload_n 0, 1) := by decide +kernel
theorem dX10_comes_67 : decode cX10_comes 67 = .ok (.getfield 55, 3) := by decide +kernel
theorem dX10_comes_70 : decode cX10_comes 70 = .ok (.iconst 0, 1) := by decide +kernel
theorem dX10_comes_71 : decode cX10_comes 71 = .ok (.iaload, 1) := by decide +kernel
theorem dX10_comes_72 : decode cX10_comes 72 = .ok (.aload_n 0, 1) := by decide +kernel
theorem dX10_comes_73 : decode cX10_comes 73 = .ok (.getfield 61, 3) := by decide +kernel
theorem dX10_comes_76 : decode cX10_comes 76 = .ok (.if_icmp .ge 40, 3) := by decide +kernel
theorem dX10_comes_79 : decode cX10_comes 79 = .ok (.aload_n 0, 1) := by decide +kernel
theorem dX10_comes_80 : decode cX10_comes 80 = .ok (.getfield 55, 3) := by decide +kernel
theorem dX10_comes_83 : decode cX10_comes 83 = .ok (.iconst 1, 1) := by decide +kernel
theorem dX10_comes_84 : decode cX10_comes 84 = .ok (.iaload, 1) := by decide +kernel
theorem dX10_comes_85 : decode cX10_comes 85 = .ok (.aload_n 0, 1) := by decide +kernel
theorem dX10_comes_86 : decode cX10_comes 86 = .ok (.getfield 61, 3) := by decide +kernel
theorem dX10_comes_89 : decode cX10_comes 89 = .ok (.if_icmp .ge 27, 3) := by decide +kernel
theorem dX10_comes_92 : decode cX10_comes 92 = .ok (.aload_n 0, 1) := by decide +kernel
theorem dX10_comes_93 : decode cX10_comes 93 = .ok (.getfield 55, 3) := by decide +kernel
theorem dX10_comes_96 : decode cX10_comes 96 = .ok (.iconst 0, 1) := by decide +kernel
theorem dX10_comes_97 : decode cX10_comes 97 = .ok (.iaload, 1) := by decide +kernel
theorem dX10_comes_98 : decode cX10_comes 98 = .ok (.aload_n 0, 1) := by decide +kernel
theorem dX10_comes_99 : decode cX10_comes 99 = .ok (.getfield 55, 3) := by decide +kernel
theorem dX10_comes_102 : decode cX10_comes 102 = .ok (.iconst 1, 1) := by decide +kernel
theorem dX10_comes_103 : decode cX10_comes 103 = .ok (.iaload, 1) := by decide +kernel
theorem dX10_comes_104 : decode cX10_comes 104 = .ok (.if_icmp .eq 12, 3) := by decide +kernel
theorem dX10_comes_107 : decode cX10_comes 107 = .ok (.aload_n 0, 1) := by decide +kernel
theorem dX10_comes_108 : decode cX10_comes 108 = .ok (.getfield 65, 3) := by decide +kernel
theorem dX10_comes_111 : decode cX10_comes 111 = .ok (.bipush 10, 2) := by decide +kernel
theorem dX10_comes_113 : decode cX10_comes 113 = .ok (.if_icmp .ne 5, 3) := by decide +kernel
theorem dX10_comes_116 : decode cX10_comes 116 = .ok (.iconst 0, 1) := by decide +kernel
theorem dX10_comes_117 : decode cX10_comes 117 = .ok (.ireturn, 1) := by decide +kernel
theorem dX10_comes_118 : decode cX10_comes 118 = .ok (.aload_n 0, 1) := by decide +kernel
theorem dX10_comes_119 : decode cX10_comes 119 = .ok (.aload_n 0, 1) := by decide +kernel
theorem dX10_comes_120 : decode cX10_comes 120 = .ok (.getfield 55, 3) := by decide +kernel
theorem dX10_comes_123 : decode cX10_comes 123 = .ok (.iconst 0, 1) := by decide +kernel
theorem dX10_comes_124 : decode cX10_comes 124 = .ok (.iaload, 1) := by decide +kernel
theorem dX10_comes_125 : decode cX10_comes 125 = .ok (.aload_n 0, 1) := by decide +kernel
theorem dX10_comes_126 : decode cX10_comes 126 = .ok (.getfield 55, 3) := by decide +kernel
theorem dX10_comes_129 : decode cX10_comes 129 = .ok (.iconst 1, 1) := by decide +kernel
theorem dX10_comes_130 : decode cX10_comes 130 = .ok (.iaload, 1) := by decide +kernel
theorem dX10_comes_131 : decode cX10_comes 131 = .ok (.bipush 7, 2) := by decide +kernel
theorem dX10_comes_133 : decode cX10_comes 133 = .ok (.aload_n 0, 1) := by decide +kernel
theorem dX10_comes_134 : decode cX10_comes 134 = .ok (.getfield 55, 3) := by decide +kernel
theorem dX10_comes_137 : decode cX10_comes 137 = .ok (.iconst 2, 1) := by decide +kernel
theorem dX10_comes_138 : decode cX10_comes 138 = .ok (.iaload, 1) := by decide +kernel
theorem dX10_comes_139 : decode cX10_comes 139 = .ok (.iconst 0, 1) := by decide +kernel
theorem dX10_comes_140 : decode cX10_comes 140 = .ok (.iconst 0, 1) := by decide +kernel
theorem dX10_comes_141 : decode cX10_comes 141 = .ok (.iconst 0, 1) := by decide +kernel
theorem dX10_comes_142 : decode cX10_comes 142 = .ok (.invokevirtual 109, 3) := by decide +kernel
theorem dX10_comes_145 : decode cX10_comes 145 = .ok (.iconst 1, 1) := by decide +kernel
theorem dX10_comes_146 : decode cX10_comes 146 = .ok (.ireturn, 1) := by decide +kernel
theorem dX10_comes_147 : decode cX10_comes 147 = .ok (.aload_n 0, 1) := by decide +kernel
theorem dX10_comes_148 : decode cX10_comes 148 = .ok (.getfield 55, 3) := by decide +kernel
theorem dX10_comes_151 : decode cX10_comes 151 = .ok (.iconst 0, 1) := by decide +kernel
theorem dX10_comes_152 : decode cX10_comes 152 = .ok (.iaload, 1) := by decide +kernel
theorem dX10_comes_153 : decode cX10_comes 153 = .ok (.aload_n 0, 1) := by decide +kernel
theorem dX10_comes_154 : decode cX10_comes 154 = .ok (.getfield 61, 3) := by decide +kernel
theorem dX10_comes_157 : decode cX10_comes 157 = .ok (.if_icmp .ge 22, 3) := by decide +kernel
theorem dX10_comes_160 : decode cX10_comes 160 = .ok (.aload_n 0, 1) := by decide +kernel
theorem dX10_comes_161 : decode cX10_comes 161 = .ok (.getfield 55, 3) := by decide +kernel
theorem dX10_comes_164 : decode cX10_comes 164 = .ok (.iconst 4, 1) := by decide +kernel
theorem dX10_comes_165 : decode cX10_comes 165 = .ok (.iaload, 1) := by decide +kernel
theorem dX10_comes_166 : decode cX10_comes 166 = .ok (.iconst 3, 1) := by decide +kernel
theorem dX10_comes_167 : decode cX10_comes 167 = .ok (.if_icmp .gt 12, 3) := by decide +kernel
theorem dX10_comes_170 : decode cX10_comes 170 = .ok (.aload_n 0, 1) := by decide +kernel
theorem dX10_comes_171 : decode cX10_comes 171 = .ok (.getfield 65, 3) := by decide +kernel
theorem dX10_comes_174 : decode cX10_comes 174 = .ok (.bipush 10, 2) := by decide +kernel
theorem dX10_comes_176 : decode cX10_comes 176 = .ok (.if_icmp .ne 5, 3) := by decide +kernel
theorem dX10_comes_179 : decode cX10_comes 179 = .ok (.iconst 0, 1) := by decide +kernel
theorem dX10_comes_180 : decode cX10_comes 180 = .ok (.ireturn, 1) := by decide +kernel
theorem dX10_comes_181 : decode cX10_comes 181 = .ok (.aload_n 0, 1) := by decide +kernel
theorem dX10_comes_182 : decode cX10_comes 182 = .ok (.aload_n 0, 1) := by decide +kernel
theorem dX10_comes_183 : decode cX10_comes 183 = .ok (.getfield 55, 3) := by decide +kernel
theorem dX10_comes_186 : decode cX10_comes 186 = .ok (.iconst 0, 1) := by decide +kernel
theorem dX10_comes_187 : decode cX10_comes 187 = .ok (.iaload, 1) := by decide +kernel
theorem dX10_comes_188 : decode cX10_comes 188 = .ok (.bipush (-9), 2) := by decide +kernel
theorem dX10_comes_190 : decode cX10_comes 190 = .ok (.aload_n 0, 1) := by decide +kernel
theorem dX10_comes_191 : decode cX10_comes 191 = .ok (.getfield 55, 3) := by decide +kernel
theorem dX10_comes_194 : decode cX10_comes 194 = .ok (.iconst 1, 1) := by decide +kernel
theorem dX10_comes_195 : decode cX10_comes 195 = .ok (.iaload, 1) := by decide +kernel
theorem dX10_comes_196 : decode cX10_comes 196 = .ok (.aload_n 0, 1) := by decide +kernel
theorem dX10_comes_197 : decode cX10_comes 197 = .ok (.getfield 55, 3) := by decide +kernel
theorem dX10_comes_200 : decode cX10_comes 200 = .ok (.iconst 2, 1) := by decide +kernel
theorem dX10_comes_201 : decode cX10_comes 201 = .ok (.iaload, 1) := by decide +kernel
theorem dX10_comes_202 : decode cX10_comes 202 = .ok (.aload_n 0, 1) := by decide +kernel
theorem dX10_comes_203 : decode cX10_comes 203 = .ok (.getfield 55, 3) := by decide +kernel
theorem dX10_comes_206 : decode cX10_comes 206 = .ok (.iconst 3, 1) := by decide +kernel
theorem dX10_comes_207 : decode cX10_comes 207 = .ok (.iaload, 1) := by decide +kernel
theorem dX10_comes_208 : decode cX10_comes 208 = .ok (.aload_n 0, 1) := by decide +kernel
theorem dX10_comes_209 : decode cX10_comes 209 = .ok (.getfield 55, 3) := by decide +kernel
theorem dX10_comes_212 : decode cX10_comes 212 = .ok (.iconst 4, 1) := by decide +kernel
theorem dX10_comes_213 : decode cX10_comes 213 = .ok (.iaload, 1) := by decide +kernel
theorem dX10_comes_214 : decode cX10_comes 214 = .ok (.aload_n 0, 1) := by decide +kernel
theorem dX10_comes_215 : decode cX10_comes 215 = .ok (.getfield 55, 3) := by decide +kernel
theorem dX10_comes_218 : decode cX10_comes 218 = .ok (.iconst 5, 1) := by decide +kernel
theorem dX10_comes_219 : decode cX10_comes 219 = .ok (.iaload, 1) := by decide +kernel
theorem dX10_comes_220 : decode cX10_comes 220 = .ok (.invokevirtual 109, 3) := by decide +kernel
theorem dX10_comes_223 : decode cX10_comes 223 = .ok (.iconst 1, 1) := by decide +kernel
theorem dX10_comes_224 : decode cX10_comes 224 = .ok (.ireturn, 1) := by decide +kernel
theorem dX10_comes_225 : decode cX10_comes 225 = .ok (.aload_n 0, 1) := by decide +kernel
theorem dX10_comes_226 : decode cX10_comes 226 = .ok (.getfield 55, 3) := by decide +kernel
theorem dX10_comes_229 : decode cX10_comes 229 = .ok (.iconst 0, 1) := by decide +kernel
theorem dX10_comes_230 : decode cX10_comes 230 = .ok (.iaload, 1) := by decide +kernel
theorem dX10_comes_231 : decode cX10_comes 231 = .ok (.bipush 40, 2) := by decide +kernel
theorem dX10_comes_233 : decode cX10_comes 233 = .ok (.if_icmp .gt 32, 3) := by decide +kernel
theorem dX10_comes_236 : decode cX10_comes 236 = .ok (.aload_n 0, 1) := by decide +kernel
theorem dX10_comes_237 : decode cX10_comes 237 = .ok (.getfield 55, 3) := by decide +kernel
theorem dX10_comes_240 : decode cX10_comes 240 = .ok (.iconst 1, 1) := by decide +kernel
theorem dX10_comes_241 : decode cX10_comes 241 = .ok (.iaload, 1) := by decide +kernel
theorem dX10_comes_242 : decode cX10_comes 242 = .ok (.bipush 20, 2) := by decide +kernel
theorem dX10_comes_244 : decode cX10_comes 244 = .ok (.if_icmp .gt 21, 3) := by decide +kernel
theorem dX10_comes_247 : decode cX10_comes 247 = .ok (.aload_n 0, 1) := by decide +kernel
theorem dX10_comes_248 : decode cX10_comes 248 = .ok (.getfield 55, 3) := by decide +kernel
theorem dX10_comes_251 : decode cX10_comes 251 = .ok (.iconst 2, 1) := by decide +kernel
theorem dX10_comes_252 : decode cX10_comes 252 = .ok (.iaload, 1) := by decide +kernel
theorem dX10_comes_253 : decode cX10_comes 253 = .ok (.iconst 3, 1) := by decide +kernel
theorem dX10_comes_254 : decode cX10_comes 254 = .ok (.if_icmp .gt 11, 3) := by decide +kernel
theorem dX10_comes_257 : decode cX10_comes 257 = .ok (.aload_n 0, 1) := by decide +kernel
theorem dX10_comes_258 : decode cX10_comes 258 = .ok (.getfield 113, 3) := by decide +kernel
theorem dX10_comes_261 : decode cX10_comes 261 = .ok (.iconst 4, 1) := by decide +kernel
theorem dX10_comes_262 : decode cX10_comes 262 = .ok (.if_icmp .ne 5, 3) := by decide +kernel
theorem dX10_comes_265 : decode cX10_comes 265 = .ok (.iconst 0, 1) := by decide +kernel
theorem dX10_comes_266 : decode cX10_comes 266 = .ok (.ireturn, 1) := by decide +kernel
theorem dX10_comes_267 : decode cX10_comes 267 = .ok (.iconst 0, 1) := by decide +kernel
theorem dX10_comes_268 : decode cX10_comes 268 = .ok (.istore_n 2, 1) := by decide +kernel
theorem dX10_comes_269 : decode cX10_comes 269 = .ok (.iload_n 2, 1) := by decide +kernel
theorem dX10_comes_270 : decode cX10_comes 270 = .ok (.iconst 3, 1) := by decide +kernel
theorem dX10_comes_271 : decode cX10_comes 271 = .ok (.if_icmp .ge 28, 3) := by decide +kernel
theorem dX10_comes_274 : decode cX10_comes 274 = .ok (.aload_n 0, 1) := by decide +kernel
theorem dX10_comes_275 : decode cX10_comes 275 = .ok (.getfield 34, 3) := by decide +kernel
theorem dX10_comes_278 : decode cX10_comes 278 = .ok (.iconst 3, 1) := by decide +kernel
theorem dX10_comes_279 : decode cX10_comes 279 = .ok (.aload_n 0, 1) := by decide +kernel
theorem dX10_comes_280 : decode cX10_comes 280 = .ok (.getfield 113, 3) := by decide +kernel
theorem dX10_comes_283 : decode cX10_comes 283 = .ok (.imul, 1) := by decide +kernel
theorem dX10_comes_284 : decode cX10_comes 284 = .ok (.iload_n 2, 1) := by decide +kernel
theorem dX10_comes_285 : decode cX10_comes 285 = .ok (.iadd, 1) := by decide +kernel
theorem dX10_comes_286 : decode cX10_comes 286 = .ok (.aload_n 0, 1) := by decide +kernel
theorem dX10_comes_287 : decode cX10_comes 287 = .ok (.getfield 55, 3) := by decide +kernel
theorem dX10_comes_290 : decode cX10_comes 290 = .ok (.iload_n 2, 1) := by decide +kernel
theorem dX10_comes_291 : decode cX10_comes 291 = .ok (.iaload, 1) := by decide +kernel
theorem dX10_comes_292 : decode cX10_comes 292 = .ok (.iastore, 1) := by decide +kernel
theorem dX10_comes_293 : decode cX10_comes 293 = .ok (.iinc 2 1, 3) := by decide +kernel
theorem dX10_comes_296 : decode cX10_comes 296 = .ok (.goto (-27), 3) := by decide +kernel
theorem dX10_comes_299 : decode cX10_comes 299 = .ok (.aload_n 0, 1) := by decide +kernel
theorem dX10_comes_300 : decode cX10_comes 300 = .ok (.dup, 1) := by decide +kernel
theorem dX10_comes_301 : decode cX10_comes 301 = .ok (.getfield 113, 3) := by decide +kernel
theorem dX10_comes_304 : decode cX10_comes 304 = .ok (.iconst 1, 1) := by decide +kernel
theorem dX10_comes_305 : decode cX10_comes 305 = .ok (.iadd, 1) := by decide +kernel
theorem dX10_comes_306 : decode cX10_comes 306 = .ok (.putfield 113, 3) := by decide +kernel
theorem dX10_comes_309 : decode cX10_comes 309 = .ok (.iconst 1, 1) := by decide +kernel
theorem dX10_comes_310 : decode cX10_comes 310 = .ok (.ireturn, 1) := by decide +kernel
theorem dX10_put_0 : decode cX10_put 0 = .ok (.aload_n 0, 1) := by decide +kernel
theorem dX10_put_1 : decode cX10_put 1 = .ok (.getfield 13, 3) := by decide +kernel
theorem dX10_put_4 : decode cX10_put 4 = .ok (.aload_n 0, 1) := by decide +kernel
theorem dX10_put_5 : decode cX10_put 5 = .ok (.getfield 65, 3) := by decide +kernel
theorem dX10_put_8 : decode cX10_put 8 = .ok (.iload_n 1, 1) := by decide +kernel
theorem dX10_put_9 : decode cX10_put 9 = .ok (.iastore, 1) := by decide +kernel
theorem dX10_put_10 : decode cX10_put 10 = .ok (.aload_n 0, 1) := by decide +kernel
theorem dX10_put_11 : decode cX10_put 11 = .ok (.getfield 16, 3) := by decide +kernel
theorem dX10_put_14 : decode cX10_put 14 = .ok (.aload_n 0, 1) := by decide +kernel
theorem dX10_put_15 : decode cX10_put 15 = .ok (.getfield 65, 3) := by decide +kernel
theorem dX10_put_18 : decode cX10_put 18 = .ok (.iload_n 2, 1) := by decide +kernel
theorem dX10_put_19 : decode cX10_put 19 = .ok (.iastore, 1) := by decide +kernel
theorem dX10_put_20 : decode cX10_put 20 = .ok (.aload_n 0, 1) := by decide +kernel
theorem dX10_put_21 : decode cX10_put 21 = .ok (.getfield 19, 3) := by decide +kernel
theorem dX10_put_24 : decode cX10_put 24 = .ok (.aload_n 0, 1) := by decide +kernel
theorem dX10_put_25 : decode cX10_put 25 = .ok (.getfield 65, 3) := by decide +kernel
theorem dX10_put_28 : decode cX10_put 28 = .ok (.iload_n 3, 1) := by decide +kernel
theorem dX10_put_29 : decode cX10_put 29 = .ok (.iastore, 1) := by decide +kernel
theorem dX10_put_30 : decode cX10_put 30 = .ok (.aload_n 0, 1) := by decide +kernel
theorem dX10_put_31 : decode cX10_put 31 = .ok (.getfield 22, 3) := by decide +kernel
theorem dX10_put_34 : decode cX10_put 34 = .ok (.aload_n 0, 1) := by decide +kernel
theorem dX10_put_35 : decode cX10_put 35 = .ok (.getfield 65, 3) := by decide +kernel
theorem dX10_put_38 : decode cX10_put 38 = .ok (.iload 4, 2) := by decide +kernel
theorem dX10_put_40 : decode cX10_put 40 = .ok (.iastore, 1) := by decide +kernel
theorem dX10_put_41 : decode cX10_put 41 = .ok (.aload_n 0, 1) := by decide +kernel
theorem dX10_put_42 : decode cX10_put 42 = .ok (.getfield 25, 3) := by decide +kernel
theorem dX10_put_45 : decode cX10_put 45 = .ok (.aload_n 0, 1) := by decide +kernel
theorem dX10_put_46 : decode cX10_put 46 = .ok (.getfield 65, 3) := by decide +kernel
theorem dX10_put_49 : decode cX10_put 49 = .ok (.iload 5, 2) := by decide +kernel
theorem dX10_put_51 : decode cX10_put 51 = .ok (.iastore, 1) := by decide +kernel
theorem dX10_put_52 : decode cX10_put 52 = .ok (.aload_n 0, 1) := by decide +kernel
theorem dX10_put_53 : decode cX10_put 53 = .ok (.getfield 28, 3) := by decide +kernel
theorem dX10_put_56 : decode cX10_put 56 = .ok (.aload_n 0, 1) := by decide +kernel
theorem dX10_put_57 : decode cX10_put 57 = .ok (.getfield 65, 3) := by decide +kernel
theorem dX10_put_60 : decode cX10_put 60 = .ok (.iload 6, 2) := by decide +kernel
theorem dX10_put_62 : decode cX10_put 62 = .ok (.iastore, 1) := by decide +kernel
theorem dX10_put_63 : decode cX10_put 63 = .ok (.aload_n 0, 1) := by decide +kernel
theorem dX10_put_64 : decode cX10_put 64 = .ok (.getfield 31, 3) := by decide +kernel
theorem dX10_put_67 : decode cX10_put 67 = .ok (.aload_n 0, 1) := by decide +kernel
theorem dX10_put_68 : decode cX10_put 68 = .ok (.getfield 65, 3) := by decide +kernel
theorem dX10_put_71 : decode cX10_put 71 = .ok (.iload 7, 2) := by decide +kernel
theorem dX10_put_73 : decode cX10_put 73 = .ok (.iastore, 1) := by decide +kernel
theorem dX10_put_74 : decode cX10_put 74 = .ok (.aload_n 0, 1) := by decide +kernel
theorem dX10_put_75 : decode cX10_put 75 = .ok (.dup, 1) := by decide +kernel
theorem dX10_put_76 : decode cX10_put 76 = .ok (.getfield 65, 3) := by decide +kernel
theorem dX10_put_79 : decode cX10_put 79 = .ok (.iconst 1, 1) := by decide +kernel
theorem dX10_put_80 : decode cX10_put 80 = .ok (.iadd, 1) := by decide +kernel
theorem dX10_put_81 : decode cX10_put 81 = .ok (.putfield 65, 3) := by decide +kernel
theorem dX10_put_84 : decode cX10_put 84 = .ok (.return_, 1) := by decide +kernel
theorem dX10_house_0 : decode cX10_house 0 = .ok (.aload_n 0, 1) := by decide +kernel
theorem dX10_house_1 : decode cX10_house 1 = .ok (.getfield 72, 3) := by decide +kernel
theorem dX10_house_4 : decode cX10_house 4 = .ok (.istore_n 1, 1) := by decide +kernel
theorem dX10_house_5 : decode cX10_house 5 = .ok (.aload_n 0, 1) := by decide +kernel
theorem dX10_house_6 : decode cX10_house 6 = .ok (.iconst 0, 1) := by decide +kernel
theorem dX10_house_7 : decode cX10_house 7 = .ok (.putfield 75, 3) := by decide +kernel
theorem dX10_house_10 : decode cX10_house 10 = .ok (.iconst 1, 1) := by decide +kernel
theorem dX10_house_11 : decode cX10_house 11 = .ok (.istore_n 2, 1) := by decide +kernel
theorem dX10_house_12 : decode cX10_house 12 = .ok (.iload_n 2, 1) := by decide +kernel
theorem dX10_house_13 : decode cX10_house 13 = .ok (.ifCond .eq 34, 3) := by decide +kernel
theorem dX10_house_16 : decode cX10_house 16 = .ok (.aload_n 0, 1) := by decide +kernel
theorem dX10_house_17 : decode cX10_house 17 = .ok (.getfield 75, 3) := by decide +kernel
theorem dX10_house_20 : decode cX10_house 20 = .ok (.ifCond .eq 11, 3) := by decide +kernel
theorem dX10_house_23 : decode cX10_house 23 = .ok (.aload_n 0, 1) := by decide +kernel
theorem dX10_house_24 : decode cX10_house 24 = .ok (.getfield 75, 3) := by decide +kernel
theorem dX10_house_27 : decode cX10_house 27 = .ok (.iload_n 1, 1) := by decide +kernel
theorem dX10_house_28 : decode cX10_house 28 = .ok (.if_icmp .ge 19, 3) := by decide +kernel
theorem dX10_house_31 : decode cX10_house 31 = .ok (.aload_n 0, 1) := by decide +kernel
theorem dX10_house_32 : decode cX10_house 32 = .ok (.invokevirtual 116, 3) := by decide +kernel
theorem dX10_house_35 : decode cX10_house 35 = .ok (.ifCond .lt 7, 3) := by decide +kernel
theorem dX10_house_38 : decode cX10_house 38 = .ok (.iconst 1, 1) := by decide +kernel
theorem dX10_house_39 : decode cX10_house 39 = .ok (.goto 4, 3) := by decide +kernel
theorem dX10_house_42 : decode cX10_house 42 = .ok (.iconst 0, 1) := by decide +kernel
theorem dX10_house_43 : decode cX10_house 43 = .ok (.istore_n 2, 1) := by decide +kernel
theorem dX10_house_44 : decode cX10_house 44 = .ok (.goto (-32), 3) := by decide +kernel
theorem dX10_house_47 : decode cX10_house 47 = .ok (.iload_n 2, 1) := by decide +kernel
theorem dX10_house_48 : decode cX10_house 48 = .ok (.ifCond .ne 17, 3) := by decide +kernel
theorem dX10_house_51 : decode cX10_house 51 = .ok (.aload_n 0, 1) := by decide +kernel
theorem dX10_house_52 : decode cX10_house 52 = .ok (.iconst 0, 1) := by decide +kernel
theorem dX10_house_53 : decode cX10_house 53 = .ok (.putfield 72, 3) := by decide +kernel
theorem dX10_house_56 : decode cX10_house 56 = .ok (.sipush (-1000), 3) := by decide +kernel
theorem dX10_house_59 : decode cX10_house 59 = .ok (.aload_n 0, 1) := by decide +kernel
theorem dX10_house_60 : decode cX10_house 60 = .ok (.getfield 75, 3) := by decide +kernel
theorem dX10_house_63 : decode cX10_house 63 = .ok (.isub, 1) := by decide +kernel
theorem dX10_house_64 : decode cX10_house 64 = .ok (.ireturn, 1) := by decide +kernel
theorem dX10_house_65 : decode cX10_house 65 = .ok (.aload_n 0, 1) := by decide +kernel
theorem dX10_house_66 : decode cX10_house 66 = .ok (.getfield 61, 3) := by decide +kernel
theorem dX10_house_69 : decode cX10_house 69 = .ok (.istore_n 3, 1) := by decide +kernel
theorem dX10_house_70 : decode cX10_house 70 = .ok (.aload_n 0, 1) := by decide +kernel
theorem dX10_house_71 : decode cX10_house 71 = .ok (.getfield 65, 3) := by decide +kernel
theorem dX10_house_74 : decode cX10_house 74 = .ok (.istore 4, 2) := by decide +kernel
theorem dX10_house_76 : decode cX10_house 76 = .ok (.aload_n 0, 1) := by decide +kernel
theorem dX10_house_77 : decode cX10_house 77 = .ok (.getfield 113, 3) := by decide +kernel
theorem dX10_house_80 : decode cX10_house 80 = .ok (.istore 5, 2) := by decide +kernel
theorem dX10_house_82 : decode cX10_house 82 = .ok (.aload_n 0, 1) := by decide +kernel
theorem dX10_house_83 : decode cX10_house 83 = .ok (.iconst 0, 1) := by decide +kernel
theorem dX10_house_84 : decode cX10_house 84 = .ok (.putfield 75, 3) := by decide +kernel
theorem dX10_house_87 : decode cX10_house 87 = .ok (.iconst 0, 1) := by decide +kernel
theorem dX10_house_88 : decode cX10_house 88 = .ok (.istore 6, 2) := by decide +kernel
theorem dX10_house_90 : decode cX10_house 90 = .ok (.aload_n 0, 1) := by decide +kernel
theorem dX10_house_91 : decode cX10_house 91 = .ok (.getfield 75, 3) := by decide +kernel
theorem dX10_house_94 : decode cX10_house 94 = .ok (.iload_n 1, 1) := by decide +kernel
theorem dX10_house_95 : decode cX10_house 95 = .ok (.if_icmp .ge 55, 3) := by decide +kernel
theorem dX10_house_98 : decode cX10_house 98 = .ok (.aload_n 0, 1) := by decide +kernel
theorem dX10_house_99 : decode cX10_house 99 = .ok (.getfield 75, 3) := by decide +kernel
theorem dX10_house_102 : decode cX10_house 102 = .ok (.istore 7, 2) := by decide +kernel
theorem dX10_house_104 : decode cX10_house 104 = .ok (.aload_n 0, 1) := by decide +kernel
theorem dX10_house_105 : decode cX10_house 105 = .ok (.aload_n 0, 1) := by decide +kernel
theorem dX10_house_106 : decode cX10_house 106 = .ok (.invokevirtual 116, 3) := by decide +kernel
theorem dX10_house_109 : decode cX10_house 109 = .ok (.invokevirtual 119, 3) := by decide +kernel
theorem dX10_house_112 : decode cX10_house 112 = .ok (.ifCond .ne 32, 3) := by decide +kernel
theorem dX10_house_115 : decode cX10_house 115 = .ok (.aload_n 0, 1) := by decide +kernel
theorem dX10_house_116 : decode cX10_house 116 = .ok (.iload_n 3, 1) := by decide +kernel
theorem dX10_house_117 : decode cX10_house 117 = .ok (.putfield 61, 3) := by decide +kernel
theorem dX10_house_120 : decode cX10_house 120 = .ok (.aload_n 0, 1) := by decide +kernel
theorem dX10_house_121 : decode cX10_house 121 = .ok (.iload 4, 2) := by decide +kernel
theorem dX10_house_123 : decode cX10_house 123 = .ok (.putfield 65, 3) := by decide +kernel
theorem dX10_house_126 : decode cX10_house 126 = .ok (.aload_n 0, 1) := by decide +kernel
theorem dX10_house_127 : decode cX10_house 127 = .ok (.iload 5, 2) := by decide +kernel
theorem dX10_house_129 : decode cX10_house 129 = .ok (.putfield 113, 3) := by decide +kernel
theorem dX10_house_132 : decode cX10_house 132 = .ok (.aload_n 0, 1) := by decide +kernel
theorem dX10_house_133 : decode cX10_house 133 = .ok (.iconst 0, 1) := by decide +kernel
theorem dX10_house_134 : decode cX10_house 134 = .ok (.putfield 72, 3) := by decide +kernel
theorem dX10_house_137 : decode cX10_house 137 = .ok (.sipush (-2000), 3) := by decide +kernel
theorem dX10_house_140 : decode cX10_house 140 = .ok (.iload 7, 2) := by decide +kernel
theorem dX10_house_142 : decode cX10_house 142 = .ok (.isub, 1) := by decide +kernel
theorem dX10_house_143 : decode cX10_house 143 = .ok (.ireturn, 1) := by decide +kernel
theorem dX10_house_144 : decode cX10_house 144 = .ok (.iinc 6 1, 3) := by decide +kernel
theorem dX10_house_147 : decode cX10_house 147 = .ok (.goto (-57), 3) := by decide +kernel
theorem dX10_house_150 : decode cX10_house 150 = .ok (.aload_n 0, 1) := by decide +kernel
theorem dX10_house_151 : decode cX10_house 151 = .ok (.iconst 0, 1) := by decide +kernel
theorem dX10_house_152 : decode cX10_house 152 = .ok (.putfield 72, 3) := by decide +kernel
theorem dX10_house_155 : decode cX10_house 155 = .ok (.iload 6, 2) := by decide +kernel
theorem dX10_house_157 : decode cX10_house 157 = .ok (.ireturn, 1) := by decide +kernel
theorem dX10_hole_0 : decode cX10_hole 0 = .ok (.aload_n 0, 1) := by decide +kernel
theorem dX10_hole_1 : decode cX10_hole 1 = .ok (.iload_n 1, 1) := by decide +kernel
theorem dX10_hole_2 : decode cX10_hole 2 = .ok (.invokevirtual 122, 3) := by decide +kernel
theorem dX10_hole_5 : decode cX10_hole 5 = .ok (.ifCond .ne 9, 3) := by decide +kernel
theorem dX10_hole_8 : decode cX10_hole 8 = .ok (.aload_n 0, 1) := by decide +kernel
theorem dX10_hole_9 : decode cX10_hole 9 = .ok (.iconst (-1), 1) := by decide +kernel
theorem dX10_hole_10 : decode cX10_hole 10 = .ok (.invokevirtual 68, 3) := by decide +kernel
theorem dX10_hole_13 : decode cX10_hole 13 = .ok (.ireturn, 1) := by decide +kernel
theorem dX10_hole_14 : decode cX10_hole 14 = .ok (.iload_n 2, 1) := by decide +kernel
theorem dX10_hole_15 : decode cX10_hole 15 = .ok (.tableswitch 90 0 6 #[41, 48, 55, 62, 69, 76, 83], 41) := by decide +kernel
theorem dX10_hole_56 : decode cX10_hole 56 = .ok (.aload_n 0, 1) := by decide +kernel
theorem dX10_hole_57 : decode cX10_hole 57 = .ok (.getfield 13, 3) := by decide +kernel
theorem dX10_hole_60 : decode cX10_hole 60 = .ok (.iload_n 1, 1) := by decide +kernel
theorem dX10_hole_61 : decode cX10_hole 61 = .ok (.iaload, 1) := by decide +kernel
theorem dX10_hole_62 : decode cX10_hole 62 = .ok (.ireturn, 1) := by decide +kernel
theorem dX10_hole_63 : decode cX10_hole 63 = .ok (.aload_n 0, 1) := by decide +kernel
theorem dX10_hole_64 : decode cX10_hole 64 = .ok (.getfield 16, 3) := by decide +kernel
theorem dX10_hole_67 : decode cX10_hole 67 = .ok (.iload_n 1, 1) := by decide +kernel
theorem dX10_hole_68 : decode cX10_hole 68 = .ok (.iaload, 1) := by decide +kernel
theorem dX10_hole_69 : decode cX10_hole 69 = .ok (.ireturn, 1) := by decide +kernel
theorem dX10_hole_70 : decode cX10_hole 70 = .ok (.aload_n 0, 1) := by decide +kernel
theorem dX10_hole_71 : decode cX10_hole 71 = .ok (.getfield 19, 3) := by decide +kernel
theorem dX10_hole_74 : decode cX10_hole 74 = .ok (.iload_n 1, 1) := by decide +kernel
theorem dX10_hole_75 : decode cX10_hole 75 = .ok (.iaload, 1) := by decide +kernel
theorem dX10_hole_76 : decode cX10_hole 76 = .ok (.ireturn, 1) := by decide +kernel
theorem dX10_hole_77 : decode cX10_hole 77 = .ok (.aload_n 0, 1) := by decide +kernel
theorem dX10_hole_78 : decode cX10_hole 78 = .ok (.getfield 22, 3) := by decide +kernel
theorem dX10_hole_81 : decode cX10_hole 81 = .ok (.iload_n 1, 1) := by decide +kernel
theorem dX10_hole_82 : decode cX10_hole 82 = .ok (.iaload, 1) := by decide +kernel
theorem dX10_hole_83 : decode cX10_hole 83 = .ok (.ireturn, 1) := by decide +kernel
theorem dX10_hole_84 : decode cX10_hole 84 = .ok (.aload_n 0, 1) := by decide +kernel
theorem dX10_hole_85 : decode cX10_hole 85 = .ok (.getfield 25, 3) := by decide +kernel
theorem dX10_hole_88 : decode cX10_hole 88 = .ok (.iload_n 1, 1) := by decide +kernel
theorem dX10_hole_89 : decode cX10_hole 89 = .ok (.iaload, 1) := by decide +kernel
theorem dX10_hole_90 : decode cX10_hole 90 = .ok (.ireturn, 1) := by decide +kernel
theorem dX10_hole_91 : decode cX10_hole 91 = .ok (.aload_n 0, 1) := by decide +kernel
theorem dX10_hole_92 : decode cX10_hole 92 = .ok (.getfield 28, 3) := by decide +kernel
theorem dX10_hole_95 : decode cX10_hole 95 = .ok (.iload_n 1, 1) := by decide +kernel
theorem dX10_hole_96 : decode cX10_hole 96 = .ok (.iaload, 1) := by decide +kernel
theorem dX10_hole_97 : decode cX10_hole 97 = .ok (.ireturn, 1) := by decide +kernel
theorem dX10_hole_98 : decode cX10_hole 98 = .ok (.aload_n 0, 1) := by decide +kernel
theorem dX10_hole_99 : decode cX10_hole 99 = .ok (.getfield 31, 3) := by decide +kernel
theorem dX10_hole_102 : decode cX10_hole 102 = .ok (.iload_n 1, 1) := by decide +kernel
theorem dX10_hole_103 : decode cX10_hole 103 = .ok (.iaload, 1) := by decide +kernel
theorem dX10_hole_104 : decode cX10_hole 104 = .ok (.ireturn, 1) := by decide +kernel
theorem dX10_hole_105 : decode cX10_hole 105 = .ok (.aload_n 0, 1) := by decide +kernel
theorem dX10_hole_106 : decode cX10_hole 106 = .ok (.bipush (-2), 2) := by decide +kernel
theorem dX10_hole_108 : decode cX10_hole 108 = .ok (.invokevirtual 68, 3) := by decide +kernel
theorem dX10_hole_111 : decode cX10_hole 111 = .ok (.ireturn, 1) := by decide +kernel
theorem dX10_weather_0 : decode cX10_weather 0 = .ok (.iload_n 1, 1) := by decide +kernel
theorem dX10_weather_1 : decode cX10_weather 1 = .ok (.ifCond .lt 11, 3) := by decide +kernel
theorem dX10_weather_4 : decode cX10_weather 4 = .ok (.iload_n 1, 1) := by decide +kernel
theorem dX10_weather_5 : decode cX10_weather 5 = .ok (.aload_n 0, 1) := by decide +kernel
theorem dX10_weather_6 : decode cX10_weather 6 = .ok (.getfield 113, 3) := by decide +kernel
theorem dX10_weather_9 : decode cX10_weather 9 = .ok (.if_icmp .lt 9, 3) := by decide +kernel
theorem dX10_weather_12 : decode cX10_weather 12 = .ok (.aload_n 0, 1) := by decide +kernel
theorem dX10_weather_13 : decode cX10_weather 13 = .ok (.iconst (-1), 1) := by decide +kernel
theorem dX10_weather_14 : decode cX10_weather 14 = .ok (.invokevirtual 68, 3) := by decide +kernel
theorem dX10_weather_17 : decode cX10_weather 17 = .ok (.ireturn, 1) := by decide +kernel
theorem dX10_weather_18 : decode cX10_weather 18 = .ok (.iload_n 2, 1) := by decide +kernel
theorem dX10_weather_19 : decode cX10_weather 19 = .ok (.ifCond .lt 8, 3) := by decide +kernel
theorem dX10_weather_22 : decode cX10_weather 22 = .ok (.iload_n 2, 1) := by decide +kernel
theorem dX10_weather_23 : decode cX10_weather 23 = .ok (.iconst 2, 1) := by decide +kernel
theorem dX10_weather_24 : decode cX10_weather 24 = .ok (.if_icmp .le 12, 3) := by decide +kernel
theorem dX10_weather_27 : decode cX10_weather 27 = .ok (.aload_n 0, 1) := by decide +kernel
theorem dX10_weather_28 : decode cX10_weather 28 = .ok (.bipush (-2), 2) := by decide +kernel
theorem dX10_weather_30 : decode cX10_weather 30 = .ok (.invokevirtual 68, 3) := by decide +kernel
theorem dX10_weather_33 : decode cX10_weather 33 = .ok (.goto 13, 3) := by decide +kernel
theorem dX10_weather_36 : decode cX10_weather 36 = .ok (.aload_n 0, 1) := by decide +kernel
theorem dX10_weather_37 : decode cX10_weather 37 = .ok (.getfield 34, 3) := by decide +kernel
theorem dX10_weather_40 : decode cX10_weather 40 = .ok (.iconst 3, 1) := by decide +kernel
theorem dX10_weather_41 : decode cX10_weather 41 = .ok (.iload_n 1, 1) := by decide +kernel
theorem dX10_weather_42 : decode cX10_weather 42 = .ok (.imul, 1) := by decide +kernel
theorem dX10_weather_43 : decode cX10_weather 43 = .ok (.iload_n 2, 1) := by decide +kernel
theorem dX10_weather_44 : decode cX10_weather 44 = .ok (.iadd, 1) := by decide +kernel
theorem dX10_weather_45 : decode cX10_weather 45 = .ok (.iaload, 1) := by decide +kernel
theorem dX10_weather_46 : decode cX10_weather 46 = .ok (.ireturn, 1) := by decide +kernel
theorem dX10_set_0 : decode cX10_set 0 = .ok (.iload_n 1, 1) := by decide +kernel
theorem dX10_set_1 : decode cX10_set 1 = .ok (.ifCond .lt 8, 3) := by decide +kernel
theorem dX10_set_4 : decode cX10_set 4 = .ok (.iload_n 1, 1) := by decide +kernel
theorem dX10_set_5 : decode cX10_set 5 = .ok (.iconst 2, 1) := by decide +kernel
theorem dX10_set_6 : decode cX10_set 6 = .ok (.if_icmp .le 10, 3) := by decide +kernel
theorem dX10_set_9 : decode cX10_set 9 = .ok (.aload_n 0, 1) := by decide +kernel
theorem dX10_set_10 : decode cX10_set 10 = .ok (.bipush (-2), 2) := by decide +kernel
theorem dX10_set_12 : decode cX10_set 12 = .ok (.invokevirtual 68, 3) := by decide +kernel
theorem dX10_set_15 : decode cX10_set 15 = .ok (.ireturn, 1) := by decide +kernel
theorem dX10_set_16 : decode cX10_set 16 = .ok (.iload_n 2, 1) := by decide +kernel
theorem dX10_set_17 : decode cX10_set 17 = .ok (.ifCond .ge 10, 3) := by decide +kernel
theorem dX10_set_20 : decode cX10_set 20 = .ok (.aload_n 0, 1) := by decide +kernel
theorem dX10_set_21 : decode cX10_set 21 = .ok (.bipush (-4), 2) := by decide +kernel
theorem dX10_set_23 : decode cX10_set 23 = .ok (.invokevirtual 68, 3) := by decide +kernel
theorem dX10_set_26 : decode cX10_set 26 = .ok (.ireturn, 1) := by decide +kernel
theorem dX10_set_27 : decode cX10_set 27 = .ok (.iload_n 2, 1) := by decide +kernel
theorem dX10_set_28 : decode cX10_set 28 = .ok (.iload_n 1, 1) := by decide +kernel
theorem dX10_set_29 : decode cX10_set 29 = .ok (.ifCond .ne 8, 3) := by decide +kernel
theorem dX10_set_32 : decode cX10_set 32 = .ok (.bipush 40, 2) := by decide +kernel
theorem dX10_set_34 : decode cX10_set 34 = .ok (.goto 14, 3) := by decide +kernel
theorem dX10_set_37 : decode cX10_set 37 = .ok (.iload_n 1, 1) := by decide +kernel
theorem dX10_set_38 : decode cX10_set 38 = .ok (.iconst 1, 1) := by decide +kernel
theorem dX10_set_39 : decode cX10_set 39 = .ok (.if_icmp .ne 8, 3) := by decide +kernel
theorem dX10_set_42 : decode cX10_set 42 = .ok (.bipush 20, 2) := by decide +kernel
theorem dX10_set_44 : decode cX10_set 44 = .ok (.goto 4, 3) := by decide +kernel
theorem dX10_set_47 : decode cX10_set 47 = .ok (.iconst 3, 1) := by decide +kernel
theorem dX10_set_48 : decode cX10_set 48 = .ok (.if_icmp .le 10, 3) := by decide +kernel
theorem dX10_set_51 : decode cX10_set 51 = .ok (.aload_n 0, 1) := by decide +kernel
theorem dX10_set_52 : decode cX10_set 52 = .ok (.bipush (-6), 2) := by decide +kernel
theorem dX10_set_54 : decode cX10_set 54 = .ok (.invokevirtual 68, 3) := by decide +kernel
theorem dX10_set_57 : decode cX10_set 57 = .ok (.ireturn, 1) := by decide +kernel
theorem dX10_set_58 : decode cX10_set 58 = .ok (.aload_n 0, 1) := by decide +kernel
theorem dX10_set_59 : decode cX10_set 59 = .ok (.getfield 37, 3) := by decide +kernel
theorem dX10_set_62 : decode cX10_set 62 = .ok (.iload_n 1, 1) := by decide +kernel
theorem dX10_set_63 : decode cX10_set 63 = .ok (.iaload, 1) := by decide +kernel
theorem dX10_set_64 : decode cX10_set 64 = .ok (.istore_n 3, 1) := by decide +kernel
theorem dX10_set_65 : decode cX10_set 65 = .ok (.aload_n 0, 1) := by decide +kernel
theorem dX10_set_66 : decode cX10_set 66 = .ok (.getfield 37, 3) := by decide +kernel
theorem dX10_set_69 : decode cX10_set 69 = .ok (.iload_n 1, 1) := by decide +kernel
theorem dX10_set_70 : decode cX10_set 70 = .ok (.iload_n 2, 1) := by decide +kernel
theorem dX10_set_71 : decode cX10_set 71 = .ok (.iastore, 1) := by decide +kernel
theorem dX10_set_72 : decode cX10_set 72 = .ok (.iload_n 3, 1) := by decide +kernel
theorem dX10_set_73 : decode cX10_set 73 = .ok (.ireturn, 1) := by decide +kernel
theorem dX10_fan_0 : decode cX10_fan 0 = .ok (.iload_n 1, 1) := by decide +kernel
theorem dX10_fan_1 : decode cX10_fan 1 = .ok (.bipush (-50), 2) := by decide +kernel
theorem dX10_fan_3 : decode cX10_fan 3 = .ok (.if_icmp .ge 10, 3) := by decide +kernel
theorem dX10_fan_6 : decode cX10_fan 6 = .ok (.aload_n 0, 1) := by decide +kernel
theorem dX10_fan_7 : decode cX10_fan 7 = .ok (.bipush (-4), 2) := by decide +kernel
theorem dX10_fan_9 : decode cX10_fan 9 = .ok (.invokevirtual 68, 3) := by decide +kernel
theorem dX10_fan_12 : decode cX10_fan 12 = .ok (.ireturn, 1) := by decide +kernel
theorem dX10_fan_13 : decode cX10_fan 13 = .ok (.iload_n 1, 1) := by decide +kernel
theorem dX10_fan_14 : decode cX10_fan 14 = .ok (.bipush 50, 2) := by decide +kernel
theorem dX10_fan_16 : decode cX10_fan 16 = .ok (.if_icmp .le 10, 3) := by decide +kernel
theorem dX10_fan_19 : decode cX10_fan 19 = .ok (.aload_n 0, 1) := by decide +kernel
theorem dX10_fan_20 : decode cX10_fan 20 = .ok (.bipush (-6), 2) := by decide +kernel
theorem dX10_fan_22 : decode cX10_fan 22 = .ok (.invokevirtual 68, 3) := by decide +kernel
theorem dX10_fan_25 : decode cX10_fan 25 = .ok (.ireturn, 1) := by decide +kernel
theorem dX10_fan_26 : decode cX10_fan 26 = .ok (.aload_n 0, 1) := by decide +kernel
theorem dX10_fan_27 : decode cX10_fan 27 = .ok (.iload_n 1, 1) := by decide +kernel
theorem dX10_fan_28 : decode cX10_fan 28 = .ok (.putfield 125, 3) := by decide +kernel
theorem dX10_fan_31 : decode cX10_fan 31 = .ok (.iload_n 1, 1) := by decide +kernel
theorem dX10_fan_32 : decode cX10_fan 32 = .ok (.bipush 50, 2) := by decide +kernel
theorem dX10_fan_34 : decode cX10_fan 34 = .ok (.iadd, 1) := by decide +kernel
theorem dX10_fan_35 : decode cX10_fan 35 = .ok (.ireturn, 1) := by decide +kernel
theorem dX10_now_0 : decode cX10_now 0 = .ok (.iload_n 1, 1) := by decide +kernel
theorem dX10_now_1 : decode cX10_now 1 = .ok (.ifCond .lt 8, 3) := by decide +kernel
theorem dX10_now_4 : decode cX10_now 4 = .ok (.iload_n 1, 1) := by decide +kernel
theorem dX10_now_5 : decode cX10_now 5 = .ok (.iconst 3, 1) := by decide +kernel
theorem dX10_now_6 : decode cX10_now 6 = .ok (.if_icmp .le 13, 3) := by decide +kernel
theorem dX10_now_9 : decode cX10_now 9 = .ok (.ldc 128, 2) := by decide +kernel
theorem dX10_now_11 : decode cX10_now 11 = .ok (.aload_n 0, 1) := by decide +kernel
theorem dX10_now_12 : decode cX10_now 12 = .ok (.bipush (-2), 2) := by decide +kernel
theorem dX10_now_14 : decode cX10_now 14 = .ok (.invokevirtual 68, 3) := by decide +kernel
theorem dX10_now_17 : decode cX10_now 17 = .ok (.isub, 1) := by decide +kernel
theorem dX10_now_18 : decode cX10_now 18 = .ok (.ireturn, 1) := by decide +kernel
theorem dX10_now_19 : decode cX10_now 19 = .ok (.iload_n 1, 1) := by decide +kernel
theorem dX10_now_20 : decode cX10_now 20 = .ok (.iconst 3, 1) := by decide +kernel
theorem dX10_now_21 : decode cX10_now 21 = .ok (.if_icmp .ge 12, 3) := by decide +kernel
theorem dX10_now_24 : decode cX10_now 24 = .ok (.aload_n 0, 1) := by decide +kernel
theorem dX10_now_25 : decode cX10_now 25 = .ok (.getfield 37, 3) := by decide +kernel
theorem dX10_now_28 : decode cX10_now 28 = .ok (.iload_n 1, 1) := by decide +kernel
theorem dX10_now_29 : decode cX10_now 29 = .ok (.iaload, 1) := by decide +kernel
theorem dX10_now_30 : decode cX10_now 30 = .ok (.goto 7, 3) := by decide +kernel
theorem dX10_now_33 : decode cX10_now 33 = .ok (.aload_n 0, 1) := by decide +kernel
theorem dX10_now_34 : decode cX10_now 34 = .ok (.getfield 125, 3) := by decide +kernel
theorem dX10_now_37 : decode cX10_now 37 = .ok (.ireturn, 1) := by decide +kernel
theorem dX10_size_0 : decode cX10_size 0 = .ok (.aload_n 0, 1) := by decide +kernel
theorem dX10_size_1 : decode cX10_size 1 = .ok (.iload_n 1, 1) := by decide +kernel
theorem dX10_size_2 : decode cX10_size 2 = .ok (.invokevirtual 122, 3) := by decide +kernel
theorem dX10_size_5 : decode cX10_size 5 = .ok (.ifCond .ne 9, 3) := by decide +kernel
theorem dX10_size_8 : decode cX10_size 8 = .ok (.aload_n 0, 1) := by decide +kernel
theorem dX10_size_9 : decode cX10_size 9 = .ok (.iconst (-1), 1) := by decide +kernel
theorem dX10_size_10 : decode cX10_size 10 = .ok (.invokevirtual 68, 3) := by decide +kernel
theorem dX10_size_13 : decode cX10_size 13 = .ok (.ireturn, 1) := by decide +kernel
theorem dX10_size_14 : decode cX10_size 14 = .ok (.iload_n 2, 1) := by decide +kernel
theorem dX10_size_15 : decode cX10_size 15 = .ok (.ifCond .ge 10, 3) := by decide +kernel
theorem dX10_size_18 : decode cX10_size 18 = .ok (.aload_n 0, 1) := by decide +kernel
theorem dX10_size_19 : decode cX10_size 19 = .ok (.bipush (-4), 2) := by decide +kernel
theorem dX10_size_21 : decode cX10_size 21 = .ok (.invokevirtual 68, 3) := by decide +kernel
theorem dX10_size_24 : decode cX10_size 24 = .ok (.ireturn, 1) := by decide +kernel
theorem dX10_size_25 : decode cX10_size 25 = .ok (.iload_n 2, 1) := by decide +kernel
theorem dX10_size_26 : decode cX10_size 26 = .ok (.bipush 9, 2) := by decide +kernel
theorem dX10_size_28 : decode cX10_size 28 = .ok (.if_icmp .le 10, 3) := by decide +kernel
theorem dX10_size_31 : decode cX10_size 31 = .ok (.aload_n 0, 1) := by decide +kernel
theorem dX10_size_32 : decode cX10_size 32 = .ok (.bipush (-6), 2) := by decide +kernel
theorem dX10_size_34 : decode cX10_size 34 = .ok (.invokevirtual 68, 3) := by decide +kernel
theorem dX10_size_37 : decode cX10_size 37 = .ok (.ireturn, 1) := by decide +kernel
theorem dX10_size_38 : decode cX10_size 38 = .ok (.aload_n 0, 1) := by decide +kernel
theorem dX10_size_39 : decode cX10_size 39 = .ok (.getfield 22, 3) := by decide +kernel
theorem dX10_size_42 : decode cX10_size 42 = .ok (.iload_n 1, 1) := by decide +kernel
theorem dX10_size_43 : decode cX10_size 43 = .ok (.iaload, 1) := by decide +kernel
theorem dX10_size_44 : decode cX10_size 44 = .ok (.istore_n 3, 1) := by decide +kernel
theorem dX10_size_45 : decode cX10_size 45 = .ok (.aload_n 0, 1) := by decide +kernel
theorem dX10_size_46 : decode cX10_size 46 = .ok (.getfield 22, 3) := by decide +kernel
theorem dX10_size_49 : decode cX10_size 49 = .ok (.iload_n 1, 1) := by decide +kernel
theorem dX10_size_50 : decode cX10_size 50 = .ok (.iload_n 2, 1) := by decide +kernel
theorem dX10_size_51 : decode cX10_size 51 = .ok (.iastore, 1) := by decide +kernel
theorem dX10_size_52 : decode cX10_size 52 = .ok (.iload_n 3, 1) := by decide +kernel
theorem dX10_size_53 : decode cX10_size 53 = .ok (.ireturn, 1) := by decide +kernel
theorem dX10_outsidePush_0 : decode cX10_outsidePush 0 = .ok (.aload_n 0, 1) := by decide +kernel
theorem dX10_outsidePush_1 : decode cX10_outsidePush 1 = .ok (.getfield 37, 3) := by decide +kernel
theorem dX10_outsidePush_4 : decode cX10_outsidePush 4 = .ok (.iconst 0, 1) := by decide +kernel
theorem dX10_outsidePush_5 : decode cX10_outsidePush 5 = .ok (.iaload, 1) := by decide +kernel
theorem dX10_outsidePush_6 : decode cX10_outsidePush 6 = .ok (.istore_n 2, 1) := by decide +kernel
theorem dX10_outsidePush_7 : decode cX10_outsidePush 7 = .ok (.aload_n 0, 1) := by decide +kernel
theorem dX10_outsidePush_8 : decode cX10_outsidePush 8 = .ok (.getfield 37, 3) := by decide +kernel
theorem dX10_outsidePush_11 : decode cX10_outsidePush 11 = .ok (.iconst 1, 1) := by decide +kernel
theorem dX10_outsidePush_12 : decode cX10_outsidePush 12 = .ok (.iaload, 1) := by decide +kernel
theorem dX10_outsidePush_13 : decode cX10_outsidePush 13 = .ok (.aload_n 0, 1) := by decide +kernel
theorem dX10_outsidePush_14 : decode cX10_outsidePush 14 = .ok (.getfield 37, 3) := by decide +kernel
theorem dX10_outsidePush_17 : decode cX10_outsidePush 17 = .ok (.iconst 1, 1) := by decide +kernel
theorem dX10_outsidePush_18 : decode cX10_outsidePush 18 = .ok (.iaload, 1) := by decide +kernel
theorem dX10_outsidePush_19 : decode cX10_outsidePush 19 = .ok (.imul, 1) := by decide +kernel
theorem dX10_outsidePush_20 : decode cX10_outsidePush 20 = .ok (.istore_n 3, 1) := by decide +kernel
theorem dX10_outsidePush_21 : decode cX10_outsidePush 21 = .ok (.aload_n 0, 1) := by decide +kernel
theorem dX10_outsidePush_22 : decode cX10_outsidePush 22 = .ok (.getfield 28, 3) := by decide +kernel
theorem dX10_outsidePush_25 : decode cX10_outsidePush 25 = .ok (.iload_n 1, 1) := by decide +kernel
theorem dX10_outsidePush_26 : decode cX10_outsidePush 26 = .ok (.iaload, 1) := by decide +kernel
theorem dX10_outsidePush_27 : decode cX10_outsidePush 27 = .ok (.aload_n 0, 1) := by decide +kernel
theorem dX10_outsidePush_28 : decode cX10_outsidePush 28 = .ok (.getfield 37, 3) := by decide +kernel
theorem dX10_outsidePush_31 : decode cX10_outsidePush 31 = .ok (.iconst 2, 1) := by decide +kernel
theorem dX10_outsidePush_32 : decode cX10_outsidePush 32 = .ok (.iaload, 1) := by decide +kernel
theorem dX10_outsidePush_33 : decode cX10_outsidePush 33 = .ok (.if_icmp .ne 7, 3) := by decide +kernel
theorem dX10_outsidePush_36 : decode cX10_outsidePush 36 = .ok (.iload_n 3, 1) := by decide +kernel
theorem dX10_outsidePush_37 : decode cX10_outsidePush 37 = .ok (.goto 30, 3) := by decide +kernel
theorem dX10_outsidePush_40 : decode cX10_outsidePush 40 = .ok (.aload_n 0, 1) := by decide +kernel
theorem dX10_outsidePush_41 : decode cX10_outsidePush 41 = .ok (.getfield 28, 3) := by decide +kernel
theorem dX10_outsidePush_44 : decode cX10_outsidePush 44 = .ok (.iload_n 1, 1) := by decide +kernel
theorem dX10_outsidePush_45 : decode cX10_outsidePush 45 = .ok (.iaload, 1) := by decide +kernel
theorem dX10_outsidePush_46 : decode cX10_outsidePush 46 = .ok (.aload_n 0, 1) := by decide +kernel
theorem dX10_outsidePush_47 : decode cX10_outsidePush 47 = .ok (.getfield 37, 3) := by decide +kernel
theorem dX10_outsidePush_50 : decode cX10_outsidePush 50 = .ok (.iconst 2, 1) := by decide +kernel
theorem dX10_outsidePush_51 : decode cX10_outsidePush 51 = .ok (.iaload, 1) := by decide +kernel
theorem dX10_outsidePush_52 : decode cX10_outsidePush 52 = .ok (.iconst 2, 1) := by decide +kernel
theorem dX10_outsidePush_53 : decode cX10_outsidePush 53 = .ok (.iadd, 1) := by decide +kernel
theorem dX10_outsidePush_54 : decode cX10_outsidePush 54 = .ok (.iconst 4, 1) := by decide +kernel
theorem dX10_outsidePush_55 : decode cX10_outsidePush 55 = .ok (.irem, 1) := by decide +kernel
theorem dX10_outsidePush_56 : decode cX10_outsidePush 56 = .ok (.if_icmp .ne 10, 3) := by decide +kernel
theorem dX10_outsidePush_59 : decode cX10_outsidePush 59 = .ok (.iload_n 3, 1) := by decide +kernel
theorem dX10_outsidePush_60 : decode cX10_outsidePush 60 = .ok (.iconst 2, 1) := by decide +kernel
theorem dX10_outsidePush_61 : decode cX10_outsidePush 61 = .ok (.idiv, 1) := by decide +kernel
theorem dX10_outsidePush_62 : decode cX10_outsidePush 62 = .ok (.ineg, 1) := by decide +kernel
theorem dX10_outsidePush_63 : decode cX10_outsidePush 63 = .ok (.goto 4, 3) := by decide +kernel
theorem dX10_outsidePush_66 : decode cX10_outsidePush 66 = .ok (.iconst 0, 1) := by decide +kernel
theorem dX10_outsidePush_67 : decode cX10_outsidePush 67 = .ok (.istore 4, 2) := by decide +kernel
theorem dX10_outsidePush_69 : decode cX10_outsidePush 69 = .ok (.iload_n 2, 1) := by decide +kernel
theorem dX10_outsidePush_70 : decode cX10_outsidePush 70 = .ok (.iconst 5, 1) := by decide +kernel
theorem dX10_outsidePush_71 : decode cX10_outsidePush 71 = .ok (.aload_n 0, 1) := by decide +kernel
theorem dX10_outsidePush_72 : decode cX10_outsidePush 72 = .ok (.getfield 25, 3) := by decide +kernel
theorem dX10_outsidePush_75 : decode cX10_outsidePush 75 = .ok (.iload_n 1, 1) := by decide +kernel
theorem dX10_outsidePush_76 : decode cX10_outsidePush 76 = .ok (.iaload, 1) := by decide +kernel
theorem dX10_outsidePush_77 : decode cX10_outsidePush 77 = .ok (.isub, 1) := by decide +kernel
theorem dX10_outsidePush_78 : decode cX10_outsidePush 78 = .ok (.imul, 1) := by decide +kernel
theorem dX10_outsidePush_79 : decode cX10_outsidePush 79 = .ok (.iload 4, 2) := by decide +kernel
theorem dX10_outsidePush_81 : decode cX10_outsidePush 81 = .ok (.iadd, 1) := by decide +kernel
theorem dX10_outsidePush_82 : decode cX10_outsidePush 82 = .ok (.istore 5, 2) := by decide +kernel
theorem dX10_outsidePush_84 : decode cX10_outsidePush 84 = .ok (.aload_n 0, 1) := by decide +kernel
theorem dX10_outsidePush_85 : decode cX10_outsidePush 85 = .ok (.getfield 19, 3) := by decide +kernel
theorem dX10_outsidePush_88 : decode cX10_outsidePush 88 = .ok (.iload_n 1, 1) := by decide +kernel
theorem dX10_outsidePush_89 : decode cX10_outsidePush 89 = .ok (.iaload, 1) := by decide +kernel
theorem dX10_outsidePush_90 : decode cX10_outsidePush 90 = .ok (.tableswitch 97 1 6 #[38, 43, 48, 54, 70, 78], 38) := by decide +kernel
theorem dX10_outsidePush_128 : decode cX10_outsidePush 128 = .ok (.iload 5, 2) := by decide +kernel
theorem dX10_outsidePush_130 : decode cX10_outsidePush 130 = .ok (.iload_n 2, 1) := by decide +kernel
theorem dX10_outsidePush_131 : decode cX10_outsidePush 131 = .ok (.iadd, 1) := by decide +kernel
theorem dX10_outsidePush_132 : decode cX10_outsidePush 132 = .ok (.ireturn, 1) := by decide +kernel
theorem dX10_outsidePush_133 : decode cX10_outsidePush 133 = .ok (.iload 5, 2) := by decide +kernel
theorem dX10_outsidePush_135 : decode cX10_outsidePush 135 = .ok (.iload_n 2, 1) := by decide +kernel
theorem dX10_outsidePush_136 : decode cX10_outsidePush 136 = .ok (.isub, 1) := by decide +kernel
theorem dX10_outsidePush_137 : decode cX10_outsidePush 137 = .ok (.ireturn, 1) := by decide +kernel
theorem dX10_outsidePush_138 : decode cX10_outsidePush 138 = .ok (.iload 5, 2) := by decide +kernel
theorem dX10_outsidePush_140 : decode cX10_outsidePush 140 = .ok (.iload 4, 2) := by decide +kernel
theorem dX10_outsidePush_142 : decode cX10_outsidePush 142 = .ok (.iadd, 1) := by decide +kernel
theorem dX10_outsidePush_143 : decode cX10_outsidePush 143 = .ok (.ireturn, 1) := by decide +kernel
theorem dX10_outsidePush_144 : decode cX10_outsidePush 144 = .ok (.iload 5, 2) := by decide +kernel
theorem dX10_outsidePush_146 : decode cX10_outsidePush 146 = .ok (.iconst 4, 1) := by decide +kernel
theorem dX10_outsidePush_147 : decode cX10_outsidePush 147 = .ok (.iload_n 2, 1) := by decide +kernel
theorem dX10_outsidePush_148 : decode cX10_outsidePush 148 = .ok (.imul, 1) := by decide +kernel
theorem dX10_outsidePush_149 : decode cX10_outsidePush 149 = .ok (.isub, 1) := by decide +kernel
theorem dX10_outsidePush_150 : decode cX10_outsidePush 150 = .ok (.iconst 2, 1) := by decide +kernel
theorem dX10_outsidePush_151 : decode cX10_outsidePush 151 = .ok (.aload_n 0, 1) := by decide +kernel
theorem dX10_outsidePush_152 : decode cX10_outsidePush 152 = .ok (.getfield 37, 3) := by decide +kernel
theorem dX10_outsidePush_155 : decode cX10_outsidePush 155 = .ok (.iconst 1, 1) := by decide +kernel
theorem dX10_outsidePush_156 : decode cX10_outsidePush 156 = .ok (.iaload, 1) := by decide +kernel
theorem dX10_outsidePush_157 : decode cX10_outsidePush 157 = .ok (.imul, 1) := by decide +kernel
theorem dX10_outsidePush_158 : decode cX10_outsidePush 158 = .ok (.isub, 1) := by decide +kernel
theorem dX10_outsidePush_159 : decode cX10_outsidePush 159 = .ok (.ireturn, 1) := by decide +kernel
theorem dX10_outsidePush_160 : decode cX10_outsidePush 160 = .ok (.iload 5, 2) := by decide +kernel
theorem dX10_outsidePush_162 : decode cX10_outsidePush 162 = .ok (.aload_n 0, 1) := by decide +kernel
theorem dX10_outsidePush_163 : decode cX10_outsidePush 163 = .ok (.getfield 125, 3) := by decide +kernel
theorem dX10_outsidePush_166 : decode cX10_outsidePush 166 = .ok (.iadd, 1) := by decide +kernel
theorem dX10_outsidePush_167 : decode cX10_outsidePush 167 = .ok (.ireturn, 1) := by decide +kernel
theorem dX10_outsidePush_168 : decode cX10_outsidePush 168 = .ok (.iload 5, 2) := by decide +kernel
theorem dX10_outsidePush_170 : decode cX10_outsidePush 170 = .ok (.iconst 4, 1) := by decide +kernel
theorem dX10_outsidePush_171 : decode cX10_outsidePush 171 = .ok (.iload_n 2, 1) := by decide +kernel
theorem dX10_outsidePush_172 : decode cX10_outsidePush 172 = .ok (.imul, 1) := by decide +kernel
theorem dX10_outsidePush_173 : decode cX10_outsidePush 173 = .ok (.isub, 1) := by decide +kernel
theorem dX10_outsidePush_174 : decode cX10_outsidePush 174 = .ok (.iconst 2, 1) := by decide +kernel
theorem dX10_outsidePush_175 : decode cX10_outsidePush 175 = .ok (.aload_n 0, 1) := by decide +kernel
theorem dX10_outsidePush_176 : decode cX10_outsidePush 176 = .ok (.getfield 37, 3) := by decide +kernel
theorem dX10_outsidePush_179 : decode cX10_outsidePush 179 = .ok (.iconst 1, 1) := by decide +kernel
theorem dX10_outsidePush_180 : decode cX10_outsidePush 180 = .ok (.iaload, 1) := by decide +kernel
theorem dX10_outsidePush_181 : decode cX10_outsidePush 181 = .ok (.imul, 1) := by decide +kernel
theorem dX10_outsidePush_182 : decode cX10_outsidePush 182 = .ok (.isub, 1) := by decide +kernel
theorem dX10_outsidePush_183 : decode cX10_outsidePush 183 = .ok (.bipush 20, 2) := by decide +kernel
theorem dX10_outsidePush_185 : decode cX10_outsidePush 185 = .ok (.isub, 1) := by decide +kernel
theorem dX10_outsidePush_186 : decode cX10_outsidePush 186 = .ok (.ireturn, 1) := by decide +kernel
theorem dX10_outsidePush_187 : decode cX10_outsidePush 187 = .ok (.iload 5, 2) := by decide +kernel
theorem dX10_outsidePush_189 : decode cX10_outsidePush 189 = .ok (.ireturn, 1) := by decide +kernel
theorem dX10_root_0 : decode cX10_root 0 = .ok (.iload_n 1, 1) := by decide +kernel
theorem dX10_root_1 : decode cX10_root 1 = .ok (.sipush 4096, 3) := by decide +kernel
theorem dX10_root_4 : decode cX10_root 4 = .ok (.if_icmp .ge 10, 3) := by decide +kernel
theorem dX10_root_7 : decode cX10_root 7 = .ok (.aload_n 0, 1) := by decide +kernel
theorem dX10_root_8 : decode cX10_root 8 = .ok (.getfield 52, 3) := by decide +kernel
theorem dX10_root_11 : decode cX10_root 11 = .ok (.iload_n 1, 1) := by decide +kernel
theorem dX10_root_12 : decode cX10_root 12 = .ok (.iaload, 1) := by decide +kernel
theorem dX10_root_13 : decode cX10_root 13 = .ok (.ireturn, 1) := by decide +kernel
theorem dX10_root_14 : decode cX10_root 14 = .ok (.bipush 63, 2) := by decide +kernel
theorem dX10_root_16 : decode cX10_root 16 = .ok (.istore_n 2, 1) := by decide +kernel
theorem dX10_root_17 : decode cX10_root 17 = .ok (.iload_n 2, 1) := by decide +kernel
theorem dX10_root_18 : decode cX10_root 18 = .ok (.iconst 1, 1) := by decide +kernel
theorem dX10_root_19 : decode cX10_root 19 = .ok (.iadd, 1) := by decide +kernel
theorem dX10_root_20 : decode cX10_root 20 = .ok (.iload_n 2, 1) := by decide +kernel
theorem dX10_root_21 : decode cX10_root 21 = .ok (.iconst 1, 1) := by decide +kernel
theorem dX10_root_22 : decode cX10_root 22 = .ok (.iadd, 1) := by decide +kernel
theorem dX10_root_23 : decode cX10_root 23 = .ok (.imul, 1) := by decide +kernel
theorem dX10_root_24 : decode cX10_root 24 = .ok (.iload_n 1, 1) := by decide +kernel
theorem dX10_root_25 : decode cX10_root 25 = .ok (.if_icmp .gt 9, 3) := by decide +kernel
theorem dX10_root_28 : decode cX10_root 28 = .ok (.iinc 2 1, 3) := by decide +kernel
theorem dX10_root_31 : decode cX10_root 31 = .ok (.goto (-14), 3) := by decide +kernel
theorem dX10_root_34 : decode cX10_root 34 = .ok (.iload_n 2, 1) := by decide +kernel
theorem dX10_root_35 : decode cX10_root 35 = .ok (.ireturn, 1) := by decide +kernel
theorem dX10_flows_0 : decode cX10_flows 0 = .ok (.aload_n 0, 1) := by decide +kernel
theorem dX10_flows_1 : decode cX10_flows 1 = .ok (.iload_n 1, 1) := by decide +kernel
theorem dX10_flows_2 : decode cX10_flows 2 = .ok (.invokevirtual 129, 3) := by decide +kernel
theorem dX10_flows_5 : decode cX10_flows 5 = .ok (.ifCond .eq 17, 3) := by decide +kernel
theorem dX10_flows_8 : decode cX10_flows 8 = .ok (.aload_n 0, 1) := by decide +kernel
theorem dX10_flows_9 : decode cX10_flows 9 = .ok (.getfield 46, 3) := by decide +kernel
theorem dX10_flows_12 : decode cX10_flows 12 = .ok (.aload_n 0, 1) := by decide +kernel
theorem dX10_flows_13 : decode cX10_flows 13 = .ok (.getfield 13, 3) := by decide +kernel
theorem dX10_flows_16 : decode cX10_flows 16 = .ok (.iload_n 1, 1) := by decide +kernel
theorem dX10_flows_17 : decode cX10_flows 17 = .ok (.iaload, 1) := by decide +kernel
theorem dX10_flows_18 : decode cX10_flows 18 = .ok (.iaload, 1) := by decide +kernel
theorem dX10_flows_19 : decode cX10_flows 19 = .ok (.goto 9, 3) := by decide +kernel
theorem dX10_flows_22 : decode cX10_flows 22 = .ok (.aload_n 0, 1) := by decide +kernel
theorem dX10_flows_23 : decode cX10_flows 23 = .ok (.getfield 49, 3) := by decide +kernel
theorem dX10_flows_26 : decode cX10_flows 26 = .ok (.iload_n 1, 1) := by decide +kernel
theorem dX10_flows_27 : decode cX10_flows 27 = .ok (.iaload, 1) := by decide +kernel
theorem dX10_flows_28 : decode cX10_flows 28 = .ok (.istore_n 2, 1) := by decide +kernel
theorem dX10_flows_29 : decode cX10_flows 29 = .ok (.aload_n 0, 1) := by decide +kernel
theorem dX10_flows_30 : decode cX10_flows 30 = .ok (.getfield 46, 3) := by decide +kernel
theorem dX10_flows_33 : decode cX10_flows 33 = .ok (.aload_n 0, 1) := by decide +kernel
theorem dX10_flows_34 : decode cX10_flows 34 = .ok (.iload_n 1, 1) := by decide +kernel
theorem dX10_flows_35 : decode cX10_flows 35 = .ok (.invokevirtual 129, 3) := by decide +kernel
theorem dX10_flows_38 : decode cX10_flows 38 = .ok (.ifCond .eq 12, 3) := by decide +kernel
theorem dX10_flows_41 : decode cX10_flows 41 = .ok (.aload_n 0, 1) := by decide +kernel
theorem dX10_flows_42 : decode cX10_flows 42 = .ok (.getfield 16, 3) := by decide +kernel
theorem dX10_flows_45 : decode cX10_flows 45 = .ok (.iload_n 1, 1) := by decide +kernel
theorem dX10_flows_46 : decode cX10_flows 46 = .ok (.iaload, 1) := by decide +kernel
theorem dX10_flows_47 : decode cX10_flows 47 = .ok (.goto 9, 3) := by decide +kernel
theorem dX10_flows_50 : decode cX10_flows 50 = .ok (.aload_n 0, 1) := by decide +kernel
theorem dX10_flows_51 : decode cX10_flows 51 = .ok (.getfield 13, 3) := by decide +kernel
theorem dX10_flows_54 : decode cX10_flows 54 = .ok (.iload_n 1, 1) := by decide +kernel
theorem dX10_flows_55 : decode cX10_flows 55 = .ok (.iaload, 1) := by decide +kernel
theorem dX10_flows_56 : decode cX10_flows 56 = .ok (.iaload, 1) := by decide +kernel
theorem dX10_flows_57 : decode cX10_flows 57 = .ok (.istore_n 3, 1) := by decide +kernel
theorem dX10_flows_58 : decode cX10_flows 58 = .ok (.aload_n 0, 1) := by decide +kernel
theorem dX10_flows_59 : decode cX10_flows 59 = .ok (.getfield 22, 3) := by decide +kernel
theorem dX10_flows_62 : decode cX10_flows 62 = .ok (.iload_n 1, 1) := by decide +kernel
theorem dX10_flows_63 : decode cX10_flows 63 = .ok (.iaload, 1) := by decide +kernel
theorem dX10_flows_64 : decode cX10_flows 64 = .ok (.aload_n 0, 1) := by decide +kernel
theorem dX10_flows_65 : decode cX10_flows 65 = .ok (.iload_n 2, 1) := by decide +kernel
theorem dX10_flows_66 : decode cX10_flows 66 = .ok (.iload_n 3, 1) := by decide +kernel
theorem dX10_flows_67 : decode cX10_flows 67 = .ok (.isub, 1) := by decide +kernel
theorem dX10_flows_68 : decode cX10_flows 68 = .ok (.invokestatic 132, 3) := by decide +kernel
theorem dX10_flows_71 : decode cX10_flows 71 = .ok (.invokevirtual 135, 3) := by decide +kernel
theorem dX10_flows_74 : decode cX10_flows 74 = .ok (.imul, 1) := by decide +kernel
theorem dX10_flows_75 : decode cX10_flows 75 = .ok (.istore 4, 2) := by decide +kernel
theorem dX10_flows_77 : decode cX10_flows 77 = .ok (.iload_n 2, 1) := by decide +kernel
theorem dX10_flows_78 : decode cX10_flows 78 = .ok (.iload_n 3, 1) := by decide +kernel
theorem dX10_flows_79 : decode cX10_flows 79 = .ok (.if_icmp .ge 9, 3) := by decide +kernel
theorem dX10_flows_82 : decode cX10_flows 82 = .ok (.iload 4, 2) := by decide +kernel
theorem dX10_flows_84 : decode cX10_flows 84 = .ok (.ineg, 1) := by decide +kernel
theorem dX10_flows_85 : decode cX10_flows 85 = .ok (.goto 5, 3) := by decide +kernel
theorem dX10_flows_88 : decode cX10_flows 88 = .ok (.iload 4, 2) := by decide +kernel
theorem dX10_flows_90 : decode cX10_flows 90 = .ok (.ireturn, 1) := by decide +kernel
theorem dX10_settle_0 : decode cX10_settle 0 = .ok (.iconst 0, 1) := by decide +kernel
theorem dX10_settle_1 : decode cX10_settle 1 = .ok (.istore_n 1, 1) := by decide +kernel
theorem dX10_settle_2 : decode cX10_settle 2 = .ok (.iload_n 1, 1) := by decide +kernel
theorem dX10_settle_3 : decode cX10_settle 3 = .ok (.aload_n 0, 1) := by decide +kernel
theorem dX10_settle_4 : decode cX10_settle 4 = .ok (.getfield 65, 3) := by decide +kernel
theorem dX10_settle_7 : decode cX10_settle 7 = .ok (.if_icmp .ge 32, 3) := by decide +kernel
theorem dX10_settle_10 : decode cX10_settle 10 = .ok (.aload_n 0, 1) := by decide +kernel
theorem dX10_settle_11 : decode cX10_settle 11 = .ok (.getfield 49, 3) := by decide +kernel
theorem dX10_settle_14 : decode cX10_settle 14 = .ok (.iload_n 1, 1) := by decide +kernel
theorem dX10_settle_15 : decode cX10_settle 15 = .ok (.aload_n 0, 1) := by decide +kernel
theorem dX10_settle_16 : decode cX10_settle 16 = .ok (.iload_n 1, 1) := by decide +kernel
theorem dX10_settle_17 : decode cX10_settle 17 = .ok (.invokevirtual 129, 3) := by decide +kernel
theorem dX10_settle_20 : decode cX10_settle 20 = .ok (.ifCond .eq 7, 3) := by decide +kernel
theorem dX10_settle_23 : decode cX10_settle 23 = .ok (.iconst 0, 1) := by decide +kernel
theorem dX10_settle_24 : decode cX10_settle 24 = .ok (.goto 8, 3) := by decide +kernel
theorem dX10_settle_27 : decode cX10_settle 27 = .ok (.aload_n 0, 1) := by decide +kernel
theorem dX10_settle_28 : decode cX10_settle 28 = .ok (.iload_n 1, 1) := by decide +kernel
theorem dX10_settle_29 : decode cX10_settle 29 = .ok (.invokevirtual 138, 3) := by decide +kernel
theorem dX10_settle_32 : decode cX10_settle 32 = .ok (.iastore, 1) := by decide +kernel
theorem dX10_settle_33 : decode cX10_settle 33 = .ok (.iinc 1 1, 3) := by decide +kernel
theorem dX10_settle_36 : decode cX10_settle 36 = .ok (.goto (-34), 3) := by decide +kernel
theorem dX10_settle_39 : decode cX10_settle 39 = .ok (.iconst 0, 1) := by decide +kernel
theorem dX10_settle_40 : decode cX10_settle 40 = .ok (.istore_n 1, 1) := by decide +kernel
theorem dX10_settle_41 : decode cX10_settle 41 = .ok (.iload_n 1, 1) := by decide +kernel
theorem dX10_settle_42 : decode cX10_settle 42 = .ok (.bipush 6, 2) := by decide +kernel
theorem dX10_settle_44 : decode cX10_settle 44 = .ok (.if_icmp .ge 16, 3) := by decide +kernel
theorem dX10_settle_47 : decode cX10_settle 47 = .ok (.aload_n 0, 1) := by decide +kernel
theorem dX10_settle_48 : decode cX10_settle 48 = .ok (.getfield 46, 3) := by decide +kernel
theorem dX10_settle_51 : decode cX10_settle 51 = .ok (.iload_n 1, 1) := by decide +kernel
theorem dX10_settle_52 : decode cX10_settle 52 = .ok (.iconst 0, 1) := by decide +kernel
theorem dX10_settle_53 : decode cX10_settle 53 = .ok (.iastore, 1) := by decide +kernel
theorem dX10_settle_54 : decode cX10_settle 54 = .ok (.iinc 1 1, 3) := by decide +kernel
theorem dX10_settle_57 : decode cX10_settle 57 = .ok (.goto (-16), 3) := by decide +kernel
theorem dX10_settle_60 : decode cX10_settle 60 = .ok (.iconst 0, 1) := by decide +kernel
theorem dX10_settle_61 : decode cX10_settle 61 = .ok (.istore_n 1, 1) := by decide +kernel
theorem dX10_settle_62 : decode cX10_settle 62 = .ok (.iload_n 1, 1) := by decide +kernel
theorem dX10_settle_63 : decode cX10_settle 63 = .ok (.sipush 200, 3) := by decide +kernel
theorem dX10_settle_66 : decode cX10_settle 66 = .ok (.if_icmp .ge 158, 3) := by decide +kernel
theorem dX10_settle_69 : decode cX10_settle 69 = .ok (.iconst 1, 1) := by decide +kernel
theorem dX10_settle_70 : decode cX10_settle 70 = .ok (.istore_n 2, 1) := by decide +kernel
theorem dX10_settle_71 : decode cX10_settle 71 = .ok (.iconst 0, 1) := by decide +kernel
theorem dX10_settle_72 : decode cX10_settle 72 = .ok (.istore_n 3, 1) := by decide +kernel
theorem dX10_settle_73 : decode cX10_settle 73 = .ok (.iload_n 3, 1) := by decide +kernel
theorem dX10_settle_74 : decode cX10_settle 74 = .ok (.aload_n 0, 1) := by decide +kernel
theorem dX10_settle_75 : decode cX10_settle 75 = .ok (.getfield 61, 3) := by decide +kernel
theorem dX10_settle_78 : decode cX10_settle 78 = .ok (.if_icmp .ge 135, 3) := by decide +kernel
theorem dX10_settle_81 : decode cX10_settle 81 = .ok (.iconst 0, 1) := by decide +kernel
theorem dX10_settle_82 : decode cX10_settle 82 = .ok (.istore 4, 2) := by decide +kernel
theorem dX10_settle_84 : decode cX10_settle 84 = .ok (.iconst 0, 1) := by decide +kernel
theorem dX10_settle_85 : decode cX10_settle 85 = .ok (.istore 5, 2) := by decide +kernel
theorem dX10_settle_87 : decode cX10_settle 87 = .ok (.iload 5, 2) := by decide +kernel
theorem dX10_settle_89 : decode cX10_settle 89 = .ok (.aload_n 0, 1) := by decide +kernel
theorem dX10_settle_90 : decode cX10_settle 90 = .ok (.getfield 65, 3) := by decide +kernel
theorem dX10_settle_93 : decode cX10_settle 93 = .ok (.if_icmp .ge 85, 3) := by decide +kernel
theorem dX10_settle_96 : decode cX10_settle 96 = .ok (.aload_n 0, 1) := by decide +kernel
theorem dX10_settle_97 : decode cX10_settle 97 = .ok (.getfield 22, 3) := by decide +kernel
theorem dX10_settle_100 : decode cX10_settle 100 = .ok (.iload 5, 2) := by decide +kernel
theorem dX10_settle_102 : decode cX10_settle 102 = .ok (.iaload, 1) := by decide +kernel
theorem dX10_settle_103 : decode cX10_settle 103 = .ok (.ifCond .eq 69, 3) := by decide +kernel
theorem dX10_settle_106 : decode cX10_settle 106 = .ok (.aload_n 0, 1) := by decide +kernel
theorem dX10_settle_107 : decode cX10_settle 107 = .ok (.getfield 13, 3) := by decide +kernel
theorem dX10_settle_110 : decode cX10_settle 110 = .ok (.iload 5, 2) := by decide +kernel
theorem dX10_settle_112 : decode cX10_settle 112 = .ok (.iaload, 1) := by decide +kernel
theorem dX10_settle_113 : decode cX10_settle 113 = .ok (.iload_n 3, 1) := by decide +kernel
theorem dX10_settle_114 : decode cX10_settle 114 = .ok (.if_icmp .eq 17, 3) := by decide +kernel
theorem dX10_settle_117 : decode cX10_settle 117 = .ok (.aload_n 0, 1) := by decide +kernel
theorem dX10_settle_118 : decode cX10_settle 118 = .ok (.getfield 16, 3) := by decide +kernel
theorem dX10_settle_121 : decode cX10_settle 121 = .ok (.iload 5, 2) := by decide +kernel
theorem dX10_settle_123 : decode cX10_settle 123 = .ok (.iaload, 1) := by decide +kernel
theorem dX10_settle_124 : decode cX10_settle 124 = .ok (.iload_n 3, 1) := by decide +kernel
theorem dX10_settle_125 : decode cX10_settle 125 = .ok (.if_icmp .eq 6, 3) := by decide +kernel
theorem dX10_settle_128 : decode cX10_settle 128 = .ok (.goto 44, 3) := by decide +kernel
theorem dX10_settle_131 : decode cX10_settle 131 = .ok (.iload 4, 2) := by decide +kernel
theorem dX10_settle_133 : decode cX10_settle 133 = .ok (.aload_n 0, 1) := by decide +kernel
theorem dX10_settle_134 : decode cX10_settle 134 = .ok (.iload 5, 2) := by decide +kernel
theorem dX10_settle_136 : decode cX10_settle 136 = .ok (.invokevirtual 129, 3) := by decide +kernel
theorem dX10_settle_139 : decode cX10_settle 139 = .ok (.ifCond .eq 24, 3) := by decide +kernel
theorem dX10_settle_142 : decode cX10_settle 142 = .ok (.aload_n 0, 1) := by decide +kernel
theorem dX10_settle_143 : decode cX10_settle 143 = .ok (.getfield 13, 3) := by decide +kernel
theorem dX10_settle_146 : decode cX10_settle 146 = .ok (.iload 5, 2) := by decide +kernel
theorem dX10_settle_148 : decode cX10_settle 148 = .ok (.iaload, 1) := by decide +kernel
theorem dX10_settle_149 : decode cX10_settle 149 = .ok (.iload_n 3, 1) := by decide +kernel
theorem dX10_settle_150 : decode cX10_settle 150 = .ok (.if_icmp .ne 13, 3) := by decide +kernel
theorem dX10_settle_153 : decode cX10_settle 153 = .ok (.aload_n 0, 1) := by decide +kernel
theorem dX10_settle_154 : decode cX10_settle 154 = .ok (.iload 5, 2) := by decide +kernel
theorem dX10_settle_156 : decode cX10_settle 156 = .ok (.invokevirtual 141, 3) := by decide +kernel
theorem dX10_settle_159 : decode cX10_settle 159 = .ok (.ineg, 1) := by decide +kernel
theorem dX10_settle_160 : decode cX10_settle 160 = .ok (.goto 9, 3) := by decide +kernel
theorem dX10_settle_163 : decode cX10_settle 163 = .ok (.aload_n 0, 1) := by decide +kernel
theorem dX10_settle_164 : decode cX10_settle 164 = .ok (.iload 5, 2) := by decide +kernel
theorem dX10_settle_166 : decode cX10_settle 166 = .ok (.invokevirtual 141, 3) := by decide +kernel
theorem dX10_settle_169 : decode cX10_settle 169 = .ok (.iadd, 1) := by decide +kernel
theorem dX10_settle_170 : decode cX10_settle 170 = .ok (.istore 4, 2) := by decide +kernel
theorem dX10_settle_172 : decode cX10_settle 172 = .ok (.iinc 5 1, 3) := by decide +kernel
theorem dX10_settle_175 : decode cX10_settle 175 = .ok (.goto (-88), 3) := by decide +kernel
theorem dX10_settle_178 : decode cX10_settle 178 = .ok (.iload 4, 2) := by decide +kernel
theorem dX10_settle_180 : decode cX10_settle 180 = .ok (.ifCond .ne 6, 3) := by decide +kernel
theorem dX10_settle_183 : decode cX10_settle 183 = .ok (.goto 24, 3) := by decide +kernel
theorem dX10_settle_186 : decode cX10_settle 186 = .ok (.aload_n 0, 1) := by decide +kernel
theorem dX10_settle_187 : decode cX10_settle 187 = .ok (.getfield 46, 3) := by decide +kernel
theorem dX10_settle_190 : decode cX10_settle 190 = .ok (.iload_n 3, 1) := by decide +kernel
theorem dX10_settle_191 : decode cX10_settle 191 = .ok (.dup2, 1) := by decide +kernel
theorem dX10_settle_192 : decode cX10_settle 192 = .ok (.iaload, 1) := by decide +kernel
theorem dX10_settle_193 : decode cX10_settle 193 = .ok (.iload 4, 2) := by decide +kernel
theorem dX10_settle_195 : decode cX10_settle 195 = .ok (.ifCond .le 7, 3) := by decide +kernel
theorem dX10_settle_198 : decode cX10_settle 198 = .ok (.iconst 1, 1) := by decide +kernel
theorem dX10_settle_199 : decode cX10_settle 199 = .ok (.goto 4, 3) := by decide +kernel
theorem dX10_settle_202 : decode cX10_settle 202 = .ok (.iconst (-1), 1) := by decide +kernel
theorem dX10_settle_203 : decode cX10_settle 203 = .ok (.iadd, 1) := by decide +kernel
theorem dX10_settle_204 : decode cX10_settle 204 = .ok (.iastore, 1) := by decide +kernel
theorem dX10_settle_205 : decode cX10_settle 205 = .ok (.iconst 0, 1) := by decide +kernel
theorem dX10_settle_206 : decode cX10_settle 206 = .ok (.istore_n 2, 1) := by decide +kernel
theorem dX10_settle_207 : decode cX10_settle 207 = .ok (.iinc 3 1, 3) := by decide +kernel
theorem dX10_settle_210 : decode cX10_settle 210 = .ok (.goto (-137), 3) := by decide +kernel
theorem dX10_settle_213 : decode cX10_settle 213 = .ok (.iload_n 2, 1) := by decide +kernel
theorem dX10_settle_214 : decode cX10_settle 214 = .ok (.ifCond .eq 4, 3) := by decide +kernel
theorem dX10_settle_217 : decode cX10_settle 217 = .ok (.return_, 1) := by decide +kernel
theorem dX10_settle_218 : decode cX10_settle 218 = .ok (.iinc 1 1, 3) := by decide +kernel
theorem dX10_settle_221 : decode cX10_settle 221 = .ok (.goto (-159), 3) := by decide +kernel
theorem dX10_settle_224 : decode cX10_settle 224 = .ok (.return_, 1) := by decide +kernel
theorem dX10_flowsIn_0 : decode cX10_flowsIn 0 = .ok (.aload_n 0, 1) := by decide +kernel
theorem dX10_flowsIn_1 : decode cX10_flowsIn 1 = .ok (.invokevirtual 144, 3) := by decide +kernel
theorem dX10_flowsIn_4 : decode cX10_flowsIn 4 = .ok (.iconst 0, 1) := by decide +kernel
theorem dX10_flowsIn_5 : decode cX10_flowsIn 5 = .ok (.istore_n 1, 1) := by decide +kernel
theorem dX10_flowsIn_6 : decode cX10_flowsIn 6 = .ok (.iconst 0, 1) := by decide +kernel
theorem dX10_flowsIn_7 : decode cX10_flowsIn 7 = .ok (.istore_n 2, 1) := by decide +kernel
theorem dX10_flowsIn_8 : decode cX10_flowsIn 8 = .ok (.iload_n 2, 1) := by decide +kernel
theorem dX10_flowsIn_9 : decode cX10_flowsIn 9 = .ok (.aload_n 0, 1) := by decide +kernel
theorem dX10_flowsIn_10 : decode cX10_flowsIn 10 = .ok (.getfield 65, 3) := by decide +kernel
theorem dX10_flowsIn_13 : decode cX10_flowsIn 13 = .ok (.if_icmp .ge 29, 3) := by decide +kernel
theorem dX10_flowsIn_16 : decode cX10_flowsIn 16 = .ok (.aload_n 0, 1) := by decide +kernel
theorem dX10_flowsIn_17 : decode cX10_flowsIn 17 = .ok (.iload_n 2, 1) := by decide +kernel
theorem dX10_flowsIn_18 : decode cX10_flowsIn 18 = .ok (.invokevirtual 129, 3) := by decide +kernel
theorem dX10_flowsIn_21 : decode cX10_flowsIn 21 = .ok (.ifCond .ne 15, 3) := by decide +kernel
theorem dX10_flowsIn_24 : decode cX10_flowsIn 24 = .ok (.iload_n 1, 1) := by decide +kernel
theorem dX10_flowsIn_25 : decode cX10_flowsIn 25 = .ok (.iconst 0, 1) := by decide +kernel
theorem dX10_flowsIn_26 : decode cX10_flowsIn 26 = .ok (.aload_n 0, 1) := by decide +kernel
theorem dX10_flowsIn_27 : decode cX10_flowsIn 27 = .ok (.iload_n 2, 1) := by decide +kernel
theorem dX10_flowsIn_28 : decode cX10_flowsIn 28 = .ok (.invokevirtual 141, 3) := by decide +kernel
theorem dX10_flowsIn_31 : decode cX10_flowsIn 31 = .ok (.invokestatic 100, 3) := by decide +kernel
theorem dX10_flowsIn_34 : decode cX10_flowsIn 34 = .ok (.iadd, 1) := by decide +kernel
theorem dX10_flowsIn_35 : decode cX10_flowsIn 35 = .ok (.istore_n 1, 1) := by decide +kernel
theorem dX10_flowsIn_36 : decode cX10_flowsIn 36 = .ok (.iinc 2 1, 3) := by decide +kernel
theorem dX10_flowsIn_39 : decode cX10_flowsIn 39 = .ok (.goto (-31), 3) := by decide +kernel
theorem dX10_flowsIn_42 : decode cX10_flowsIn 42 = .ok (.iload_n 1, 1) := by decide +kernel
theorem dX10_flowsIn_43 : decode cX10_flowsIn 43 = .ok (.ireturn, 1) := by decide +kernel
theorem dX10_outside_0 : decode cX10_outside 0 = .ok (.aload_n 0, 1) := by decide +kernel
theorem dX10_outside_1 : decode cX10_outside 1 = .ok (.iload_n 1, 1) := by decide +kernel
theorem dX10_outside_2 : decode cX10_outside 2 = .ok (.invokevirtual 122, 3) := by decide +kernel
theorem dX10_outside_5 : decode cX10_outside 5 = .ok (.ifCond .ne 12, 3) := by decide +kernel
theorem dX10_outside_8 : decode cX10_outside 8 = .ok (.ldc 128, 2) := by decide +kernel
theorem dX10_outside_10 : decode cX10_outside 10 = .ok (.aload_n 0, 1) := by decide +kernel
theorem dX10_outside_11 : decode cX10_outside 11 = .ok (.iconst (-1), 1) := by decide +kernel
theorem dX10_outside_12 : decode cX10_outside 12 = .ok (.invokevirtual 68, 3) := by decide +kernel
theorem dX10_outside_15 : decode cX10_outside 15 = .ok (.isub, 1) := by decide +kernel
theorem dX10_outside_16 : decode cX10_outside 16 = .ok (.ireturn, 1) := by decide +kernel
theorem dX10_outside_17 : decode cX10_outside 17 = .ok (.aload_n 0, 1) := by decide +kernel
theorem dX10_outside_18 : decode cX10_outside 18 = .ok (.iload_n 1, 1) := by decide +kernel
theorem dX10_outside_19 : decode cX10_outside 19 = .ok (.invokevirtual 129, 3) := by decide +kernel
theorem dX10_outside_22 : decode cX10_outside 22 = .ok (.ifCond .eq 15, 3) := by decide +kernel
theorem dX10_outside_25 : decode cX10_outside 25 = .ok (.ldc 128, 2) := by decide +kernel
theorem dX10_outside_27 : decode cX10_outside 27 = .ok (.aload_n 0, 1) := by decide +kernel
theorem dX10_outside_28 : decode cX10_outside 28 = .ok (.bipush (-3), 2) := by decide +kernel
theorem dX10_outside_30 : decode cX10_outside 30 = .ok (.invokevirtual 68, 3) := by decide +kernel
theorem dX10_outside_33 : decode cX10_outside 33 = .ok (.isub, 1) := by decide +kernel
theorem dX10_outside_34 : decode cX10_outside 34 = .ok (.goto 8, 3) := by decide +kernel
theorem dX10_outside_37 : decode cX10_outside 37 = .ok (.aload_n 0, 1) := by decide +kernel
theorem dX10_outside_38 : decode cX10_outside 38 = .ok (.iload_n 1, 1) := by decide +kernel
theorem dX10_outside_39 : decode cX10_outside 39 = .ok (.invokevirtual 138, 3) := by decide +kernel
theorem dX10_outside_42 : decode cX10_outside 42 = .ok (.ireturn, 1) := by decide +kernel
theorem dX10_push_0 : decode cX10_push 0 = .ok (.iload_n 1, 1) := by decide +kernel
theorem dX10_push_1 : decode cX10_push 1 = .ok (.ifCond .lt 11, 3) := by decide +kernel
theorem dX10_push_4 : decode cX10_push 4 = .ok (.iload_n 1, 1) := by decide +kernel
theorem dX10_push_5 : decode cX10_push 5 = .ok (.aload_n 0, 1) := by decide +kernel
theorem dX10_push_6 : decode cX10_push 6 = .ok (.getfield 61, 3) := by decide +kernel
theorem dX10_push_9 : decode cX10_push 9 = .ok (.if_icmp .lt 12, 3) := by decide +kernel
theorem dX10_push_12 : decode cX10_push 12 = .ok (.ldc 128, 2) := by decide +kernel
theorem dX10_push_14 : decode cX10_push 14 = .ok (.aload_n 0, 1) := by decide +kernel
theorem dX10_push_15 : decode cX10_push 15 = .ok (.iconst (-1), 1) := by decide +kernel
theorem dX10_push_16 : decode cX10_push 16 = .ok (.invokevirtual 68, 3) := by decide +kernel
theorem dX10_push_19 : decode cX10_push 19 = .ok (.isub, 1) := by decide +kernel
theorem dX10_push_20 : decode cX10_push 20 = .ok (.ireturn, 1) := by decide +kernel
theorem dX10_push_21 : decode cX10_push 21 = .ok (.aload_n 0, 1) := by decide +kernel
theorem dX10_push_22 : decode cX10_push 22 = .ok (.invokevirtual 144, 3) := by decide +kernel
theorem dX10_push_25 : decode cX10_push 25 = .ok (.aload_n 0, 1) := by decide +kernel
theorem dX10_push_26 : decode cX10_push 26 = .ok (.getfield 46, 3) := by decide +kernel
theorem dX10_push_29 : decode cX10_push 29 = .ok (.iload_n 1, 1) := by decide +kernel
theorem dX10_push_30 : decode cX10_push 30 = .ok (.iaload, 1) := by decide +kernel
theorem dX10_push_31 : decode cX10_push 31 = .ok (.ireturn, 1) := by decide +kernel
theorem dX10_flow_0 : decode cX10_flow 0 = .ok (.aload_n 0, 1) := by decide +kernel
theorem dX10_flow_1 : decode cX10_flow 1 = .ok (.iload_n 1, 1) := by decide +kernel
theorem dX10_flow_2 : decode cX10_flow 2 = .ok (.invokevirtual 122, 3) := by decide +kernel
theorem dX10_flow_5 : decode cX10_flow 5 = .ok (.ifCond .ne 12, 3) := by decide +kernel
theorem dX10_flow_8 : decode cX10_flow 8 = .ok (.ldc 128, 2) := by decide +kernel
theorem dX10_flow_10 : decode cX10_flow 10 = .ok (.aload_n 0, 1) := by decide +kernel
theorem dX10_flow_11 : decode cX10_flow 11 = .ok (.iconst (-1), 1) := by decide +kernel
theorem dX10_flow_12 : decode cX10_flow 12 = .ok (.invokevirtual 68, 3) := by decide +kernel
theorem dX10_flow_15 : decode cX10_flow 15 = .ok (.isub, 1) := by decide +kernel
theorem dX10_flow_16 : decode cX10_flow 16 = .ok (.ireturn, 1) := by decide +kernel
theorem dX10_flow_17 : decode cX10_flow 17 = .ok (.aload_n 0, 1) := by decide +kernel
theorem dX10_flow_18 : decode cX10_flow 18 = .ok (.invokevirtual 144, 3) := by decide +kernel
theorem dX10_flow_21 : decode cX10_flow 21 = .ok (.aload_n 0, 1) := by decide +kernel
theorem dX10_flow_22 : decode cX10_flow 22 = .ok (.iload_n 1, 1) := by decide +kernel
theorem dX10_flow_23 : decode cX10_flow 23 = .ok (.invokevirtual 141, 3) := by decide +kernel
theorem dX10_flow_26 : decode cX10_flow 26 = .ok (.ireturn, 1) := by decide +kernel
theorem dX10_leans_0 : decode cX10_leans 0 = .ok (.aload_n 0, 1) := by decide +kernel
theorem dX10_leans_1 : decode cX10_leans 1 = .ok (.iload_n 1, 1) := by decide +kernel
theorem dX10_leans_2 : decode cX10_leans 2 = .ok (.invokevirtual 141, 3) := by decide +kernel
theorem dX10_leans_5 : decode cX10_leans 5 = .ok (.istore_n 2, 1) := by decide +kernel
theorem dX10_leans_6 : decode cX10_leans 6 = .ok (.iload_n 2, 1) := by decide +kernel
theorem dX10_leans_7 : decode cX10_leans 7 = .ok (.ifCond .le 7, 3) := by decide +kernel
theorem dX10_leans_10 : decode cX10_leans 10 = .ok (.iconst 1, 1) := by decide +kernel
theorem dX10_leans_11 : decode cX10_leans 11 = .ok (.goto 12, 3) := by decide +kernel
theorem dX10_leans_14 : decode cX10_leans 14 = .ok (.iload_n 2, 1) := by decide +kernel
theorem dX10_leans_15 : decode cX10_leans 15 = .ok (.ifCond .ge 7, 3) := by decide +kernel
theorem dX10_leans_18 : decode cX10_leans 18 = .ok (.iconst 2, 1) := by decide +kernel
theorem dX10_leans_19 : decode cX10_leans 19 = .ok (.goto 4, 3) := by decide +kernel
theorem dX10_leans_22 : decode cX10_leans 22 = .ok (.iconst 0, 1) := by decide +kernel
theorem dX10_leans_23 : decode cX10_leans 23 = .ok (.ireturn, 1) := by decide +kernel
theorem dX10_lean_0 : decode cX10_lean 0 = .ok (.aload_n 0, 1) := by decide +kernel
theorem dX10_lean_1 : decode cX10_lean 1 = .ok (.iload_n 1, 1) := by decide +kernel
theorem dX10_lean_2 : decode cX10_lean 2 = .ok (.invokevirtual 122, 3) := by decide +kernel
theorem dX10_lean_5 : decode cX10_lean 5 = .ok (.ifCond .ne 9, 3) := by decide +kernel
theorem dX10_lean_8 : decode cX10_lean 8 = .ok (.aload_n 0, 1) := by decide +kernel
theorem dX10_lean_9 : decode cX10_lean 9 = .ok (.iconst (-1), 1) := by decide +kernel
theorem dX10_lean_10 : decode cX10_lean 10 = .ok (.invokevirtual 68, 3) := by decide +kernel
theorem dX10_lean_13 : decode cX10_lean 13 = .ok (.ireturn, 1) := by decide +kernel
theorem dX10_lean_14 : decode cX10_lean 14 = .ok (.aload_n 0, 1) := by decide +kernel
theorem dX10_lean_15 : decode cX10_lean 15 = .ok (.invokevirtual 144, 3) := by decide +kernel
theorem dX10_lean_18 : decode cX10_lean 18 = .ok (.aload_n 0, 1) := by decide +kernel
theorem dX10_lean_19 : decode cX10_lean 19 = .ok (.iload_n 1, 1) := by decide +kernel
theorem dX10_lean_20 : decode cX10_lean 20 = .ok (.invokevirtual 147, 3) := by decide +kernel
theorem dX10_lean_23 : decode cX10_lean 23 = .ok (.ireturn, 1) := by decide +kernel
theorem dX10_coal_0 : decode cX10_coal 0 = .ok (.aload_n 0, 1) := by decide +kernel
theorem dX10_coal_1 : decode cX10_coal 1 = .ok (.invokevirtual 150, 3) := by decide +kernel
theorem dX10_coal_4 : decode cX10_coal 4 = .ok (.aload_n 0, 1) := by decide +kernel
theorem dX10_coal_5 : decode cX10_coal 5 = .ok (.getfield 37, 3) := by decide +kernel
theorem dX10_coal_8 : decode cX10_coal 8 = .ok (.iconst 0, 1) := by decide +kernel
theorem dX10_coal_9 : decode cX10_coal 9 = .ok (.iaload, 1) := by decide +kernel
theorem dX10_coal_10 : decode cX10_coal 10 = .ok (.imul, 1) := by decide +kernel
theorem dX10_coal_11 : decode cX10_coal 11 = .ok (.ireturn, 1) := by decide +kernel
theorem dX10_smoke_0 : decode cX10_smoke 0 = .ok (.iconst 0, 1) := by decide +kernel
theorem dX10_smoke_1 : decode cX10_smoke 1 = .ok (.istore_n 1, 1) := by decide +kernel
theorem dX10_smoke_2 : decode cX10_smoke 2 = .ok (.iload_n 1, 1) := by decide +kernel
theorem dX10_smoke_3 : decode cX10_smoke 3 = .ok (.aload_n 0, 1) := by decide +kernel
theorem dX10_smoke_4 : decode cX10_smoke 4 = .ok (.getfield 65, 3) := by decide +kernel
theorem dX10_smoke_7 : decode cX10_smoke 7 = .ok (.if_icmp .ge 39, 3) := by decide +kernel
theorem dX10_smoke_10 : decode cX10_smoke 10 = .ok (.aload_n 0, 1) := by decide +kernel
theorem dX10_smoke_11 : decode cX10_smoke 11 = .ok (.getfield 19, 3) := by decide +kernel
theorem dX10_smoke_14 : decode cX10_smoke 14 = .ok (.iload_n 1, 1) := by decide +kernel
theorem dX10_smoke_15 : decode cX10_smoke 15 = .ok (.iaload, 1) := by decide +kernel
theorem dX10_smoke_16 : decode cX10_smoke 16 = .ok (.bipush 6, 2) := by decide +kernel
theorem dX10_smoke_18 : decode cX10_smoke 18 = .ok (.if_icmp .ne 22, 3) := by decide +kernel
theorem dX10_smoke_21 : decode cX10_smoke 21 = .ok (.aload_n 0, 1) := by decide +kernel
theorem dX10_smoke_22 : decode cX10_smoke 22 = .ok (.getfield 22, 3) := by decide +kernel
theorem dX10_smoke_25 : decode cX10_smoke 25 = .ok (.iload_n 1, 1) := by decide +kernel
theorem dX10_smoke_26 : decode cX10_smoke 26 = .ok (.iaload, 1) := by decide +kernel
theorem dX10_smoke_27 : decode cX10_smoke 27 = .ok (.ifCond .le 13, 3) := by decide +kernel
theorem dX10_smoke_30 : decode cX10_smoke 30 = .ok (.aload_n 0, 1) := by decide +kernel
theorem dX10_smoke_31 : decode cX10_smoke 31 = .ok (.iload_n 1, 1) := by decide +kernel
theorem dX10_smoke_32 : decode cX10_smoke 32 = .ok (.invokevirtual 141, 3) := by decide +kernel
theorem dX10_smoke_35 : decode cX10_smoke 35 = .ok (.ifCond .lt 5, 3) := by decide +kernel
theorem dX10_smoke_38 : decode cX10_smoke 38 = .ok (.iconst 1, 1) := by decide +kernel
theorem dX10_smoke_39 : decode cX10_smoke 39 = .ok (.ireturn, 1) := by decide +kernel
theorem dX10_smoke_40 : decode cX10_smoke 40 = .ok (.iinc 1 1, 3) := by decide +kernel
theorem dX10_smoke_43 : decode cX10_smoke 43 = .ok (.goto (-41), 3) := by decide +kernel
theorem dX10_smoke_46 : decode cX10_smoke 46 = .ok (.iconst 0, 1) := by decide +kernel
theorem dX10_smoke_47 : decode cX10_smoke 47 = .ok (.ireturn, 1) := by decide +kernel
theorem dX10_smokes_0 : decode cX10_smokes 0 = .ok (.aload_n 0, 1) := by decide +kernel
theorem dX10_smokes_1 : decode cX10_smokes 1 = .ok (.invokevirtual 144, 3) := by decide +kernel
theorem dX10_smokes_4 : decode cX10_smokes 4 = .ok (.aload_n 0, 1) := by decide +kernel
theorem dX10_smokes_5 : decode cX10_smokes 5 = .ok (.invokevirtual 153, 3) := by decide +kernel
theorem dX10_smokes_8 : decode cX10_smokes 8 = .ok (.ifCond .eq 7, 3) := by decide +kernel
theorem dX10_smokes_11 : decode cX10_smokes 11 = .ok (.iconst 1, 1) := by decide +kernel
theorem dX10_smokes_12 : decode cX10_smokes 12 = .ok (.goto 4, 3) := by decide +kernel
theorem dX10_smokes_15 : decode cX10_smokes 15 = .ok (.iconst 0, 1) := by decide +kernel
theorem dX10_smokes_16 : decode cX10_smokes 16 = .ok (.ireturn, 1) := by decide +kernel
theorem dX10_stop_0 : decode cX10_stop 0 = .ok (.lconst 0, 1) := by decide +kernel
theorem dX10_stop_1 : decode cX10_stop 1 = .ok (.lstore_n 2, 1) := by decide +kernel
theorem dX10_stop_2 : decode cX10_stop 2 = .ok (.aload_n 0, 1) := by decide +kernel
theorem dX10_stop_3 : decode cX10_stop 3 = .ok (.getfield 65, 3) := by decide +kernel
theorem dX10_stop_6 : decode cX10_stop 6 = .ok (.iconst 1, 1) := by decide +kernel
theorem dX10_stop_7 : decode cX10_stop 7 = .ok (.isub, 1) := by decide +kernel
theorem dX10_stop_8 : decode cX10_stop 8 = .ok (.istore 4, 2) := by decide +kernel
theorem dX10_stop_10 : decode cX10_stop 10 = .ok (.iload 4, 2) := by decide +kernel
theorem dX10_stop_12 : decode cX10_stop 12 = .ok (.ifCond .lt 42, 3) := by decide +kernel
theorem dX10_stop_15 : decode cX10_stop 15 = .ok (.ldc2_w 157, 3) := by decide +kernel
theorem dX10_stop_18 : decode cX10_stop 18 = .ok (.lload_n 2, 1) := by decide +kernel
theorem dX10_stop_19 : decode cX10_stop 19 = .ok (.lmul, 1) := by decide +kernel
theorem dX10_stop_20 : decode cX10_stop 20 = .ok (.aload_n 0, 1) := by decide +kernel
theorem dX10_stop_21 : decode cX10_stop 21 = .ok (.getfield 22, 3) := by decide +kernel
theorem dX10_stop_24 : decode cX10_stop 24 = .ok (.iload 4, 2) := by decide +kernel
theorem dX10_stop_26 : decode cX10_stop 26 = .ok (.iaload, 1) := by decide +kernel
theorem dX10_stop_27 : decode cX10_stop 27 = .ok (.i2l, 1) := by decide +kernel
theorem dX10_stop_28 : decode cX10_stop 28 = .ok (.ladd, 1) := by decide +kernel
theorem dX10_stop_29 : decode cX10_stop 29 = .ok (.lstore_n 2, 1) := by decide +kernel
theorem dX10_stop_30 : decode cX10_stop 30 = .ok (.iload_n 1, 1) := by decide +kernel
theorem dX10_stop_31 : decode cX10_stop 31 = .ok (.iload 4, 2) := by decide +kernel
theorem dX10_stop_33 : decode cX10_stop 33 = .ok (.ishr, 1) := by decide +kernel
theorem dX10_stop_34 : decode cX10_stop 34 = .ok (.iconst 1, 1) := by decide +kernel
theorem dX10_stop_35 : decode cX10_stop 35 = .ok (.iand, 1) := by decide +kernel
theorem dX10_stop_36 : decode cX10_stop 36 = .ok (.iconst 1, 1) := by decide +kernel
theorem dX10_stop_37 : decode cX10_stop 37 = .ok (.if_icmp .ne 11, 3) := by decide +kernel
theorem dX10_stop_40 : decode cX10_stop 40 = .ok (.aload_n 0, 1) := by decide +kernel
theorem dX10_stop_41 : decode cX10_stop 41 = .ok (.getfield 22, 3) := by decide +kernel
theorem dX10_stop_44 : decode cX10_stop 44 = .ok (.iload 4, 2) := by decide +kernel
theorem dX10_stop_46 : decode cX10_stop 46 = .ok (.iconst 0, 1) := by decide +kernel
theorem dX10_stop_47 : decode cX10_stop 47 = .ok (.iastore, 1) := by decide +kernel
theorem dX10_stop_48 : decode cX10_stop 48 = .ok (.iinc 4 (-1), 3) := by decide +kernel
theorem dX10_stop_51 : decode cX10_stop 51 = .ok (.goto (-41), 3) := by decide +kernel
theorem dX10_stop_54 : decode cX10_stop 54 = .ok (.lload_n 2, 1) := by decide +kernel
theorem dX10_stop_55 : decode cX10_stop 55 = .ok (.lreturn, 1) := by decide +kernel
theorem dX10_open_0 : decode cX10_open 0 = .ok (.iconst 0, 1) := by decide +kernel
theorem dX10_open_1 : decode cX10_open 1 = .ok (.istore_n 3, 1) := by decide +kernel
theorem dX10_open_2 : decode cX10_open 2 = .ok (.iload_n 3, 1) := by decide +kernel
theorem dX10_open_3 : decode cX10_open 3 = .ok (.aload_n 0, 1) := by decide +kernel
theorem dX10_open_4 : decode cX10_open 4 = .ok (.getfield 65, 3) := by decide +kernel
theorem dX10_open_7 : decode cX10_open 7 = .ok (.if_icmp .ge 27, 3) := by decide +kernel
theorem dX10_open_10 : decode cX10_open 10 = .ok (.aload_n 0, 1) := by decide +kernel
theorem dX10_open_11 : decode cX10_open 11 = .ok (.getfield 22, 3) := by decide +kernel
theorem dX10_open_14 : decode cX10_open 14 = .ok (.iload_n 3, 1) := by decide +kernel
theorem dX10_open_15 : decode cX10_open 15 = .ok (.lload_n 1, 1) := by decide +kernel
theorem dX10_open_16 : decode cX10_open 16 = .ok (.ldc2_w 157, 3) := by decide +kernel
theorem dX10_open_19 : decode cX10_open 19 = .ok (.lrem, 1) := by decide +kernel
theorem dX10_open_20 : decode cX10_open 20 = .ok (.l2i, 1) := by decide +kernel
theorem dX10_open_21 : decode cX10_open 21 = .ok (.iastore, 1) := by decide +kernel
theorem dX10_open_22 : decode cX10_open 22 = .ok (.lload_n 1, 1) := by decide +kernel
theorem dX10_open_23 : decode cX10_open 23 = .ok (.ldc2_w 157, 3) := by decide +kernel
theorem dX10_open_26 : decode cX10_open 26 = .ok (.ldiv, 1) := by decide +kernel
theorem dX10_open_27 : decode cX10_open 27 = .ok (.lstore_n 1, 1) := by decide +kernel
theorem dX10_open_28 : decode cX10_open 28 = .ok (.iinc 3 1, 3) := by decide +kernel
theorem dX10_open_31 : decode cX10_open 31 = .ok (.goto (-29), 3) := by decide +kernel
theorem dX10_open_34 : decode cX10_open 34 = .ok (.return_, 1) := by decide +kernel
theorem dX10_stopped_0 : decode cX10_stopped 0 = .ok (.iload_n 1, 1) := by decide +kernel
theorem dX10_stopped_1 : decode cX10_stopped 1 = .ok (.ifCond .lt 13, 3) := by decide +kernel
theorem dX10_stopped_4 : decode cX10_stopped 4 = .ok (.iload_n 1, 1) := by decide +kernel
theorem dX10_stopped_5 : decode cX10_stopped 5 = .ok (.iconst 1, 1) := by decide +kernel
theorem dX10_stopped_6 : decode cX10_stopped 6 = .ok (.aload_n 0, 1) := by decide +kernel
theorem dX10_stopped_7 : decode cX10_stopped 7 = .ok (.getfield 65, 3) := by decide +kernel
theorem dX10_stopped_10 : decode cX10_stopped 10 = .ok (.ishl, 1) := by decide +kernel
theorem dX10_stopped_11 : decode cX10_stopped 11 = .ok (.if_icmp .lt 9, 3) := by decide +kernel
theorem dX10_stopped_14 : decode cX10_stopped 14 = .ok (.aload_n 0, 1) := by decide +kernel
theorem dX10_stopped_15 : decode cX10_stopped 15 = .ok (.iconst (-1), 1) := by decide +kernel
theorem dX10_stopped_16 : decode cX10_stopped 16 = .ok (.invokevirtual 68, 3) := by decide +kernel
theorem dX10_stopped_19 : decode cX10_stopped 19 = .ok (.ireturn, 1) := by decide +kernel
theorem dX10_stopped_20 : decode cX10_stopped 20 = .ok (.aload_n 0, 1) := by decide +kernel
theorem dX10_stopped_21 : decode cX10_stopped 21 = .ok (.iload_n 1, 1) := by decide +kernel
theorem dX10_stopped_22 : decode cX10_stopped 22 = .ok (.invokevirtual 159, 3) := by decide +kernel
theorem dX10_stopped_25 : decode cX10_stopped 25 = .ok (.lstore_n 2, 1) := by decide +kernel
theorem dX10_stopped_26 : decode cX10_stopped 26 = .ok (.aload_n 0, 1) := by decide +kernel
theorem dX10_stopped_27 : decode cX10_stopped 27 = .ok (.invokevirtual 163, 3) := by decide +kernel
theorem dX10_stopped_30 : decode cX10_stopped 30 = .ok (.istore 4, 2) := by decide +kernel
theorem dX10_stopped_32 : decode cX10_stopped 32 = .ok (.aload_n 0, 1) := by decide +kernel
theorem dX10_stopped_33 : decode cX10_stopped 33 = .ok (.lload_n 2, 1) := by decide +kernel
theorem dX10_stopped_34 : decode cX10_stopped 34 = .ok (.invokevirtual 166, 3) := by decide +kernel
theorem dX10_stopped_37 : decode cX10_stopped 37 = .ok (.iload 4, 2) := by decide +kernel
theorem dX10_stopped_39 : decode cX10_stopped 39 = .ok (.ireturn, 1) := by decide +kernel
theorem dX10_best_0 : decode cX10_best 0 = .ok (.iload_n 2, 1) := by decide +kernel
theorem dX10_best_1 : decode cX10_best 1 = .ok (.ifCond .lt 8, 3) := by decide +kernel
theorem dX10_best_4 : decode cX10_best 4 = .ok (.iload_n 2, 1) := by decide +kernel
theorem dX10_best_5 : decode cX10_best 5 = .ok (.iconst 1, 1) := by decide +kernel
theorem dX10_best_6 : decode cX10_best 6 = .ok (.if_icmp .le 10, 3) := by decide +kernel
theorem dX10_best_9 : decode cX10_best 9 = .ok (.aload_n 0, 1) := by decide +kernel
theorem dX10_best_10 : decode cX10_best 10 = .ok (.bipush (-2), 2) := by decide +kernel
theorem dX10_best_12 : decode cX10_best 12 = .ok (.invokevirtual 68, 3) := by decide +kernel
theorem dX10_best_15 : decode cX10_best 15 = .ok (.ireturn, 1) := by decide +kernel
theorem dX10_best_16 : decode cX10_best 16 = .ok (.iload_n 1, 1) := by decide +kernel
theorem dX10_best_17 : decode cX10_best 17 = .ok (.ifCond .ge 10, 3) := by decide +kernel
theorem dX10_best_20 : decode cX10_best 20 = .ok (.aload_n 0, 1) := by decide +kernel
theorem dX10_best_21 : decode cX10_best 21 = .ok (.bipush (-4), 2) := by decide +kernel
theorem dX10_best_23 : decode cX10_best 23 = .ok (.invokevirtual 68, 3) := by decide +kernel
theorem dX10_best_26 : decode cX10_best 26 = .ok (.ireturn, 1) := by decide +kernel
theorem dX10_best_27 : decode cX10_best 27 = .ok (.iload_n 1, 1) := by decide +kernel
theorem dX10_best_28 : decode cX10_best 28 = .ok (.bipush 99, 2) := by decide +kernel
theorem dX10_best_30 : decode cX10_best 30 = .ok (.if_icmp .le 10, 3) := by decide +kernel
theorem dX10_best_33 : decode cX10_best 33 = .ok (.aload_n 0, 1) := by decide +kernel
theorem dX10_best_34 : decode cX10_best 34 = .ok (.bipush (-6), 2) := by decide +kernel
theorem dX10_best_36 : decode cX10_best 36 = .ok (.invokevirtual 68, 3) := by decide +kernel
theorem dX10_best_39 : decode cX10_best 39 = .ok (.ireturn, 1) := by decide +kernel
theorem dX10_best_40 : decode cX10_best 40 = .ok (.bipush (-9), 2) := by decide +kernel
theorem dX10_best_42 : decode cX10_best 42 = .ok (.istore_n 3, 1) := by decide +kernel
theorem dX10_best_43 : decode cX10_best 43 = .ok (.bipush (-9), 2) := by decide +kernel
theorem dX10_best_45 : decode cX10_best 45 = .ok (.istore 4, 2) := by decide +kernel
theorem dX10_best_47 : decode cX10_best 47 = .ok (.iconst 0, 1) := by decide +kernel
theorem dX10_best_48 : decode cX10_best 48 = .ok (.istore 5, 2) := by decide +kernel
theorem dX10_best_50 : decode cX10_best 50 = .ok (.iload 5, 2) := by decide +kernel
theorem dX10_best_52 : decode cX10_best 52 = .ok (.iconst 1, 1) := by decide +kernel
theorem dX10_best_53 : decode cX10_best 53 = .ok (.aload_n 0, 1) := by decide +kernel
theorem dX10_best_54 : decode cX10_best 54 = .ok (.getfield 65, 3) := by decide +kernel
theorem dX10_best_57 : decode cX10_best 57 = .ok (.ishl, 1) := by decide +kernel
theorem dX10_best_58 : decode cX10_best 58 = .ok (.if_icmp .ge 148, 3) := by decide +kernel
theorem dX10_best_61 : decode cX10_best 61 = .ok (.iload 5, 2) := by decide +kernel
theorem dX10_best_63 : decode cX10_best 63 = .ok (.invokestatic 170, 3) := by decide +kernel
theorem dX10_best_66 : decode cX10_best 66 = .ok (.iconst 3, 1) := by decide +kernel
theorem dX10_best_67 : decode cX10_best 67 = .ok (.if_icmp .le 6, 3) := by decide +kernel
theorem dX10_best_70 : decode cX10_best 70 = .ok (.goto 130, 3) := by decide +kernel
theorem dX10_best_73 : decode cX10_best 73 = .ok (.iconst 0, 1) := by decide +kernel
theorem dX10_best_74 : decode cX10_best 74 = .ok (.istore 6, 2) := by decide +kernel
theorem dX10_best_76 : decode cX10_best 76 = .ok (.iconst 1, 1) := by decide +kernel
theorem dX10_best_77 : decode cX10_best 77 = .ok (.istore 7, 2) := by decide +kernel
theorem dX10_best_79 : decode cX10_best 79 = .ok (.iconst 0, 1) := by decide +kernel
theorem dX10_best_80 : decode cX10_best 80 = .ok (.istore 8, 2) := by decide +kernel
theorem dX10_best_82 : decode cX10_best 82 = .ok (.iload 8, 2) := by decide +kernel
theorem dX10_best_84 : decode cX10_best 84 = .ok (.aload_n 0, 1) := by decide +kernel
theorem dX10_best_85 : decode cX10_best 85 = .ok (.getfield 65, 3) := by decide +kernel
theorem dX10_best_88 : decode cX10_best 88 = .ok (.if_icmp .ge 46, 3) := by decide +kernel
theorem dX10_best_91 : decode cX10_best 91 = .ok (.iload 5, 2) := by decide +kernel
theorem dX10_best_93 : decode cX10_best 93 = .ok (.iload 8, 2) := by decide +kernel
theorem dX10_best_95 : decode cX10_best 95 = .ok (.ishr, 1) := by decide +kernel
theorem dX10_best_96 : decode cX10_best 96 = .ok (.iconst 1, 1) := by decide +kernel
theorem dX10_best_97 : decode cX10_best 97 = .ok (.iand, 1) := by decide +kernel
theorem dX10_best_98 : decode cX10_best 98 = .ok (.ifCond .ne 6, 3) := by decide +kernel
theorem dX10_best_101 : decode cX10_best 101 = .ok (.goto 27, 3) := by decide +kernel
theorem dX10_best_104 : decode cX10_best 104 = .ok (.iload 6, 2) := by decide +kernel
theorem dX10_best_106 : decode cX10_best 106 = .ok (.aload_n 0, 1) := by decide +kernel
theorem dX10_best_107 : decode cX10_best 107 = .ok (.getfield 31, 3) := by decide +kernel
theorem dX10_best_110 : decode cX10_best 110 = .ok (.iload 8, 2) := by decide +kernel
theorem dX10_best_112 : decode cX10_best 112 = .ok (.iaload, 1) := by decide +kernel
theorem dX10_best_113 : decode cX10_best 113 = .ok (.iadd, 1) := by decide +kernel
theorem dX10_best_114 : decode cX10_best 114 = .ok (.istore 6, 2) := by decide +kernel
theorem dX10_best_116 : decode cX10_best 116 = .ok (.aload_n 0, 1) := by decide +kernel
theorem dX10_best_117 : decode cX10_best 117 = .ok (.iload 8, 2) := by decide +kernel
theorem dX10_best_119 : decode cX10_best 119 = .ok (.invokevirtual 129, 3) := by decide +kernel
theorem dX10_best_122 : decode cX10_best 122 = .ok (.ifCond .eq 6, 3) := by decide +kernel
theorem dX10_best_125 : decode cX10_best 125 = .ok (.iconst 0, 1) := by decide +kernel
theorem dX10_best_126 : decode cX10_best 126 = .ok (.istore 7, 2) := by decide +kernel
theorem dX10_best_128 : decode cX10_best 128 = .ok (.iinc 8 1, 3) := by decide +kernel
theorem dX10_best_131 : decode cX10_best 131 = .ok (.goto (-49), 3) := by decide +kernel
theorem dX10_best_134 : decode cX10_best 134 = .ok (.iload 7, 2) := by decide +kernel
theorem dX10_best_136 : decode cX10_best 136 = .ok (.ifCond .eq 64, 3) := by decide +kernel
theorem dX10_best_139 : decode cX10_best 139 = .ok (.iload 6, 2) := by decide +kernel
theorem dX10_best_141 : decode cX10_best 141 = .ok (.iload_n 1, 1) := by decide +kernel
theorem dX10_best_142 : decode cX10_best 142 = .ok (.if_icmp .le 6, 3) := by decide +kernel
theorem dX10_best_145 : decode cX10_best 145 = .ok (.goto 55, 3) := by decide +kernel
theorem dX10_best_148 : decode cX10_best 148 = .ok (.aload_n 0, 1) := by decide +kernel
theorem dX10_best_149 : decode cX10_best 149 = .ok (.iload 5, 2) := by decide +kernel
theorem dX10_best_151 : decode cX10_best 151 = .ok (.invokevirtual 159, 3) := by decide +kernel
theorem dX10_best_154 : decode cX10_best 154 = .ok (.lstore 8, 2) := by decide +kernel
theorem dX10_best_156 : decode cX10_best 156 = .ok (.aload_n 0, 1) := by decide +kernel
theorem dX10_best_157 : decode cX10_best 157 = .ok (.invokevirtual 163, 3) := by decide +kernel
theorem dX10_best_160 : decode cX10_best 160 = .ok (.istore 10, 2) := by decide +kernel
theorem dX10_best_162 : decode cX10_best 162 = .ok (.aload_n 0, 1) := by decide +kernel
theorem dX10_best_163 : decode cX10_best 163 = .ok (.invokevirtual 153, 3) := by decide +kernel
theorem dX10_best_166 : decode cX10_best 166 = .ok (.istore 11, 2) := by decide +kernel
theorem dX10_best_168 : decode cX10_best 168 = .ok (.aload_n 0, 1) := by decide +kernel
theorem dX10_best_169 : decode cX10_best 169 = .ok (.lload 8, 2) := by decide +kernel
theorem dX10_best_171 : decode cX10_best 171 = .ok (.invokevirtual 166, 3) := by decide +kernel
theorem dX10_best_174 : decode cX10_best 174 = .ok (.iload 11, 2) := by decide +kernel
theorem dX10_best_176 : decode cX10_best 176 = .ok (.ifCond .ne 24, 3) := by decide +kernel
theorem dX10_best_179 : decode cX10_best 179 = .ok (.iload_n 3, 1) := by decide +kernel
theorem dX10_best_180 : decode cX10_best 180 = .ok (.ifCond .lt 13, 3) := by decide +kernel
theorem dX10_best_183 : decode cX10_best 183 = .ok (.iload 10, 2) := by decide +kernel
theorem dX10_best_185 : decode cX10_best 185 = .ok (.iload 4, 2) := by decide +kernel
theorem dX10_best_187 : decode cX10_best 187 = .ok (.if_icmp .lt 6, 3) := by decide +kernel
theorem dX10_best_190 : decode cX10_best 190 = .ok (.goto 10, 3) := by decide +kernel
theorem dX10_best_193 : decode cX10_best 193 = .ok (.iload 5, 2) := by decide +kernel
theorem dX10_best_195 : decode cX10_best 195 = .ok (.istore_n 3, 1) := by decide +kernel
theorem dX10_best_196 : decode cX10_best 196 = .ok (.iload 10, 2) := by decide +kernel
theorem dX10_best_198 : decode cX10_best 198 = .ok (.istore 4, 2) := by decide +kernel
theorem dX10_best_200 : decode cX10_best 200 = .ok (.iinc 5 1, 3) := by decide +kernel
theorem dX10_best_203 : decode cX10_best 203 = .ok (.goto (-153), 3) := by decide +kernel
theorem dX10_best_206 : decode cX10_best 206 = .ok (.iload_n 2, 1) := by decide +kernel
theorem dX10_best_207 : decode cX10_best 207 = .ok (.ifCond .ne 7, 3) := by decide +kernel
theorem dX10_best_210 : decode cX10_best 210 = .ok (.iload_n 3, 1) := by decide +kernel
theorem dX10_best_211 : decode cX10_best 211 = .ok (.goto 5, 3) := by decide +kernel
theorem dX10_best_214 : decode cX10_best 214 = .ok (.iload 4, 2) := by decide +kernel
theorem dX10_best_216 : decode cX10_best 216 = .ok (.ireturn, 1) := by decide +kernel
theorem dX10_pairs_0 : decode cX10_pairs 0 = .ok (.iload_n 1, 1) := by decide +kernel
theorem dX10_pairs_1 : decode cX10_pairs 1 = .ok (.ifCond .lt 8, 3) := by decide +kernel
theorem dX10_pairs_4 : decode cX10_pairs 4 = .ok (.iload_n 1, 1) := by decide +kernel
theorem dX10_pairs_5 : decode cX10_pairs 5 = .ok (.iconst 1, 1) := by decide +kernel
theorem dX10_pairs_6 : decode cX10_pairs 6 = .ok (.if_icmp .le 10, 3) := by decide +kernel
theorem dX10_pairs_9 : decode cX10_pairs 9 = .ok (.aload_n 0, 1) := by decide +kernel
theorem dX10_pairs_10 : decode cX10_pairs 10 = .ok (.bipush (-2), 2) := by decide +kernel
theorem dX10_pairs_12 : decode cX10_pairs 12 = .ok (.invokevirtual 68, 3) := by decide +kernel
theorem dX10_pairs_15 : decode cX10_pairs 15 = .ok (.ireturn, 1) := by decide +kernel
theorem dX10_pairs_16 : decode cX10_pairs 16 = .ok (.aload_n 0, 1) := by decide +kernel
theorem dX10_pairs_17 : decode cX10_pairs 17 = .ok (.invokevirtual 163, 3) := by decide +kernel
theorem dX10_pairs_20 : decode cX10_pairs 20 = .ok (.istore_n 2, 1) := by decide +kernel
theorem dX10_pairs_21 : decode cX10_pairs 21 = .ok (.iconst 0, 1) := by decide +kernel
theorem dX10_pairs_22 : decode cX10_pairs 22 = .ok (.istore_n 3, 1) := by decide +kernel
theorem dX10_pairs_23 : decode cX10_pairs 23 = .ok (.bipush (-9), 2) := by decide +kernel
theorem dX10_pairs_25 : decode cX10_pairs 25 = .ok (.istore 4, 2) := by decide +kernel
theorem dX10_pairs_27 : decode cX10_pairs 27 = .ok (.iconst 0, 1) := by decide +kernel
theorem dX10_pairs_28 : decode cX10_pairs 28 = .ok (.istore 5, 2) := by decide +kernel
theorem dX10_pairs_30 : decode cX10_pairs 30 = .ok (.iload 5, 2) := by decide +kernel
theorem dX10_pairs_32 : decode cX10_pairs 32 = .ok (.aload_n 0, 1) := by decide +kernel
theorem dX10_pairs_33 : decode cX10_pairs 33 = .ok (.getfield 65, 3) := by decide +kernel
theorem dX10_pairs_36 : decode cX10_pairs 36 = .ok (.if_icmp .ge 113, 3) := by decide +kernel
theorem dX10_pairs_39 : decode cX10_pairs 39 = .ok (.aload_n 0, 1) := by decide +kernel
theorem dX10_pairs_40 : decode cX10_pairs 40 = .ok (.iload 5, 2) := by decide +kernel
theorem dX10_pairs_42 : decode cX10_pairs 42 = .ok (.invokevirtual 129, 3) := by decide +kernel
theorem dX10_pairs_45 : decode cX10_pairs 45 = .ok (.ifCond .ne 98, 3) := by decide +kernel
theorem dX10_pairs_48 : decode cX10_pairs 48 = .ok (.aload_n 0, 1) := by decide +kernel
theorem dX10_pairs_49 : decode cX10_pairs 49 = .ok (.iconst 1, 1) := by decide +kernel
theorem dX10_pairs_50 : decode cX10_pairs 50 = .ok (.iload 5, 2) := by decide +kernel
theorem dX10_pairs_52 : decode cX10_pairs 52 = .ok (.ishl, 1) := by decide +kernel
theorem dX10_pairs_53 : decode cX10_pairs 53 = .ok (.invokevirtual 175, 3) := by decide +kernel
theorem dX10_pairs_56 : decode cX10_pairs 56 = .ok (.iload_n 2, 1) := by decide +kernel
theorem dX10_pairs_57 : decode cX10_pairs 57 = .ok (.if_icmp .ge 6, 3) := by decide +kernel
theorem dX10_pairs_60 : decode cX10_pairs 60 = .ok (.goto 83, 3) := by decide +kernel
theorem dX10_pairs_63 : decode cX10_pairs 63 = .ok (.iload 5, 2) := by decide +kernel
theorem dX10_pairs_65 : decode cX10_pairs 65 = .ok (.iconst 1, 1) := by decide +kernel
theorem dX10_pairs_66 : decode cX10_pairs 66 = .ok (.iadd, 1) := by decide +kernel
theorem dX10_pairs_67 : decode cX10_pairs 67 = .ok (.istore 6, 2) := by decide +kernel
theorem dX10_pairs_69 : decode cX10_pairs 69 = .ok (.iload 6, 2) := by decide +kernel
theorem dX10_pairs_71 : decode cX10_pairs 71 = .ok (.aload_n 0, 1) := by decide +kernel
theorem dX10_pairs_72 : decode cX10_pairs 72 = .ok (.getfield 65, 3) := by decide +kernel
theorem dX10_pairs_75 : decode cX10_pairs 75 = .ok (.if_icmp .ge 68, 3) := by decide +kernel
theorem dX10_pairs_78 : decode cX10_pairs 78 = .ok (.aload_n 0, 1) := by decide +kernel
theorem dX10_pairs_79 : decode cX10_pairs 79 = .ok (.iload 6, 2) := by decide +kernel
theorem dX10_pairs_81 : decode cX10_pairs 81 = .ok (.invokevirtual 129, 3) := by decide +kernel
theorem dX10_pairs_84 : decode cX10_pairs 84 = .ok (.ifCond .ne 53, 3) := by decide +kernel
theorem dX10_pairs_87 : decode cX10_pairs 87 = .ok (.aload_n 0, 1) := by decide +kernel
theorem dX10_pairs_88 : decode cX10_pairs 88 = .ok (.iconst 1, 1) := by decide +kernel
theorem dX10_pairs_89 : decode cX10_pairs 89 = .ok (.iload 6, 2) := by decide +kernel
theorem dX10_pairs_91 : decode cX10_pairs 91 = .ok (.ishl, 1) := by decide +kernel
theorem dX10_pairs_92 : decode cX10_pairs 92 = .ok (.invokevirtual 175, 3) := by decide +kernel
theorem dX10_pairs_95 : decode cX10_pairs 95 = .ok (.iload_n 2, 1) := by decide +kernel
theorem dX10_pairs_96 : decode cX10_pairs 96 = .ok (.if_icmp .lt 41, 3) := by decide +kernel
theorem dX10_pairs_99 : decode cX10_pairs 99 = .ok (.aload_n 0, 1) := by decide +kernel
theorem dX10_pairs_100 : decode cX10_pairs 100 = .ok (.iconst 1, 1) := by decide +kernel
theorem dX10_pairs_101 : decode cX10_pairs 101 = .ok (.iload 5, 2) := by decide +kernel
theorem dX10_pairs_103 : decode cX10_pairs 103 = .ok (.ishl, 1) := by decide +kernel
theorem dX10_pairs_104 : decode cX10_pairs 104 = .ok (.iconst 1, 1) := by decide +kernel
theorem dX10_pairs_105 : decode cX10_pairs 105 = .ok (.iload 6, 2) := by decide +kernel
theorem dX10_pairs_107 : decode cX10_pairs 107 = .ok (.ishl, 1) := by decide +kernel
theorem dX10_pairs_108 : decode cX10_pairs 108 = .ok (.ior, 1) := by decide +kernel
theorem dX10_pairs_109 : decode cX10_pairs 109 = .ok (.invokevirtual 175, 3) := by decide +kernel
theorem dX10_pairs_112 : decode cX10_pairs 112 = .ok (.iload_n 2, 1) := by decide +kernel
theorem dX10_pairs_113 : decode cX10_pairs 113 = .ok (.if_icmp .lt 6, 3) := by decide +kernel
theorem dX10_pairs_116 : decode cX10_pairs 116 = .ok (.goto 21, 3) := by decide +kernel
theorem dX10_pairs_119 : decode cX10_pairs 119 = .ok (.iinc 3 1, 3) := by decide +kernel
theorem dX10_pairs_122 : decode cX10_pairs 122 = .ok (.iload 4, 2) := by decide +kernel
theorem dX10_pairs_124 : decode cX10_pairs 124 = .ok (.ifCond .ge 13, 3) := by decide +kernel
theorem dX10_pairs_127 : decode cX10_pairs 127 = .ok (.bipush 10, 2) := by decide +kernel
theorem dX10_pairs_129 : decode cX10_pairs 129 = .ok (.iload 5, 2) := by decide +kernel
theorem dX10_pairs_131 : decode cX10_pairs 131 = .ok (.imul, 1) := by decide +kernel
theorem dX10_pairs_132 : decode cX10_pairs 132 = .ok (.iload 6, 2) := by decide +kernel
theorem dX10_pairs_134 : decode cX10_pairs 134 = .ok (.iadd, 1) := by decide +kernel
theorem dX10_pairs_135 : decode cX10_pairs 135 = .ok (.istore 4, 2) := by decide +kernel
theorem dX10_pairs_137 : decode cX10_pairs 137 = .ok (.iinc 6 1, 3) := by decide +kernel
theorem dX10_pairs_140 : decode cX10_pairs 140 = .ok (.goto (-71), 3) := by decide +kernel
theorem dX10_pairs_143 : decode cX10_pairs 143 = .ok (.iinc 5 1, 3) := by decide +kernel
theorem dX10_pairs_146 : decode cX10_pairs 146 = .ok (.goto (-116), 3) := by decide +kernel
theorem dX10_pairs_149 : decode cX10_pairs 149 = .ok (.iload_n 1, 1) := by decide +kernel
theorem dX10_pairs_150 : decode cX10_pairs 150 = .ok (.ifCond .ne 7, 3) := by decide +kernel
theorem dX10_pairs_153 : decode cX10_pairs 153 = .ok (.iload_n 3, 1) := by decide +kernel
theorem dX10_pairs_154 : decode cX10_pairs 154 = .ok (.goto 5, 3) := by decide +kernel
theorem dX10_pairs_157 : decode cX10_pairs 157 = .ok (.iload 4, 2) := by decide +kernel
theorem dX10_pairs_159 : decode cX10_pairs 159 = .ok (.ireturn, 1) := by decide +kernel
theorem dX10_shut_0 : decode cX10_shut 0 = .ok (.aload_n 0, 1) := by decide +kernel
theorem dX10_shut_1 : decode cX10_shut 1 = .ok (.iload_n 1, 1) := by decide +kernel
theorem dX10_shut_2 : decode cX10_shut 2 = .ok (.invokevirtual 122, 3) := by decide +kernel
theorem dX10_shut_5 : decode cX10_shut 5 = .ok (.ifCond .eq 11, 3) := by decide +kernel
theorem dX10_shut_8 : decode cX10_shut 8 = .ok (.aload_n 0, 1) := by decide +kernel
theorem dX10_shut_9 : decode cX10_shut 9 = .ok (.iload_n 2, 1) := by decide +kernel
theorem dX10_shut_10 : decode cX10_shut 10 = .ok (.invokevirtual 122, 3) := by decide +kernel
theorem dX10_shut_13 : decode cX10_shut 13 = .ok (.ifCond .ne 12, 3) := by decide +kernel
theorem dX10_shut_16 : decode cX10_shut 16 = .ok (.ldc 128, 2) := by decide +kernel
theorem dX10_shut_18 : decode cX10_shut 18 = .ok (.aload_n 0, 1) := by decide +kernel
theorem dX10_shut_19 : decode cX10_shut 19 = .ok (.iconst (-1), 1) := by decide +kernel
theorem dX10_shut_20 : decode cX10_shut 20 = .ok (.invokevirtual 68, 3) := by decide +kernel
theorem dX10_shut_23 : decode cX10_shut 23 = .ok (.isub, 1) := by decide +kernel
theorem dX10_shut_24 : decode cX10_shut 24 = .ok (.ireturn, 1) := by decide +kernel
theorem dX10_shut_25 : decode cX10_shut 25 = .ok (.aload_n 0, 1) := by decide +kernel
theorem dX10_shut_26 : decode cX10_shut 26 = .ok (.iload_n 1, 1) := by decide +kernel
theorem dX10_shut_27 : decode cX10_shut 27 = .ok (.invokevirtual 129, 3) := by decide +kernel
theorem dX10_shut_30 : decode cX10_shut 30 = .ok (.ifCond .ne 13, 3) := by decide +kernel
theorem dX10_shut_33 : decode cX10_shut 33 = .ok (.ldc 128, 2) := by decide +kernel
theorem dX10_shut_35 : decode cX10_shut 35 = .ok (.aload_n 0, 1) := by decide +kernel
theorem dX10_shut_36 : decode cX10_shut 36 = .ok (.bipush (-3), 2) := by decide +kernel
theorem dX10_shut_38 : decode cX10_shut 38 = .ok (.invokevirtual 68, 3) := by decide +kernel
theorem dX10_shut_41 : decode cX10_shut 41 = .ok (.isub, 1) := by decide +kernel
theorem dX10_shut_42 : decode cX10_shut 42 = .ok (.ireturn, 1) := by decide +kernel
theorem dX10_shut_43 : decode cX10_shut 43 = .ok (.aload_n 0, 1) := by decide +kernel
theorem dX10_shut_44 : decode cX10_shut 44 = .ok (.invokevirtual 144, 3) := by decide +kernel
theorem dX10_shut_47 : decode cX10_shut 47 = .ok (.aload_n 0, 1) := by decide +kernel
theorem dX10_shut_48 : decode cX10_shut 48 = .ok (.iload_n 2, 1) := by decide +kernel
theorem dX10_shut_49 : decode cX10_shut 49 = .ok (.invokevirtual 141, 3) := by decide +kernel
theorem dX10_shut_52 : decode cX10_shut 52 = .ok (.invokestatic 132, 3) := by decide +kernel
theorem dX10_shut_55 : decode cX10_shut 55 = .ok (.istore_n 3, 1) := by decide +kernel
theorem dX10_shut_56 : decode cX10_shut 56 = .ok (.aload_n 0, 1) := by decide +kernel
theorem dX10_shut_57 : decode cX10_shut 57 = .ok (.iconst 1, 1) := by decide +kernel
theorem dX10_shut_58 : decode cX10_shut 58 = .ok (.iload_n 1, 1) := by decide +kernel
theorem dX10_shut_59 : decode cX10_shut 59 = .ok (.ishl, 1) := by decide +kernel
theorem dX10_shut_60 : decode cX10_shut 60 = .ok (.invokevirtual 159, 3) := by decide +kernel
theorem dX10_shut_63 : decode cX10_shut 63 = .ok (.lstore 4, 2) := by decide +kernel
theorem dX10_shut_65 : decode cX10_shut 65 = .ok (.aload_n 0, 1) := by decide +kernel
theorem dX10_shut_66 : decode cX10_shut 66 = .ok (.invokevirtual 144, 3) := by decide +kernel
theorem dX10_shut_69 : decode cX10_shut 69 = .ok (.aload_n 0, 1) := by decide +kernel
theorem dX10_shut_70 : decode cX10_shut 70 = .ok (.iload_n 2, 1) := by decide +kernel
theorem dX10_shut_71 : decode cX10_shut 71 = .ok (.invokevirtual 141, 3) := by decide +kernel
theorem dX10_shut_74 : decode cX10_shut 74 = .ok (.invokestatic 132, 3) := by decide +kernel
theorem dX10_shut_77 : decode cX10_shut 77 = .ok (.istore 6, 2) := by decide +kernel
theorem dX10_shut_79 : decode cX10_shut 79 = .ok (.aload_n 0, 1) := by decide +kernel
theorem dX10_shut_80 : decode cX10_shut 80 = .ok (.lload 4, 2) := by decide +kernel
theorem dX10_shut_82 : decode cX10_shut 82 = .ok (.invokevirtual 166, 3) := by decide +kernel
theorem dX10_shut_85 : decode cX10_shut 85 = .ok (.iload 6, 2) := by decide +kernel
theorem dX10_shut_87 : decode cX10_shut 87 = .ok (.iload_n 3, 1) := by decide +kernel
theorem dX10_shut_88 : decode cX10_shut 88 = .ok (.isub, 1) := by decide +kernel
theorem dX10_shut_89 : decode cX10_shut 89 = .ok (.ireturn, 1) := by decide +kernel
theorem dX10_chair_0 : decode cX10_chair 0 = .ok (.aload_n 0, 1) := by decide +kernel
theorem dX10_chair_1 : decode cX10_chair 1 = .ok (.invokevirtual 144, 3) := by decide +kernel
theorem dX10_chair_4 : decode cX10_chair 4 = .ok (.iconst 0, 1) := by decide +kernel
theorem dX10_chair_5 : decode cX10_chair 5 = .ok (.istore_n 1, 1) := by decide +kernel
theorem dX10_chair_6 : decode cX10_chair 6 = .ok (.iconst (-1), 1) := by decide +kernel
theorem dX10_chair_7 : decode cX10_chair 7 = .ok (.istore_n 2, 1) := by decide +kernel
theorem dX10_chair_8 : decode cX10_chair 8 = .ok (.iconst 0, 1) := by decide +kernel
theorem dX10_chair_9 : decode cX10_chair 9 = .ok (.istore_n 3, 1) := by decide +kernel
theorem dX10_chair_10 : decode cX10_chair 10 = .ok (.iload_n 3, 1) := by decide +kernel
theorem dX10_chair_11 : decode cX10_chair 11 = .ok (.aload_n 0, 1) := by decide +kernel
theorem dX10_chair_12 : decode cX10_chair 12 = .ok (.getfield 61, 3) := by decide +kernel
theorem dX10_chair_15 : decode cX10_chair 15 = .ok (.if_icmp .ge 84, 3) := by decide +kernel
theorem dX10_chair_18 : decode cX10_chair 18 = .ok (.iconst 0, 1) := by decide +kernel
theorem dX10_chair_19 : decode cX10_chair 19 = .ok (.istore 4, 2) := by decide +kernel
theorem dX10_chair_21 : decode cX10_chair 21 = .ok (.iconst 0, 1) := by decide +kernel
theorem dX10_chair_22 : decode cX10_chair 22 = .ok (.istore 5, 2) := by decide +kernel
theorem dX10_chair_24 : decode cX10_chair 24 = .ok (.iload 5, 2) := by decide +kernel
theorem dX10_chair_26 : decode cX10_chair 26 = .ok (.aload_n 0, 1) := by decide +kernel
theorem dX10_chair_27 : decode cX10_chair 27 = .ok (.getfield 65, 3) := by decide +kernel
theorem dX10_chair_30 : decode cX10_chair 30 = .ok (.if_icmp .ge 45, 3) := by decide +kernel
theorem dX10_chair_33 : decode cX10_chair 33 = .ok (.aload_n 0, 1) := by decide +kernel
theorem dX10_chair_34 : decode cX10_chair 34 = .ok (.getfield 13, 3) := by decide +kernel
theorem dX10_chair_37 : decode cX10_chair 37 = .ok (.iload 5, 2) := by decide +kernel
theorem dX10_chair_39 : decode cX10_chair 39 = .ok (.iaload, 1) := by decide +kernel
theorem dX10_chair_40 : decode cX10_chair 40 = .ok (.iload_n 3, 1) := by decide +kernel
theorem dX10_chair_41 : decode cX10_chair 41 = .ok (.if_icmp .eq 14, 3) := by decide +kernel
theorem dX10_chair_44 : decode cX10_chair 44 = .ok (.aload_n 0, 1) := by decide +kernel
theorem dX10_chair_45 : decode cX10_chair 45 = .ok (.getfield 16, 3) := by decide +kernel
theorem dX10_chair_48 : decode cX10_chair 48 = .ok (.iload 5, 2) := by decide +kernel
theorem dX10_chair_50 : decode cX10_chair 50 = .ok (.iaload, 1) := by decide +kernel
theorem dX10_chair_51 : decode cX10_chair 51 = .ok (.iload_n 3, 1) := by decide +kernel
theorem dX10_chair_52 : decode cX10_chair 52 = .ok (.if_icmp .ne 17, 3) := by decide +kernel
theorem dX10_chair_55 : decode cX10_chair 55 = .ok (.iload 4, 2) := by decide +kernel
theorem dX10_chair_57 : decode cX10_chair 57 = .ok (.aload_n 0, 1) := by decide +kernel
theorem dX10_chair_58 : decode cX10_chair 58 = .ok (.iload 5, 2) := by decide +kernel
theorem dX10_chair_60 : decode cX10_chair 60 = .ok (.invokevirtual 141, 3) := by decide +kernel
theorem dX10_chair_63 : decode cX10_chair 63 = .ok (.invokestatic 132, 3) := by decide +kernel
theorem dX10_chair_66 : decode cX10_chair 66 = .ok (.iadd, 1) := by decide +kernel
theorem dX10_chair_67 : decode cX10_chair 67 = .ok (.istore 4, 2) := by decide +kernel
theorem dX10_chair_69 : decode cX10_chair 69 = .ok (.iinc 5 1, 3) := by decide +kernel
theorem dX10_chair_72 : decode cX10_chair 72 = .ok (.goto (-48), 3) := by decide +kernel
theorem dX10_chair_75 : decode cX10_chair 75 = .ok (.iload_n 2, 1) := by decide +kernel
theorem dX10_chair_76 : decode cX10_chair 76 = .ok (.ifCond .lt 12, 3) := by decide +kernel
theorem dX10_chair_79 : decode cX10_chair 79 = .ok (.iload 4, 2) := by decide +kernel
theorem dX10_chair_81 : decode cX10_chair 81 = .ok (.iload_n 2, 1) := by decide +kernel
theorem dX10_chair_82 : decode cX10_chair 82 = .ok (.if_icmp .lt 6, 3) := by decide +kernel
theorem dX10_chair_85 : decode cX10_chair 85 = .ok (.goto 8, 3) := by decide +kernel
theorem dX10_chair_88 : decode cX10_chair 88 = .ok (.iload 4, 2) := by decide +kernel
theorem dX10_chair_90 : decode cX10_chair 90 = .ok (.istore_n 2, 1) := by decide +kernel
theorem dX10_chair_91 : decode cX10_chair 91 = .ok (.iload_n 3, 1) := by decide +kernel
theorem dX10_chair_92 : decode cX10_chair 92 = .ok (.istore_n 1, 1) := by decide +kernel
theorem dX10_chair_93 : decode cX10_chair 93 = .ok (.iinc 3 1, 3) := by decide +kernel
theorem dX10_chair_96 : decode cX10_chair 96 = .ok (.goto (-86), 3) := by decide +kernel
theorem dX10_chair_99 : decode cX10_chair 99 = .ok (.iload_n 1, 1) := by decide +kernel
theorem dX10_chair_100 : decode cX10_chair 100 = .ok (.ireturn, 1) := by decide +kernel
theorem dX10_finger_0 : decode cX10_finger 0 = .ok (.bipush (-9), 2) := by decide +kernel
theorem dX10_finger_2 : decode cX10_finger 2 = .ok (.istore_n 1, 1) := by decide +kernel
theorem dX10_finger_3 : decode cX10_finger 3 = .ok (.iconst 0, 1) := by decide +kernel
theorem dX10_finger_4 : decode cX10_finger 4 = .ok (.istore_n 2, 1) := by decide +kernel
theorem dX10_finger_5 : decode cX10_finger 5 = .ok (.iconst 0, 1) := by decide +kernel
theorem dX10_finger_6 : decode cX10_finger 6 = .ok (.istore_n 3, 1) := by decide +kernel
theorem dX10_finger_7 : decode cX10_finger 7 = .ok (.iload_n 3, 1) := by decide +kernel
theorem dX10_finger_8 : decode cX10_finger 8 = .ok (.aload_n 0, 1) := by decide +kernel
theorem dX10_finger_9 : decode cX10_finger 9 = .ok (.getfield 65, 3) := by decide +kernel
theorem dX10_finger_12 : decode cX10_finger 12 = .ok (.if_icmp .ge 101, 3) := by decide +kernel
theorem dX10_finger_15 : decode cX10_finger 15 = .ok (.aload_n 0, 1) := by decide +kernel
theorem dX10_finger_16 : decode cX10_finger 16 = .ok (.iload_n 3, 1) := by decide +kernel
theorem dX10_finger_17 : decode cX10_finger 17 = .ok (.invokevirtual 129, 3) := by decide +kernel
theorem dX10_finger_20 : decode cX10_finger 20 = .ok (.ifCond .ne 87, 3) := by decide +kernel
theorem dX10_finger_23 : decode cX10_finger 23 = .ok (.aload_n 0, 1) := by decide +kernel
theorem dX10_finger_24 : decode cX10_finger 24 = .ok (.getfield 22, 3) := by decide +kernel
theorem dX10_finger_27 : decode cX10_finger 27 = .ok (.iload_n 3, 1) := by decide +kernel
theorem dX10_finger_28 : decode cX10_finger 28 = .ok (.iaload, 1) := by decide +kernel
theorem dX10_finger_29 : decode cX10_finger 29 = .ok (.bipush 9, 2) := by decide +kernel
theorem dX10_finger_31 : decode cX10_finger 31 = .ok (.if_icmp .ne 6, 3) := by decide +kernel
theorem dX10_finger_34 : decode cX10_finger 34 = .ok (.goto 73, 3) := by decide +kernel
theorem dX10_finger_37 : decode cX10_finger 37 = .ok (.aload_n 0, 1) := by decide +kernel
theorem dX10_finger_38 : decode cX10_finger 38 = .ok (.getfield 22, 3) := by decide +kernel
theorem dX10_finger_41 : decode cX10_finger 41 = .ok (.iload_n 3, 1) := by decide +kernel
theorem dX10_finger_42 : decode cX10_finger 42 = .ok (.iaload, 1) := by decide +kernel
theorem dX10_finger_43 : decode cX10_finger 43 = .ok (.istore 4, 2) := by decide +kernel
theorem dX10_finger_45 : decode cX10_finger 45 = .ok (.aload_n 0, 1) := by decide +kernel
theorem dX10_finger_46 : decode cX10_finger 46 = .ok (.getfield 22, 3) := by decide +kernel
theorem dX10_finger_49 : decode cX10_finger 49 = .ok (.iload_n 3, 1) := by decide +kernel
theorem dX10_finger_50 : decode cX10_finger 50 = .ok (.iload 4, 2) := by decide +kernel
theorem dX10_finger_52 : decode cX10_finger 52 = .ok (.iconst 1, 1) := by decide +kernel
theorem dX10_finger_53 : decode cX10_finger 53 = .ok (.iadd, 1) := by decide +kernel
theorem dX10_finger_54 : decode cX10_finger 54 = .ok (.iastore, 1) := by decide +kernel
theorem dX10_finger_55 : decode cX10_finger 55 = .ok (.aload_n 0, 1) := by decide +kernel
theorem dX10_finger_56 : decode cX10_finger 56 = .ok (.invokevirtual 163, 3) := by decide +kernel
theorem dX10_finger_59 : decode cX10_finger 59 = .ok (.istore 5, 2) := by decide +kernel
theorem dX10_finger_61 : decode cX10_finger 61 = .ok (.aload_n 0, 1) := by decide +kernel
theorem dX10_finger_62 : decode cX10_finger 62 = .ok (.iload_n 3, 1) := by decide +kernel
theorem dX10_finger_63 : decode cX10_finger 63 = .ok (.invokevirtual 141, 3) := by decide +kernel
theorem dX10_finger_66 : decode cX10_finger 66 = .ok (.ifCond .le 7, 3) := by decide +kernel
theorem dX10_finger_69 : decode cX10_finger 69 = .ok (.iconst 1, 1) := by decide +kernel
theorem dX10_finger_70 : decode cX10_finger 70 = .ok (.goto 4, 3) := by decide +kernel
theorem dX10_finger_73 : decode cX10_finger 73 = .ok (.iconst 0, 1) := by decide +kernel
theorem dX10_finger_74 : decode cX10_finger 74 = .ok (.istore 6, 2) := by decide +kernel
theorem dX10_finger_76 : decode cX10_finger 76 = .ok (.aload_n 0, 1) := by decide +kernel
theorem dX10_finger_77 : decode cX10_finger 77 = .ok (.getfield 22, 3) := by decide +kernel
theorem dX10_finger_80 : decode cX10_finger 80 = .ok (.iload_n 3, 1) := by decide +kernel
theorem dX10_finger_81 : decode cX10_finger 81 = .ok (.iload 4, 2) := by decide +kernel
theorem dX10_finger_83 : decode cX10_finger 83 = .ok (.iastore, 1) := by decide +kernel
theorem dX10_finger_84 : decode cX10_finger 84 = .ok (.iload 6, 2) := by decide +kernel
theorem dX10_finger_86 : decode cX10_finger 86 = .ok (.ifCond .eq 21, 3) := by decide +kernel
theorem dX10_finger_89 : decode cX10_finger 89 = .ok (.iload_n 1, 1) := by decide +kernel
theorem dX10_finger_90 : decode cX10_finger 90 = .ok (.ifCond .lt 12, 3) := by decide +kernel
theorem dX10_finger_93 : decode cX10_finger 93 = .ok (.iload 5, 2) := by decide +kernel
theorem dX10_finger_95 : decode cX10_finger 95 = .ok (.iload_n 2, 1) := by decide +kernel
theorem dX10_finger_96 : decode cX10_finger 96 = .ok (.if_icmp .lt 6, 3) := by decide +kernel
theorem dX10_finger_99 : decode cX10_finger 99 = .ok (.goto 8, 3) := by decide +kernel
theorem dX10_finger_102 : decode cX10_finger 102 = .ok (.iload_n 3, 1) := by decide +kernel
theorem dX10_finger_103 : decode cX10_finger 103 = .ok (.istore_n 1, 1) := by decide +kernel
theorem dX10_finger_104 : decode cX10_finger 104 = .ok (.iload 5, 2) := by decide +kernel
theorem dX10_finger_106 : decode cX10_finger 106 = .ok (.istore_n 2, 1) := by decide +kernel
theorem dX10_finger_107 : decode cX10_finger 107 = .ok (.iinc 3 1, 3) := by decide +kernel
theorem dX10_finger_110 : decode cX10_finger 110 = .ok (.goto (-103), 3) := by decide +kernel
theorem dX10_finger_113 : decode cX10_finger 113 = .ok (.iload_n 1, 1) := by decide +kernel
theorem dX10_finger_114 : decode cX10_finger 114 = .ok (.ireturn, 1) := by decide +kernel
theorem dX10_by_0 : decode cX10_by 0 = .ok (.aload_n 0, 1) := by decide +kernel
theorem dX10_by_1 : decode cX10_by 1 = .ok (.getfield 37, 3) := by decide +kernel
theorem dX10_by_4 : decode cX10_by 4 = .ok (.iconst 0, 1) := by decide +kernel
theorem dX10_by_5 : decode cX10_by 5 = .ok (.iaload, 1) := by decide +kernel
theorem dX10_by_6 : decode cX10_by 6 = .ok (.istore 5, 2) := by decide +kernel
theorem dX10_by_8 : decode cX10_by 8 = .ok (.aload_n 0, 1) := by decide +kernel
theorem dX10_by_9 : decode cX10_by 9 = .ok (.getfield 37, 3) := by decide +kernel
theorem dX10_by_12 : decode cX10_by 12 = .ok (.iconst 1, 1) := by decide +kernel
theorem dX10_by_13 : decode cX10_by 13 = .ok (.iaload, 1) := by decide +kernel
theorem dX10_by_14 : decode cX10_by 14 = .ok (.istore 6, 2) := by decide +kernel
theorem dX10_by_16 : decode cX10_by 16 = .ok (.aload_n 0, 1) := by decide +kernel
theorem dX10_by_17 : decode cX10_by 17 = .ok (.getfield 37, 3) := by decide +kernel
theorem dX10_by_20 : decode cX10_by 20 = .ok (.iconst 2, 1) := by decide +kernel
theorem dX10_by_21 : decode cX10_by 21 = .ok (.iaload, 1) := by decide +kernel
theorem dX10_by_22 : decode cX10_by 22 = .ok (.istore 7, 2) := by decide +kernel
theorem dX10_by_24 : decode cX10_by 24 = .ok (.aload_n 0, 1) := by decide +kernel
theorem dX10_by_25 : decode cX10_by 25 = .ok (.getfield 125, 3) := by decide +kernel
theorem dX10_by_28 : decode cX10_by 28 = .ok (.istore 8, 2) := by decide +kernel
theorem dX10_by_30 : decode cX10_by 30 = .ok (.aload_n 0, 1) := by decide +kernel
theorem dX10_by_31 : decode cX10_by 31 = .ok (.getfield 37, 3) := by decide +kernel
theorem dX10_by_34 : decode cX10_by 34 = .ok (.iconst 0, 1) := by decide +kernel
theorem dX10_by_35 : decode cX10_by 35 = .ok (.iload_n 1, 1) := by decide +kernel
theorem dX10_by_36 : decode cX10_by 36 = .ok (.iastore, 1) := by decide +kernel
theorem dX10_by_37 : decode cX10_by 37 = .ok (.aload_n 0, 1) := by decide +kernel
theorem dX10_by_38 : decode cX10_by 38 = .ok (.getfield 37, 3) := by decide +kernel
theorem dX10_by_41 : decode cX10_by 41 = .ok (.iconst 1, 1) := by decide +kernel
theorem dX10_by_42 : decode cX10_by 42 = .ok (.iload_n 2, 1) := by decide +kernel
theorem dX10_by_43 : decode cX10_by 43 = .ok (.iastore, 1) := by decide +kernel
theorem dX10_by_44 : decode cX10_by 44 = .ok (.aload_n 0, 1) := by decide +kernel
theorem dX10_by_45 : decode cX10_by 45 = .ok (.getfield 37, 3) := by decide +kernel
theorem dX10_by_48 : decode cX10_by 48 = .ok (.iconst 2, 1) := by decide +kernel
theorem dX10_by_49 : decode cX10_by 49 = .ok (.iload_n 3, 1) := by decide +kernel
theorem dX10_by_50 : decode cX10_by 50 = .ok (.iastore, 1) := by decide +kernel
theorem dX10_by_51 : decode cX10_by 51 = .ok (.aload_n 0, 1) := by decide +kernel
theorem dX10_by_52 : decode cX10_by 52 = .ok (.iload 4, 2) := by decide +kernel
theorem dX10_by_54 : decode cX10_by 54 = .ok (.putfield 125, 3) := by decide +kernel
theorem dX10_by_57 : decode cX10_by 57 = .ok (.aload_n 0, 1) := by decide +kernel
theorem dX10_by_58 : decode cX10_by 58 = .ok (.invokevirtual 150, 3) := by decide +kernel
theorem dX10_by_61 : decode cX10_by 61 = .ok (.istore 9, 2) := by decide +kernel
theorem dX10_by_63 : decode cX10_by 63 = .ok (.aload_n 0, 1) := by decide +kernel
theorem dX10_by_64 : decode cX10_by 64 = .ok (.getfield 37, 3) := by decide +kernel
theorem dX10_by_67 : decode cX10_by 67 = .ok (.iconst 0, 1) := by decide +kernel
theorem dX10_by_68 : decode cX10_by 68 = .ok (.iload 5, 2) := by decide +kernel
theorem dX10_by_70 : decode cX10_by 70 = .ok (.iastore, 1) := by decide +kernel
theorem dX10_by_71 : decode cX10_by 71 = .ok (.aload_n 0, 1) := by decide +kernel
theorem dX10_by_72 : decode cX10_by 72 = .ok (.getfield 37, 3) := by decide +kernel
theorem dX10_by_75 : decode cX10_by 75 = .ok (.iconst 1, 1) := by decide +kernel
theorem dX10_by_76 : decode cX10_by 76 = .ok (.iload 6, 2) := by decide +kernel
theorem dX10_by_78 : decode cX10_by 78 = .ok (.iastore, 1) := by decide +kernel
theorem dX10_by_79 : decode cX10_by 79 = .ok (.aload_n 0, 1) := by decide +kernel
theorem dX10_by_80 : decode cX10_by 80 = .ok (.getfield 37, 3) := by decide +kernel
theorem dX10_by_83 : decode cX10_by 83 = .ok (.iconst 2, 1) := by decide +kernel
theorem dX10_by_84 : decode cX10_by 84 = .ok (.iload 7, 2) := by decide +kernel
theorem dX10_by_86 : decode cX10_by 86 = .ok (.iastore, 1) := by decide +kernel
theorem dX10_by_87 : decode cX10_by 87 = .ok (.aload_n 0, 1) := by decide +kernel
theorem dX10_by_88 : decode cX10_by 88 = .ok (.iload 8, 2) := by decide +kernel
theorem dX10_by_90 : decode cX10_by 90 = .ok (.putfield 125, 3) := by decide +kernel
theorem dX10_by_93 : decode cX10_by 93 = .ok (.iload 9, 2) := by decide +kernel
theorem dX10_by_95 : decode cX10_by 95 = .ok (.ireturn, 1) := by decide +kernel
theorem dX10_number__0 : decode cX10_number_ 0 = .ok (.iload_n 1, 1) := by decide +kernel
theorem dX10_number__1 : decode cX10_number_ 1 = .ok (.bipush (-50), 2) := by decide +kernel
theorem dX10_number__3 : decode cX10_number_ 3 = .ok (.if_icmp .ge 10, 3) := by decide +kernel
theorem dX10_number__6 : decode cX10_number_ 6 = .ok (.aload_n 0, 1) := by decide +kernel
theorem dX10_number__7 : decode cX10_number_ 7 = .ok (.bipush (-4), 2) := by decide +kernel
theorem dX10_number__9 : decode cX10_number_ 9 = .ok (.invokevirtual 68, 3) := by decide +kernel
theorem dX10_number__12 : decode cX10_number_ 12 = .ok (.ireturn, 1) := by decide +kernel
theorem dX10_number__13 : decode cX10_number_ 13 = .ok (.iload_n 1, 1) := by decide +kernel
theorem dX10_number__14 : decode cX10_number_ 14 = .ok (.bipush 50, 2) := by decide +kernel
theorem dX10_number__16 : decode cX10_number_ 16 = .ok (.if_icmp .le 10, 3) := by decide +kernel
theorem dX10_number__19 : decode cX10_number_ 19 = .ok (.aload_n 0, 1) := by decide +kernel
theorem dX10_number__20 : decode cX10_number_ 20 = .ok (.bipush (-6), 2) := by decide +kernel
theorem dX10_number__22 : decode cX10_number_ 22 = .ok (.invokevirtual 68, 3) := by decide +kernel
theorem dX10_number__25 : decode cX10_number_ 25 = .ok (.ireturn, 1) := by decide +kernel
theorem dX10_number__26 : decode cX10_number_ 26 = .ok (.aload_n 0, 1) := by decide +kernel
theorem dX10_number__27 : decode cX10_number_ 27 = .ok (.iconst 0, 1) := by decide +kernel
theorem dX10_number__28 : decode cX10_number_ 28 = .ok (.iconst 0, 1) := by decide +kernel
theorem dX10_number__29 : decode cX10_number_ 29 = .ok (.aload_n 0, 1) := by decide +kernel
theorem dX10_number__30 : decode cX10_number_ 30 = .ok (.getfield 37, 3) := by decide +kernel
theorem dX10_number__33 : decode cX10_number_ 33 = .ok (.iconst 2, 1) := by decide +kernel
theorem dX10_number__34 : decode cX10_number_ 34 = .ok (.iaload, 1) := by decide +kernel
theorem dX10_number__35 : decode cX10_number_ 35 = .ok (.iload_n 1, 1) := by decide +kernel
theorem dX10_number__36 : decode cX10_number_ 36 = .ok (.invokevirtual 178, 3) := by decide +kernel
theorem dX10_number__39 : decode cX10_number_ 39 = .ok (.ireturn, 1) := by decide +kernel
theorem dX10_winter_0 : decode cX10_winter 0 = .ok (.iconst 0, 1) := by decide +kernel
theorem dX10_winter_1 : decode cX10_winter 1 = .ok (.istore_n 1, 1) := by decide +kernel
theorem dX10_winter_2 : decode cX10_winter 2 = .ok (.iconst 0, 1) := by decide +kernel
theorem dX10_winter_3 : decode cX10_winter 3 = .ok (.istore_n 2, 1) := by decide +kernel
theorem dX10_winter_4 : decode cX10_winter 4 = .ok (.iload_n 2, 1) := by decide +kernel
theorem dX10_winter_5 : decode cX10_winter 5 = .ok (.aload_n 0, 1) := by decide +kernel
theorem dX10_winter_6 : decode cX10_winter 6 = .ok (.getfield 113, 3) := by decide +kernel
theorem dX10_winter_9 : decode cX10_winter 9 = .ok (.if_icmp .ge 57, 3) := by decide +kernel
theorem dX10_winter_12 : decode cX10_winter 12 = .ok (.iload_n 1, 1) := by decide +kernel
theorem dX10_winter_13 : decode cX10_winter 13 = .ok (.aload_n 0, 1) := by decide +kernel
theorem dX10_winter_14 : decode cX10_winter 14 = .ok (.getfield 34, 3) := by decide +kernel
theorem dX10_winter_17 : decode cX10_winter 17 = .ok (.iconst 3, 1) := by decide +kernel
theorem dX10_winter_18 : decode cX10_winter 18 = .ok (.iload_n 2, 1) := by decide +kernel
theorem dX10_winter_19 : decode cX10_winter 19 = .ok (.imul, 1) := by decide +kernel
theorem dX10_winter_20 : decode cX10_winter 20 = .ok (.iaload, 1) := by decide +kernel
theorem dX10_winter_21 : decode cX10_winter 21 = .ok (.aload_n 0, 1) := by decide +kernel
theorem dX10_winter_22 : decode cX10_winter 22 = .ok (.aload_n 0, 1) := by decide +kernel
theorem dX10_winter_23 : decode cX10_winter 23 = .ok (.getfield 34, 3) := by decide +kernel
theorem dX10_winter_26 : decode cX10_winter 26 = .ok (.iconst 3, 1) := by decide +kernel
theorem dX10_winter_27 : decode cX10_winter 27 = .ok (.iload_n 2, 1) := by decide +kernel
theorem dX10_winter_28 : decode cX10_winter 28 = .ok (.imul, 1) := by decide +kernel
theorem dX10_winter_29 : decode cX10_winter 29 = .ok (.iaload, 1) := by decide +kernel
theorem dX10_winter_30 : decode cX10_winter 30 = .ok (.aload_n 0, 1) := by decide +kernel
theorem dX10_winter_31 : decode cX10_winter 31 = .ok (.getfield 34, 3) := by decide +kernel
theorem dX10_winter_34 : decode cX10_winter 34 = .ok (.iconst 3, 1) := by decide +kernel
theorem dX10_winter_35 : decode cX10_winter 35 = .ok (.iload_n 2, 1) := by decide +kernel
theorem dX10_winter_36 : decode cX10_winter 36 = .ok (.imul, 1) := by decide +kernel
theorem dX10_winter_37 : decode cX10_winter 37 = .ok (.iconst 1, 1) := by decide +kernel
theorem dX10_winter_38 : decode cX10_winter 38 = .ok (.iadd, 1) := by decide +kernel
theorem dX10_winter_39 : decode cX10_winter 39 = .ok (.iaload, 1) := by decide +kernel
theorem dX10_winter_40 : decode cX10_winter 40 = .ok (.aload_n 0, 1) := by decide +kernel
theorem dX10_winter_41 : decode cX10_winter 41 = .ok (.getfield 34, 3) := by decide +kernel
theorem dX10_winter_44 : decode cX10_winter 44 = .ok (.iconst 3, 1) := by decide +kernel
theorem dX10_winter_45 : decode cX10_winter 45 = .ok (.iload_n 2, 1) := by decide +kernel
theorem dX10_winter_46 : decode cX10_winter 46 = .ok (.imul, 1) := by decide +kernel
theorem dX10_winter_47 : decode cX10_winter 47 = .ok (.iconst 2, 1) := by decide +kernel
theorem dX10_winter_48 : decode cX10_winter 48 = .ok (.iadd, 1) := by decide +kernel
theorem dX10_winter_49 : decode cX10_winter 49 = .ok (.iaload, 1) := by decide +kernel
theorem dX10_winter_50 : decode cX10_winter 50 = .ok (.aload_n 0, 1) := by decide +kernel
theorem dX10_winter_51 : decode cX10_winter 51 = .ok (.getfield 125, 3) := by decide +kernel
theorem dX10_winter_54 : decode cX10_winter 54 = .ok (.invokevirtual 178, 3) := by decide +kernel
theorem dX10_winter_57 : decode cX10_winter 57 = .ok (.imul, 1) := by decide +kernel
theorem dX10_winter_58 : decode cX10_winter 58 = .ok (.iadd, 1) := by decide +kernel
theorem dX10_winter_59 : decode cX10_winter 59 = .ok (.istore_n 1, 1) := by decide +kernel
theorem dX10_winter_60 : decode cX10_winter 60 = .ok (.iinc 2 1, 3) := by decide +kernel
theorem dX10_winter_63 : decode cX10_winter 63 = .ok (.goto (-59), 3) := by decide +kernel
theorem dX10_winter_66 : decode cX10_winter 66 = .ok (.iload_n 1, 1) := by decide +kernel
theorem dX10_winter_67 : decode cX10_winter 67 = .ok (.ireturn, 1) := by decide +kernel
theorem dX10_turnsAbout_0 : decode cX10_turnsAbout 0 = .ok (.iconst 0, 1) := by decide +kernel
theorem dX10_turnsAbout_1 : decode cX10_turnsAbout 1 = .ok (.istore_n 1, 1) := by decide +kernel
theorem dX10_turnsAbout_2 : decode cX10_turnsAbout 2 = .ok (.iconst 0, 1) := by decide +kernel
theorem dX10_turnsAbout_3 : decode cX10_turnsAbout 3 = .ok (.istore_n 2, 1) := by decide +kernel
theorem dX10_turnsAbout_4 : decode cX10_turnsAbout 4 = .ok (.iconst 0, 1) := by decide +kernel
theorem dX10_turnsAbout_5 : decode cX10_turnsAbout 5 = .ok (.istore_n 3, 1) := by decide +kernel
theorem dX10_turnsAbout_6 : decode cX10_turnsAbout 6 = .ok (.iload_n 3, 1) := by decide +kernel
theorem dX10_turnsAbout_7 : decode cX10_turnsAbout 7 = .ok (.aload_n 0, 1) := by decide +kernel
theorem dX10_turnsAbout_8 : decode cX10_turnsAbout 8 = .ok (.getfield 113, 3) := by decide +kernel
theorem dX10_turnsAbout_11 : decode cX10_turnsAbout 11 = .ok (.if_icmp .ge 98, 3) := by decide +kernel
theorem dX10_turnsAbout_14 : decode cX10_turnsAbout 14 = .ok (.aload_n 0, 1) := by decide +kernel
theorem dX10_turnsAbout_15 : decode cX10_turnsAbout 15 = .ok (.aload_n 0, 1) := by decide +kernel
theorem dX10_turnsAbout_16 : decode cX10_turnsAbout 16 = .ok (.getfield 34, 3) := by decide +kernel
theorem dX10_turnsAbout_19 : decode cX10_turnsAbout 19 = .ok (.iconst 3, 1) := by decide +kernel
theorem dX10_turnsAbout_20 : decode cX10_turnsAbout 20 = .ok (.iload_n 3, 1) := by decide +kernel
theorem dX10_turnsAbout_21 : decode cX10_turnsAbout 21 = .ok (.imul, 1) := by decide +kernel
theorem dX10_turnsAbout_22 : decode cX10_turnsAbout 22 = .ok (.iaload, 1) := by decide +kernel
theorem dX10_turnsAbout_23 : decode cX10_turnsAbout 23 = .ok (.aload_n 0, 1) := by decide +kernel
theorem dX10_turnsAbout_24 : decode cX10_turnsAbout 24 = .ok (.getfield 34, 3) := by decide +kernel
theorem dX10_turnsAbout_27 : decode cX10_turnsAbout 27 = .ok (.iconst 3, 1) := by decide +kernel
theorem dX10_turnsAbout_28 : decode cX10_turnsAbout 28 = .ok (.iload_n 3, 1) := by decide +kernel
theorem dX10_turnsAbout_29 : decode cX10_turnsAbout 29 = .ok (.imul, 1) := by decide +kernel
theorem dX10_turnsAbout_30 : decode cX10_turnsAbout 30 = .ok (.iconst 1, 1) := by decide +kernel
theorem dX10_turnsAbout_31 : decode cX10_turnsAbout 31 = .ok (.iadd, 1) := by decide +kernel
theorem dX10_turnsAbout_32 : decode cX10_turnsAbout 32 = .ok (.iaload, 1) := by decide +kernel
theorem dX10_turnsAbout_33 : decode cX10_turnsAbout 33 = .ok (.aload_n 0, 1) := by decide +kernel
theorem dX10_turnsAbout_34 : decode cX10_turnsAbout 34 = .ok (.getfield 34, 3) := by decide +kernel
theorem dX10_turnsAbout_37 : decode cX10_turnsAbout 37 = .ok (.iconst 3, 1) := by decide +kernel
theorem dX10_turnsAbout_38 : decode cX10_turnsAbout 38 = .ok (.iload_n 3, 1) := by decide +kernel
theorem dX10_turnsAbout_39 : decode cX10_turnsAbout 39 = .ok (.imul, 1) := by decide +kernel
theorem dX10_turnsAbout_40 : decode cX10_turnsAbout 40 = .ok (.iconst 2, 1) := by decide +kernel
theorem dX10_turnsAbout_41 : decode cX10_turnsAbout 41 = .ok (.iadd, 1) := by decide +kernel
theorem dX10_turnsAbout_42 : decode cX10_turnsAbout 42 = .ok (.iaload, 1) := by decide +kernel
theorem dX10_turnsAbout_43 : decode cX10_turnsAbout 43 = .ok (.aload_n 0, 1) := by decide +kernel
theorem dX10_turnsAbout_44 : decode cX10_turnsAbout 44 = .ok (.getfield 125, 3) := by decide +kernel
theorem dX10_turnsAbout_47 : decode cX10_turnsAbout 47 = .ok (.invokevirtual 178, 3) := by decide +kernel
theorem dX10_turnsAbout_50 : decode cX10_turnsAbout 50 = .ok (.pop, 1) := by decide +kernel
theorem dX10_turnsAbout_51 : decode cX10_turnsAbout 51 = .ok (.iconst 0, 1) := by decide +kernel
theorem dX10_turnsAbout_52 : decode cX10_turnsAbout 52 = .ok (.istore 4, 2) := by decide +kernel
theorem dX10_turnsAbout_54 : decode cX10_turnsAbout 54 = .ok (.iload 4, 2) := by decide +kernel
theorem dX10_turnsAbout_56 : decode cX10_turnsAbout 56 = .ok (.aload_n 0, 1) := by decide +kernel
theorem dX10_turnsAbout_57 : decode cX10_turnsAbout 57 = .ok (.getfield 65, 3) := by decide +kernel
theorem dX10_turnsAbout_60 : decode cX10_turnsAbout 60 = .ok (.if_icmp .ge 43, 3) := by decide +kernel
theorem dX10_turnsAbout_63 : decode cX10_turnsAbout 63 = .ok (.aload_n 0, 1) := by decide +kernel
theorem dX10_turnsAbout_64 : decode cX10_turnsAbout 64 = .ok (.iload 4, 2) := by decide +kernel
theorem dX10_turnsAbout_66 : decode cX10_turnsAbout 66 = .ok (.invokevirtual 147, 3) := by decide +kernel
theorem dX10_turnsAbout_69 : decode cX10_turnsAbout 69 = .ok (.istore 5, 2) := by decide +kernel
theorem dX10_turnsAbout_71 : decode cX10_turnsAbout 71 = .ok (.iload 5, 2) := by decide +kernel
theorem dX10_turnsAbout_73 : decode cX10_turnsAbout 73 = .ok (.iconst 1, 1) := by decide +kernel
theorem dX10_turnsAbout_74 : decode cX10_turnsAbout 74 = .ok (.if_icmp .ne 10, 3) := by decide +kernel
theorem dX10_turnsAbout_77 : decode cX10_turnsAbout 77 = .ok (.iload_n 1, 1) := by decide +kernel
theorem dX10_turnsAbout_78 : decode cX10_turnsAbout 78 = .ok (.iconst 1, 1) := by decide +kernel
theorem dX10_turnsAbout_79 : decode cX10_turnsAbout 79 = .ok (.iload 4, 2) := by decide +kernel
theorem dX10_turnsAbout_81 : decode cX10_turnsAbout 81 = .ok (.ishl, 1) := by decide +kernel
theorem dX10_turnsAbout_82 : decode cX10_turnsAbout 82 = .ok (.ior, 1) := by decide +kernel
theorem dX10_turnsAbout_83 : decode cX10_turnsAbout 83 = .ok (.istore_n 1, 1) := by decide +kernel
theorem dX10_turnsAbout_84 : decode cX10_turnsAbout 84 = .ok (.iload 5, 2) := by decide +kernel
theorem dX10_turnsAbout_86 : decode cX10_turnsAbout 86 = .ok (.iconst 2, 1) := by decide +kernel
theorem dX10_turnsAbout_87 : decode cX10_turnsAbout 87 = .ok (.if_icmp .ne 10, 3) := by decide +kernel
theorem dX10_turnsAbout_90 : decode cX10_turnsAbout 90 = .ok (.iload_n 2, 1) := by decide +kernel
theorem dX10_turnsAbout_91 : decode cX10_turnsAbout 91 = .ok (.iconst 1, 1) := by decide +kernel
theorem dX10_turnsAbout_92 : decode cX10_turnsAbout 92 = .ok (.iload 4, 2) := by decide +kernel
theorem dX10_turnsAbout_94 : decode cX10_turnsAbout 94 = .ok (.ishl, 1) := by decide +kernel
theorem dX10_turnsAbout_95 : decode cX10_turnsAbout 95 = .ok (.ior, 1) := by decide +kernel
theorem dX10_turnsAbout_96 : decode cX10_turnsAbout 96 = .ok (.istore_n 2, 1) := by decide +kernel
theorem dX10_turnsAbout_97 : decode cX10_turnsAbout 97 = .ok (.iinc 4 1, 3) := by decide +kernel
theorem dX10_turnsAbout_100 : decode cX10_turnsAbout 100 = .ok (.goto (-46), 3) := by decide +kernel
theorem dX10_turnsAbout_103 : decode cX10_turnsAbout 103 = .ok (.iinc 3 1, 3) := by decide +kernel
theorem dX10_turnsAbout_106 : decode cX10_turnsAbout 106 = .ok (.goto (-100), 3) := by decide +kernel
theorem dX10_turnsAbout_109 : decode cX10_turnsAbout 109 = .ok (.iload_n 1, 1) := by decide +kernel
theorem dX10_turnsAbout_110 : decode cX10_turnsAbout 110 = .ok (.iload_n 2, 1) := by decide +kernel
theorem dX10_turnsAbout_111 : decode cX10_turnsAbout 111 = .ok (.iand, 1) := by decide +kernel
theorem dX10_turnsAbout_112 : decode cX10_turnsAbout 112 = .ok (.ireturn, 1) := by decide +kernel
theorem dX10_sizes_0 : decode cX10_sizes 0 = .ok (.aload_n 0, 1) := by decide +kernel
theorem dX10_sizes_1 : decode cX10_sizes 1 = .ok (.iload_n 1, 1) := by decide +kernel
theorem dX10_sizes_2 : decode cX10_sizes 2 = .ok (.invokevirtual 122, 3) := by decide +kernel
theorem dX10_sizes_5 : decode cX10_sizes 5 = .ok (.ifCond .ne 9, 3) := by decide +kernel
theorem dX10_sizes_8 : decode cX10_sizes 8 = .ok (.aload_n 0, 1) := by decide +kernel
theorem dX10_sizes_9 : decode cX10_sizes 9 = .ok (.iconst (-1), 1) := by decide +kernel
theorem dX10_sizes_10 : decode cX10_sizes 10 = .ok (.invokevirtual 68, 3) := by decide +kernel
theorem dX10_sizes_13 : decode cX10_sizes 13 = .ok (.ireturn, 1) := by decide +kernel
theorem dX10_sizes_14 : decode cX10_sizes 14 = .ok (.iload_n 3, 1) := by decide +kernel
theorem dX10_sizes_15 : decode cX10_sizes 15 = .ok (.ifCond .lt 8, 3) := by decide +kernel
theorem dX10_sizes_18 : decode cX10_sizes 18 = .ok (.iload_n 3, 1) := by decide +kernel
theorem dX10_sizes_19 : decode cX10_sizes 19 = .ok (.iconst 2, 1) := by decide +kernel
theorem dX10_sizes_20 : decode cX10_sizes 20 = .ok (.if_icmp .le 10, 3) := by decide +kernel
theorem dX10_sizes_23 : decode cX10_sizes 23 = .ok (.aload_n 0, 1) := by decide +kernel
theorem dX10_sizes_24 : decode cX10_sizes 24 = .ok (.bipush (-2), 2) := by decide +kernel
theorem dX10_sizes_26 : decode cX10_sizes 26 = .ok (.invokevirtual 68, 3) := by decide +kernel
theorem dX10_sizes_29 : decode cX10_sizes 29 = .ok (.ireturn, 1) := by decide +kernel
theorem dX10_sizes_30 : decode cX10_sizes 30 = .ok (.aload_n 0, 1) := by decide +kernel
theorem dX10_sizes_31 : decode cX10_sizes 31 = .ok (.getfield 22, 3) := by decide +kernel
theorem dX10_sizes_34 : decode cX10_sizes 34 = .ok (.iload_n 1, 1) := by decide +kernel
theorem dX10_sizes_35 : decode cX10_sizes 35 = .ok (.iaload, 1) := by decide +kernel
theorem dX10_sizes_36 : decode cX10_sizes 36 = .ok (.istore 4, 2) := by decide +kernel
theorem dX10_sizes_38 : decode cX10_sizes 38 = .ok (.bipush (-9), 2) := by decide +kernel
theorem dX10_sizes_40 : decode cX10_sizes 40 = .ok (.istore 5, 2) := by decide +kernel
theorem dX10_sizes_42 : decode cX10_sizes 42 = .ok (.bipush (-9), 2) := by decide +kernel
theorem dX10_sizes_44 : decode cX10_sizes 44 = .ok (.istore 6, 2) := by decide +kernel
theorem dX10_sizes_46 : decode cX10_sizes 46 = .ok (.iconst 0, 1) := by decide +kernel
theorem dX10_sizes_47 : decode cX10_sizes 47 = .ok (.istore 7, 2) := by decide +kernel
theorem dX10_sizes_49 : decode cX10_sizes 49 = .ok (.iconst 0, 1) := by decide +kernel
theorem dX10_sizes_50 : decode cX10_sizes 50 = .ok (.istore 8, 2) := by decide +kernel
theorem dX10_sizes_52 : decode cX10_sizes 52 = .ok (.iload 8, 2) := by decide +kernel
theorem dX10_sizes_54 : decode cX10_sizes 54 = .ok (.bipush 10, 2) := by decide +kernel
theorem dX10_sizes_56 : decode cX10_sizes 56 = .ok (.if_icmp .ge 49, 3) := by decide +kernel
theorem dX10_sizes_59 : decode cX10_sizes 59 = .ok (.aload_n 0, 1) := by decide +kernel
theorem dX10_sizes_60 : decode cX10_sizes 60 = .ok (.getfield 22, 3) := by decide +kernel
theorem dX10_sizes_63 : decode cX10_sizes 63 = .ok (.iload_n 1, 1) := by decide +kernel
theorem dX10_sizes_64 : decode cX10_sizes 64 = .ok (.iload 8, 2) := by decide +kernel
theorem dX10_sizes_66 : decode cX10_sizes 66 = .ok (.iastore, 1) := by decide +kernel
theorem dX10_sizes_67 : decode cX10_sizes 67 = .ok (.aload_n 0, 1) := by decide +kernel
theorem dX10_sizes_68 : decode cX10_sizes 68 = .ok (.invokevirtual 144, 3) := by decide +kernel
theorem dX10_sizes_71 : decode cX10_sizes 71 = .ok (.aload_n 0, 1) := by decide +kernel
theorem dX10_sizes_72 : decode cX10_sizes 72 = .ok (.iload_n 1, 1) := by decide +kernel
theorem dX10_sizes_73 : decode cX10_sizes 73 = .ok (.invokevirtual 141, 3) := by decide +kernel
theorem dX10_sizes_76 : decode cX10_sizes 76 = .ok (.iload_n 2, 1) := by decide +kernel
theorem dX10_sizes_77 : decode cX10_sizes 77 = .ok (.if_icmp .eq 6, 3) := by decide +kernel
theorem dX10_sizes_80 : decode cX10_sizes 80 = .ok (.goto 19, 3) := by decide +kernel
theorem dX10_sizes_83 : decode cX10_sizes 83 = .ok (.iinc 7 1, 3) := by decide +kernel
theorem dX10_sizes_86 : decode cX10_sizes 86 = .ok (.iload 8, 2) := by decide +kernel
theorem dX10_sizes_88 : decode cX10_sizes 88 = .ok (.istore 6, 2) := by decide +kernel
theorem dX10_sizes_90 : decode cX10_sizes 90 = .ok (.iload 5, 2) := by decide +kernel
theorem dX10_sizes_92 : decode cX10_sizes 92 = .ok (.ifCond .ge 7, 3) := by decide +kernel
theorem dX10_sizes_95 : decode cX10_sizes 95 = .ok (.iload 8, 2) := by decide +kernel
theorem dX10_sizes_97 : decode cX10_sizes 97 = .ok (.istore 5, 2) := by decide +kernel
theorem dX10_sizes_99 : decode cX10_sizes 99 = .ok (.iinc 8 1, 3) := by decide +kernel
theorem dX10_sizes_102 : decode cX10_sizes 102 = .ok (.goto (-50), 3) := by decide +kernel
theorem dX10_sizes_105 : decode cX10_sizes 105 = .ok (.aload_n 0, 1) := by decide +kernel
theorem dX10_sizes_106 : decode cX10_sizes 106 = .ok (.getfield 22, 3) := by decide +kernel
theorem dX10_sizes_109 : decode cX10_sizes 109 = .ok (.iload_n 1, 1) := by decide +kernel
theorem dX10_sizes_110 : decode cX10_sizes 110 = .ok (.iload 4, 2) := by decide +kernel
theorem dX10_sizes_112 : decode cX10_sizes 112 = .ok (.iastore, 1) := by decide +kernel
theorem dX10_sizes_113 : decode cX10_sizes 113 = .ok (.iload_n 3, 1) := by decide +kernel
theorem dX10_sizes_114 : decode cX10_sizes 114 = .ok (.ifCond .ne 8, 3) := by decide +kernel
theorem dX10_sizes_117 : decode cX10_sizes 117 = .ok (.iload 5, 2) := by decide +kernel
theorem dX10_sizes_119 : decode cX10_sizes 119 = .ok (.goto 15, 3) := by decide +kernel
theorem dX10_sizes_122 : decode cX10_sizes 122 = .ok (.iload_n 3, 1) := by decide +kernel
theorem dX10_sizes_123 : decode cX10_sizes 123 = .ok (.iconst 1, 1) := by decide +kernel
theorem dX10_sizes_124 : decode cX10_sizes 124 = .ok (.if_icmp .ne 8, 3) := by decide +kernel
theorem dX10_sizes_127 : decode cX10_sizes 127 = .ok (.iload 6, 2) := by decide +kernel
theorem dX10_sizes_129 : decode cX10_sizes 129 = .ok (.goto 5, 3) := by decide +kernel
theorem dX10_sizes_132 : decode cX10_sizes 132 = .ok (.iload 7, 2) := by decide +kernel
theorem dX10_sizes_134 : decode cX10_sizes 134 = .ok (.ireturn, 1) := by decide +kernel
theorem dX10_hidden_0 : decode cX10_hidden 0 = .ok (.iload_n 1, 1) := by decide +kernel
theorem dX10_hidden_1 : decode cX10_hidden 1 = .ok (.ifCond .lt 7, 3) := by decide +kernel
theorem dX10_hidden_4 : decode cX10_hidden 4 = .ok (.iload_n 2, 1) := by decide +kernel
theorem dX10_hidden_5 : decode cX10_hidden 5 = .ok (.ifCond .ge 10, 3) := by decide +kernel
theorem dX10_hidden_8 : decode cX10_hidden 8 = .ok (.aload_n 0, 1) := by decide +kernel
theorem dX10_hidden_9 : decode cX10_hidden 9 = .ok (.bipush (-4), 2) := by decide +kernel
theorem dX10_hidden_11 : decode cX10_hidden 11 = .ok (.invokevirtual 68, 3) := by decide +kernel
theorem dX10_hidden_14 : decode cX10_hidden 14 = .ok (.ireturn, 1) := by decide +kernel
theorem dX10_hidden_15 : decode cX10_hidden 15 = .ok (.iload_n 1, 1) := by decide +kernel
theorem dX10_hidden_16 : decode cX10_hidden 16 = .ok (.bipush 9, 2) := by decide +kernel
theorem dX10_hidden_18 : decode cX10_hidden 18 = .ok (.if_icmp .gt 12, 3) := by decide +kernel
theorem dX10_hidden_21 : decode cX10_hidden 21 = .ok (.aload_n 0, 1) := by decide +kernel
theorem dX10_hidden_22 : decode cX10_hidden 22 = .ok (.getfield 65, 3) := by decide +kernel
theorem dX10_hidden_25 : decode cX10_hidden 25 = .ok (.bipush 10, 2) := by decide +kernel
theorem dX10_hidden_27 : decode cX10_hidden 27 = .ok (.if_icmp .ne 10, 3) := by decide +kernel
theorem dX10_hidden_30 : decode cX10_hidden 30 = .ok (.aload_n 0, 1) := by decide +kernel
theorem dX10_hidden_31 : decode cX10_hidden 31 = .ok (.bipush (-6), 2) := by decide +kernel
theorem dX10_hidden_33 : decode cX10_hidden 33 = .ok (.invokevirtual 68, 3) := by decide +kernel
theorem dX10_hidden_36 : decode cX10_hidden 36 = .ok (.ireturn, 1) := by decide +kernel
theorem dX10_hidden_37 : decode cX10_hidden 37 = .ok (.bipush (-9), 2) := by decide +kernel
theorem dX10_hidden_39 : decode cX10_hidden 39 = .ok (.istore_n 3, 1) := by decide +kernel
theorem dX10_hidden_40 : decode cX10_hidden 40 = .ok (.iconst 0, 1) := by decide +kernel
theorem dX10_hidden_41 : decode cX10_hidden 41 = .ok (.istore 4, 2) := by decide +kernel
theorem dX10_hidden_43 : decode cX10_hidden 43 = .ok (.iload 4, 2) := by decide +kernel
theorem dX10_hidden_45 : decode cX10_hidden 45 = .ok (.aload_n 0, 1) := by decide +kernel
theorem dX10_hidden_46 : decode cX10_hidden 46 = .ok (.getfield 61, 3) := by decide +kernel
theorem dX10_hidden_49 : decode cX10_hidden 49 = .ok (.if_icmp .ge 47, 3) := by decide +kernel
theorem dX10_hidden_52 : decode cX10_hidden 52 = .ok (.iload_n 3, 1) := by decide +kernel
theorem dX10_hidden_53 : decode cX10_hidden 53 = .ok (.ifCond .ge 43, 3) := by decide +kernel
theorem dX10_hidden_56 : decode cX10_hidden 56 = .ok (.aload_n 0, 1) := by decide +kernel
theorem dX10_hidden_57 : decode cX10_hidden 57 = .ok (.iload 4, 2) := by decide +kernel
theorem dX10_hidden_59 : decode cX10_hidden 59 = .ok (.bipush (-9), 2) := by decide +kernel
theorem dX10_hidden_61 : decode cX10_hidden 61 = .ok (.iconst 0, 1) := by decide +kernel
theorem dX10_hidden_62 : decode cX10_hidden 62 = .ok (.iload_n 1, 1) := by decide +kernel
theorem dX10_hidden_63 : decode cX10_hidden 63 = .ok (.iconst 5, 1) := by decide +kernel
theorem dX10_hidden_64 : decode cX10_hidden 64 = .ok (.iconst 0, 1) := by decide +kernel
theorem dX10_hidden_65 : decode cX10_hidden 65 = .ok (.iconst 0, 1) := by decide +kernel
theorem dX10_hidden_66 : decode cX10_hidden 66 = .ok (.invokevirtual 109, 3) := by decide +kernel
theorem dX10_hidden_69 : decode cX10_hidden 69 = .ok (.aload_n 0, 1) := by decide +kernel
theorem dX10_hidden_70 : decode cX10_hidden 70 = .ok (.invokevirtual 163, 3) := by decide +kernel
theorem dX10_hidden_73 : decode cX10_hidden 73 = .ok (.iload_n 2, 1) := by decide +kernel
theorem dX10_hidden_74 : decode cX10_hidden 74 = .ok (.if_icmp .ne 6, 3) := by decide +kernel
theorem dX10_hidden_77 : decode cX10_hidden 77 = .ok (.iload 4, 2) := by decide +kernel
theorem dX10_hidden_79 : decode cX10_hidden 79 = .ok (.istore_n 3, 1) := by decide +kernel
theorem dX10_hidden_80 : decode cX10_hidden 80 = .ok (.aload_n 0, 1) := by decide +kernel
theorem dX10_hidden_81 : decode cX10_hidden 81 = .ok (.dup, 1) := by decide +kernel
theorem dX10_hidden_82 : decode cX10_hidden 82 = .ok (.getfield 65, 3) := by decide +kernel
theorem dX10_hidden_85 : decode cX10_hidden 85 = .ok (.iconst 1, 1) := by decide +kernel
theorem dX10_hidden_86 : decode cX10_hidden 86 = .ok (.isub, 1) := by decide +kernel
theorem dX10_hidden_87 : decode cX10_hidden 87 = .ok (.putfield 65, 3) := by decide +kernel
theorem dX10_hidden_90 : decode cX10_hidden 90 = .ok (.iinc 4 1, 3) := by decide +kernel
theorem dX10_hidden_93 : decode cX10_hidden 93 = .ok (.goto (-50), 3) := by decide +kernel
theorem dX10_hidden_96 : decode cX10_hidden 96 = .ok (.iload_n 3, 1) := by decide +kernel
theorem dX10_hidden_97 : decode cX10_hidden 97 = .ok (.ireturn, 1) := by decide +kernel
theorem dX10_draw_0 : decode cX10_draw 0 = .ok (.aload_n 0, 1) := by decide +kernel
theorem dX10_draw_1 : decode cX10_draw 1 = .ok (.aload_n 0, 1) := by decide +kernel
theorem dX10_draw_2 : decode cX10_draw 2 = .ok (.getfield 182, 3) := by decide +kernel
theorem dX10_draw_5 : decode cX10_draw 5 = .ok (.ldc 185, 2) := by decide +kernel
theorem dX10_draw_7 : decode cX10_draw 7 = .ok (.imul, 1) := by decide +kernel
theorem dX10_draw_8 : decode cX10_draw 8 = .ok (.ldc 186, 2) := by decide +kernel
theorem dX10_draw_10 : decode cX10_draw 10 = .ok (.iadd, 1) := by decide +kernel
theorem dX10_draw_11 : decode cX10_draw 11 = .ok (.putfield 182, 3) := by decide +kernel
theorem dX10_draw_14 : decode cX10_draw 14 = .ok (.aload_n 0, 1) := by decide +kernel
theorem dX10_draw_15 : decode cX10_draw 15 = .ok (.getfield 182, 3) := by decide +kernel
theorem dX10_draw_18 : decode cX10_draw 18 = .ok (.ldc 187, 2) := by decide +kernel
theorem dX10_draw_20 : decode cX10_draw 20 = .ok (.iand, 1) := by decide +kernel
theorem dX10_draw_21 : decode cX10_draw 21 = .ok (.sipush 256, 3) := by decide +kernel
theorem dX10_draw_24 : decode cX10_draw 24 = .ok (.idiv, 1) := by decide +kernel
theorem dX10_draw_25 : decode cX10_draw 25 = .ok (.iload_n 1, 1) := by decide +kernel
theorem dX10_draw_26 : decode cX10_draw 26 = .ok (.irem, 1) := by decide +kernel
theorem dX10_draw_27 : decode cX10_draw 27 = .ok (.ireturn, 1) := by decide +kernel
theorem dX10_days_0 : decode cX10_days 0 = .ok (.iload_n 1, 1) := by decide +kernel
theorem dX10_days_1 : decode cX10_days 1 = .ok (.iconst 1, 1) := by decide +kernel
theorem dX10_days_2 : decode cX10_days 2 = .ok (.if_icmp .ge 10, 3) := by decide +kernel
theorem dX10_days_5 : decode cX10_days 5 = .ok (.aload_n 0, 1) := by decide +kernel
theorem dX10_days_6 : decode cX10_days 6 = .ok (.bipush (-4), 2) := by decide +kernel
theorem dX10_days_8 : decode cX10_days 8 = .ok (.invokevirtual 68, 3) := by decide +kernel
theorem dX10_days_11 : decode cX10_days 11 = .ok (.ireturn, 1) := by decide +kernel
theorem dX10_days_12 : decode cX10_days 12 = .ok (.iload_n 1, 1) := by decide +kernel
theorem dX10_days_13 : decode cX10_days 13 = .ok (.bipush 30, 2) := by decide +kernel
theorem dX10_days_15 : decode cX10_days 15 = .ok (.if_icmp .le 10, 3) := by decide +kernel
theorem dX10_days_18 : decode cX10_days 18 = .ok (.aload_n 0, 1) := by decide +kernel
theorem dX10_days_19 : decode cX10_days 19 = .ok (.bipush (-6), 2) := by decide +kernel
theorem dX10_days_21 : decode cX10_days 21 = .ok (.invokevirtual 68, 3) := by decide +kernel
theorem dX10_days_24 : decode cX10_days 24 = .ok (.ireturn, 1) := by decide +kernel
theorem dX10_days_25 : decode cX10_days 25 = .ok (.aload_n 0, 1) := by decide +kernel
theorem dX10_days_26 : decode cX10_days 26 = .ok (.iload_n 2, 1) := by decide +kernel
theorem dX10_days_27 : decode cX10_days 27 = .ok (.putfield 182, 3) := by decide +kernel
theorem dX10_days_30 : decode cX10_days 30 = .ok (.iconst 0, 1) := by decide +kernel
theorem dX10_days_31 : decode cX10_days 31 = .ok (.istore_n 3, 1) := by decide +kernel
theorem dX10_days_32 : decode cX10_days 32 = .ok (.iconst 0, 1) := by decide +kernel
theorem dX10_days_33 : decode cX10_days 33 = .ok (.istore 4, 2) := by decide +kernel
theorem dX10_days_35 : decode cX10_days 35 = .ok (.iload 4, 2) := by decide +kernel
theorem dX10_days_37 : decode cX10_days 37 = .ok (.iload_n 1, 1) := by decide +kernel
theorem dX10_days_38 : decode cX10_days 38 = .ok (.if_icmp .ge 53, 3) := by decide +kernel
theorem dX10_days_41 : decode cX10_days 41 = .ok (.aload_n 0, 1) := by decide +kernel
theorem dX10_days_42 : decode cX10_days 42 = .ok (.bipush 41, 2) := by decide +kernel
theorem dX10_days_44 : decode cX10_days 44 = .ok (.invokevirtual 188, 3) := by decide +kernel
theorem dX10_days_47 : decode cX10_days 47 = .ok (.istore 5, 2) := by decide +kernel
theorem dX10_days_49 : decode cX10_days 49 = .ok (.aload_n 0, 1) := by decide +kernel
theorem dX10_days_50 : decode cX10_days 50 = .ok (.bipush 21, 2) := by decide +kernel
theorem dX10_days_52 : decode cX10_days 52 = .ok (.invokevirtual 188, 3) := by decide +kernel
theorem dX10_days_55 : decode cX10_days 55 = .ok (.istore 6, 2) := by decide +kernel
theorem dX10_days_57 : decode cX10_days 57 = .ok (.aload_n 0, 1) := by decide +kernel
theorem dX10_days_58 : decode cX10_days 58 = .ok (.iload 5, 2) := by decide +kernel
theorem dX10_days_60 : decode cX10_days 60 = .ok (.iload 6, 2) := by decide +kernel
theorem dX10_days_62 : decode cX10_days 62 = .ok (.aload_n 0, 1) := by decide +kernel
theorem dX10_days_63 : decode cX10_days 63 = .ok (.iconst 4, 1) := by decide +kernel
theorem dX10_days_64 : decode cX10_days 64 = .ok (.invokevirtual 188, 3) := by decide +kernel
theorem dX10_days_67 : decode cX10_days 67 = .ok (.aload_n 0, 1) := by decide +kernel
theorem dX10_days_68 : decode cX10_days 68 = .ok (.getfield 125, 3) := by decide +kernel
theorem dX10_days_71 : decode cX10_days 71 = .ok (.invokevirtual 178, 3) := by decide +kernel
theorem dX10_days_74 : decode cX10_days 74 = .ok (.pop, 1) := by decide +kernel
theorem dX10_days_75 : decode cX10_days 75 = .ok (.aload_n 0, 1) := by decide +kernel
theorem dX10_days_76 : decode cX10_days 76 = .ok (.invokevirtual 153, 3) := by decide +kernel
theorem dX10_days_79 : decode cX10_days 79 = .ok (.ifCond .eq 6, 3) := by decide +kernel
theorem dX10_days_82 : decode cX10_days 82 = .ok (.iinc 3 1, 3) := by decide +kernel
theorem dX10_days_85 : decode cX10_days 85 = .ok (.iinc 4 1, 3) := by decide +kernel
theorem dX10_days_88 : decode cX10_days 88 = .ok (.goto (-53), 3) := by decide +kernel
theorem dX10_days_91 : decode cX10_days 91 = .ok (.iload_n 3, 1) := by decide +kernel
theorem dX10_days_92 : decode cX10_days 92 = .ok (.ireturn, 1) := by decide +kernel
theorem dX10_row_0 : decode cX10_row 0 = .ok (.iload_n 1, 1) := by decide +kernel
theorem dX10_row_1 : decode cX10_row 1 = .ok (.ifCond .ge 10, 3) := by decide +kernel
theorem dX10_row_4 : decode cX10_row 4 = .ok (.aload_n 0, 1) := by decide +kernel
theorem dX10_row_5 : decode cX10_row 5 = .ok (.bipush (-4), 2) := by decide +kernel
theorem dX10_row_7 : decode cX10_row 7 = .ok (.invokevirtual 68, 3) := by decide +kernel
theorem dX10_row_10 : decode cX10_row 10 = .ok (.ireturn, 1) := by decide +kernel
theorem dX10_row_11 : decode cX10_row 11 = .ok (.iload_n 1, 1) := by decide +kernel
theorem dX10_row_12 : decode cX10_row 12 = .ok (.iconst 2, 1) := by decide +kernel
theorem dX10_row_13 : decode cX10_row 13 = .ok (.if_icmp .gt 12, 3) := by decide +kernel
theorem dX10_row_16 : decode cX10_row 16 = .ok (.aload_n 0, 1) := by decide +kernel
theorem dX10_row_17 : decode cX10_row 17 = .ok (.getfield 191, 3) := by decide +kernel
theorem dX10_row_20 : decode cX10_row 20 = .ok (.bipush 10, 2) := by decide +kernel
theorem dX10_row_22 : decode cX10_row 22 = .ok (.if_icmp .ne 10, 3) := by decide +kernel
theorem dX10_row_25 : decode cX10_row 25 = .ok (.aload_n 0, 1) := by decide +kernel
theorem dX10_row_26 : decode cX10_row 26 = .ok (.bipush (-6), 2) := by decide +kernel
theorem dX10_row_28 : decode cX10_row 28 = .ok (.invokevirtual 68, 3) := by decide +kernel
theorem dX10_row_31 : decode cX10_row 31 = .ok (.ireturn, 1) := by decide +kernel
theorem dX10_row_32 : decode cX10_row 32 = .ok (.aload_n 0, 1) := by decide +kernel
theorem dX10_row_33 : decode cX10_row 33 = .ok (.getfield 40, 3) := by decide +kernel
theorem dX10_row_36 : decode cX10_row 36 = .ok (.aload_n 0, 1) := by decide +kernel
theorem dX10_row_37 : decode cX10_row 37 = .ok (.getfield 191, 3) := by decide +kernel
theorem dX10_row_40 : decode cX10_row 40 = .ok (.iload_n 1, 1) := by decide +kernel
theorem dX10_row_41 : decode cX10_row 41 = .ok (.iastore, 1) := by decide +kernel
theorem dX10_row_42 : decode cX10_row 42 = .ok (.aload_n 0, 1) := by decide +kernel
theorem dX10_row_43 : decode cX10_row 43 = .ok (.dup, 1) := by decide +kernel
theorem dX10_row_44 : decode cX10_row 44 = .ok (.getfield 191, 3) := by decide +kernel
theorem dX10_row_47 : decode cX10_row 47 = .ok (.iconst 1, 1) := by decide +kernel
theorem dX10_row_48 : decode cX10_row 48 = .ok (.iadd, 1) := by decide +kernel
theorem dX10_row_49 : decode cX10_row 49 = .ok (.dup_x1, 1) := by decide +kernel
theorem dX10_row_50 : decode cX10_row 50 = .ok (.putfield 191, 3) := by decide +kernel
theorem dX10_row_53 : decode cX10_row 53 = .ok (.ireturn, 1) := by decide +kernel
theorem dX10_judge_0 : decode cX10_judge 0 = .ok (.aload_n 0, 1) := by decide +kernel
theorem dX10_judge_1 : decode cX10_judge 1 = .ok (.invokevirtual 144, 3) := by decide +kernel
theorem dX10_judge_4 : decode cX10_judge 4 = .ok (.bipush (-9), 2) := by decide +kernel
theorem dX10_judge_6 : decode cX10_judge 6 = .ok (.istore_n 1, 1) := by decide +kernel
theorem dX10_judge_7 : decode cX10_judge 7 = .ok (.iconst 0, 1) := by decide +kernel
theorem dX10_judge_8 : decode cX10_judge 8 = .ok (.istore_n 2, 1) := by decide +kernel
theorem dX10_judge_9 : decode cX10_judge 9 = .ok (.iload_n 2, 1) := by decide +kernel
theorem dX10_judge_10 : decode cX10_judge 10 = .ok (.aload_n 0, 1) := by decide +kernel
theorem dX10_judge_11 : decode cX10_judge 11 = .ok (.getfield 65, 3) := by decide +kernel
theorem dX10_judge_14 : decode cX10_judge 14 = .ok (.if_icmp .ge 37, 3) := by decide +kernel
theorem dX10_judge_17 : decode cX10_judge 17 = .ok (.iload_n 2, 1) := by decide +kernel
theorem dX10_judge_18 : decode cX10_judge 18 = .ok (.aload_n 0, 1) := by decide +kernel
theorem dX10_judge_19 : decode cX10_judge 19 = .ok (.getfield 191, 3) := by decide +kernel
theorem dX10_judge_22 : decode cX10_judge 22 = .ok (.if_icmp .ge 29, 3) := by decide +kernel
theorem dX10_judge_25 : decode cX10_judge 25 = .ok (.iload_n 1, 1) := by decide +kernel
theorem dX10_judge_26 : decode cX10_judge 26 = .ok (.ifCond .ge 25, 3) := by decide +kernel
theorem dX10_judge_29 : decode cX10_judge 29 = .ok (.aload_n 0, 1) := by decide +kernel
theorem dX10_judge_30 : decode cX10_judge 30 = .ok (.getfield 40, 3) := by decide +kernel
theorem dX10_judge_33 : decode cX10_judge 33 = .ok (.iload_n 2, 1) := by decide +kernel
theorem dX10_judge_34 : decode cX10_judge 34 = .ok (.iaload, 1) := by decide +kernel
theorem dX10_judge_35 : decode cX10_judge 35 = .ok (.aload_n 0, 1) := by decide +kernel
theorem dX10_judge_36 : decode cX10_judge 36 = .ok (.iload_n 2, 1) := by decide +kernel
theorem dX10_judge_37 : decode cX10_judge 37 = .ok (.invokevirtual 147, 3) := by decide +kernel
theorem dX10_judge_40 : decode cX10_judge 40 = .ok (.if_icmp .eq 5, 3) := by decide +kernel
theorem dX10_judge_43 : decode cX10_judge 43 = .ok (.iload_n 2, 1) := by decide +kernel
theorem dX10_judge_44 : decode cX10_judge 44 = .ok (.istore_n 1, 1) := by decide +kernel
theorem dX10_judge_45 : decode cX10_judge 45 = .ok (.iinc 2 1, 3) := by decide +kernel
theorem dX10_judge_48 : decode cX10_judge 48 = .ok (.goto (-39), 3) := by decide +kernel
theorem dX10_judge_51 : decode cX10_judge 51 = .ok (.iload_n 1, 1) := by decide +kernel
theorem dX10_judge_52 : decode cX10_judge 52 = .ok (.ifCond .ge 19, 3) := by decide +kernel
theorem dX10_judge_55 : decode cX10_judge 55 = .ok (.aload_n 0, 1) := by decide +kernel
theorem dX10_judge_56 : decode cX10_judge 56 = .ok (.getfield 191, 3) := by decide +kernel
theorem dX10_judge_59 : decode cX10_judge 59 = .ok (.aload_n 0, 1) := by decide +kernel
theorem dX10_judge_60 : decode cX10_judge 60 = .ok (.getfield 65, 3) := by decide +kernel
theorem dX10_judge_63 : decode cX10_judge 63 = .ok (.if_icmp .ge 8, 3) := by decide +kernel
theorem dX10_judge_66 : decode cX10_judge 66 = .ok (.aload_n 0, 1) := by decide +kernel
theorem dX10_judge_67 : decode cX10_judge 67 = .ok (.getfield 191, 3) := by decide +kernel
theorem dX10_judge_70 : decode cX10_judge 70 = .ok (.istore_n 1, 1) := by decide +kernel
theorem dX10_judge_71 : decode cX10_judge 71 = .ok (.iload_n 1, 1) := by decide +kernel
theorem dX10_judge_72 : decode cX10_judge 72 = .ok (.ifCond .ge 19, 3) := by decide +kernel
theorem dX10_judge_75 : decode cX10_judge 75 = .ok (.aload_n 0, 1) := by decide +kernel
theorem dX10_judge_76 : decode cX10_judge 76 = .ok (.getfield 191, 3) := by decide +kernel
theorem dX10_judge_79 : decode cX10_judge 79 = .ok (.aload_n 0, 1) := by decide +kernel
theorem dX10_judge_80 : decode cX10_judge 80 = .ok (.getfield 65, 3) := by decide +kernel
theorem dX10_judge_83 : decode cX10_judge 83 = .ok (.if_icmp .le 8, 3) := by decide +kernel
theorem dX10_judge_86 : decode cX10_judge 86 = .ok (.aload_n 0, 1) := by decide +kernel
theorem dX10_judge_87 : decode cX10_judge 87 = .ok (.getfield 65, 3) := by decide +kernel
theorem dX10_judge_90 : decode cX10_judge 90 = .ok (.istore_n 1, 1) := by decide +kernel
theorem dX10_judge_91 : decode cX10_judge 91 = .ok (.aload_n 0, 1) := by decide +kernel
theorem dX10_judge_92 : decode cX10_judge 92 = .ok (.iconst 0, 1) := by decide +kernel
theorem dX10_judge_93 : decode cX10_judge 93 = .ok (.putfield 191, 3) := by decide +kernel
theorem dX10_judge_96 : decode cX10_judge 96 = .ok (.iload_n 1, 1) := by decide +kernel
theorem dX10_judge_97 : decode cX10_judge 97 = .ok (.ireturn, 1) := by decide +kernel
theorem dX10_image_0 : decode cX10_image 0 = .ok (.aload_n 0, 1) := by decide +kernel
theorem dX10_image_1 : decode cX10_image 1 = .ok (.iconst 1, 1) := by decide +kernel
theorem dX10_image_2 : decode cX10_image 2 = .ok (.putfield 194, 3) := by decide +kernel
theorem dX10_image_5 : decode cX10_image 5 = .ok (.iconst 0, 1) := by decide +kernel
theorem dX10_image_6 : decode cX10_image 6 = .ok (.istore_n 1, 1) := by decide +kernel
theorem dX10_image_7 : decode cX10_image 7 = .ok (.iload_n 1, 1) := by decide +kernel
theorem dX10_image_8 : decode cX10_image 8 = .ok (.bipush 10, 2) := by decide +kernel
theorem dX10_image_10 : decode cX10_image 10 = .ok (.if_icmp .ge 127, 3) := by decide +kernel
theorem dX10_image_13 : decode cX10_image 13 = .ok (.aload_n 0, 1) := by decide +kernel
theorem dX10_image_14 : decode cX10_image 14 = .ok (.getfield 58, 3) := by decide +kernel
theorem dX10_image_17 : decode cX10_image 17 = .ok (.bipush 7, 2) := by decide +kernel
theorem dX10_image_19 : decode cX10_image 19 = .ok (.iload_n 1, 1) := by decide +kernel
theorem dX10_image_20 : decode cX10_image 20 = .ok (.imul, 1) := by decide +kernel
theorem dX10_image_21 : decode cX10_image 21 = .ok (.aload_n 0, 1) := by decide +kernel
theorem dX10_image_22 : decode cX10_image 22 = .ok (.getfield 13, 3) := by decide +kernel
theorem dX10_image_25 : decode cX10_image 25 = .ok (.iload_n 1, 1) := by decide +kernel
theorem dX10_image_26 : decode cX10_image 26 = .ok (.iaload, 1) := by decide +kernel
theorem dX10_image_27 : decode cX10_image 27 = .ok (.iastore, 1) := by decide +kernel
theorem dX10_image_28 : decode cX10_image 28 = .ok (.aload_n 0, 1) := by decide +kernel
theorem dX10_image_29 : decode cX10_image 29 = .ok (.getfield 58, 3) := by decide +kernel
theorem dX10_image_32 : decode cX10_image 32 = .ok (.bipush 7, 2) := by decide +kernel
theorem dX10_image_34 : decode cX10_image 34 = .ok (.iload_n 1, 1) := by decide +kernel
theorem dX10_image_35 : decode cX10_image 35 = .ok (.imul, 1) := by decide +kernel
theorem dX10_image_36 : decode cX10_image 36 = .ok (.iconst 1, 1) := by decide +kernel
theorem dX10_image_37 : decode cX10_image 37 = .ok (.iadd, 1) := by decide +kernel
theorem dX10_image_38 : decode cX10_image 38 = .ok (.aload_n 0, 1) := by decide +kernel
theorem dX10_image_39 : decode cX10_image 39 = .ok (.getfield 16, 3) := by decide +kernel
theorem dX10_image_42 : decode cX10_image 42 = .ok (.iload_n 1, 1) := by decide +kernel
theorem dX10_image_43 : decode cX10_image 43 = .ok (.iaload, 1) := by decide +kernel
theorem dX10_image_44 : decode cX10_image 44 = .ok (.iastore, 1) := by decide +kernel
theorem dX10_image_45 : decode cX10_image 45 = .ok (.aload_n 0, 1) := by decide +kernel
theorem dX10_image_46 : decode cX10_image 46 = .ok (.getfield 58, 3) := by decide +kernel
theorem dX10_image_49 : decode cX10_image 49 = .ok (.bipush 7, 2) := by decide +kernel
theorem dX10_image_51 : decode cX10_image 51 = .ok (.iload_n 1, 1) := by decide +kernel
theorem dX10_image_52 : decode cX10_image 52 = .ok (.imul, 1) := by decide +kernel
theorem dX10_image_53 : decode cX10_image 53 = .ok (.iconst 2, 1) := by decide +kernel
theorem dX10_image_54 : decode cX10_image 54 = .ok (.iadd, 1) := by decide +kernel
theorem dX10_image_55 : decode cX10_image 55 = .ok (.aload_n 0, 1) := by decide +kernel
theorem dX10_image_56 : decode cX10_image 56 = .ok (.getfield 19, 3) := by decide +kernel
theorem dX10_image_59 : decode cX10_image 59 = .ok (.iload_n 1, 1) := by decide +kernel
theorem dX10_image_60 : decode cX10_image 60 = .ok (.iaload, 1) := by decide +kernel
theorem dX10_image_61 : decode cX10_image 61 = .ok (.iastore, 1) := by decide +kernel
theorem dX10_image_62 : decode cX10_image 62 = .ok (.aload_n 0, 1) := by decide +kernel
theorem dX10_image_63 : decode cX10_image 63 = .ok (.getfield 58, 3) := by decide +kernel
theorem dX10_image_66 : decode cX10_image 66 = .ok (.bipush 7, 2) := by decide +kernel
theorem dX10_image_68 : decode cX10_image 68 = .ok (.iload_n 1, 1) := by decide +kernel
theorem dX10_image_69 : decode cX10_image 69 = .ok (.imul, 1) := by decide +kernel
theorem dX10_image_70 : decode cX10_image 70 = .ok (.iconst 3, 1) := by decide +kernel
theorem dX10_image_71 : decode cX10_image 71 = .ok (.iadd, 1) := by decide +kernel
theorem dX10_image_72 : decode cX10_image 72 = .ok (.aload_n 0, 1) := by decide +kernel
theorem dX10_image_73 : decode cX10_image 73 = .ok (.getfield 22, 3) := by decide +kernel
theorem dX10_image_76 : decode cX10_image 76 = .ok (.iload_n 1, 1) := by decide +kernel
theorem dX10_image_77 : decode cX10_image 77 = .ok (.iaload, 1) := by decide +kernel
theorem dX10_image_78 : decode cX10_image 78 = .ok (.iastore, 1) := by decide +kernel
theorem dX10_image_79 : decode cX10_image 79 = .ok (.aload_n 0, 1) := by decide +kernel
theorem dX10_image_80 : decode cX10_image 80 = .ok (.getfield 58, 3) := by decide +kernel
theorem dX10_image_83 : decode cX10_image 83 = .ok (.bipush 7, 2) := by decide +kernel
theorem dX10_image_85 : decode cX10_image 85 = .ok (.iload_n 1, 1) := by decide +kernel
theorem dX10_image_86 : decode cX10_image 86 = .ok (.imul, 1) := by decide +kernel
theorem dX10_image_87 : decode cX10_image 87 = .ok (.iconst 4, 1) := by decide +kernel
theorem dX10_image_88 : decode cX10_image 88 = .ok (.iadd, 1) := by decide +kernel
theorem dX10_image_89 : decode cX10_image 89 = .ok (.aload_n 0, 1) := by decide +kernel
theorem dX10_image_90 : decode cX10_image 90 = .ok (.getfield 25, 3) := by decide +kernel
theorem dX10_image_93 : decode cX10_image 93 = .ok (.iload_n 1, 1) := by decide +kernel
theorem dX10_image_94 : decode cX10_image 94 = .ok (.iaload, 1) := by decide +kernel
theorem dX10_image_95 : decode cX10_image 95 = .ok (.iastore, 1) := by decide +kernel
theorem dX10_image_96 : decode cX10_image 96 = .ok (.aload_n 0, 1) := by decide +kernel
theorem dX10_image_97 : decode cX10_image 97 = .ok (.getfield 58, 3) := by decide +kernel
theorem dX10_image_100 : decode cX10_image 100 = .ok (.bipush 7, 2) := by decide +kernel
theorem dX10_image_102 : decode cX10_image 102 = .ok (.iload_n 1, 1) := by decide +kernel
theorem dX10_image_103 : decode cX10_image 103 = .ok (.imul, 1) := by decide +kernel
theorem dX10_image_104 : decode cX10_image 104 = .ok (.iconst 5, 1) := by decide +kernel
theorem dX10_image_105 : decode cX10_image 105 = .ok (.iadd, 1) := by decide +kernel
theorem dX10_image_106 : decode cX10_image 106 = .ok (.aload_n 0, 1) := by decide +kernel
theorem dX10_image_107 : decode cX10_image 107 = .ok (.getfield 28, 3) := by decide +kernel
theorem dX10_image_110 : decode cX10_image 110 = .ok (.iload_n 1, 1) := by decide +kernel
theorem dX10_image_111 : decode cX10_image 111 = .ok (.iaload, 1) := by decide +kernel
theorem dX10_image_112 : decode cX10_image 112 = .ok (.iastore, 1) := by decide +kernel
theorem dX10_image_113 : decode cX10_image 113 = .ok (.aload_n 0, 1) := by decide +kernel
theorem dX10_image_114 : decode cX10_image 114 = .ok (.getfield 58, 3) := by decide +kernel
theorem dX10_image_117 : decode cX10_image 117 = .ok (.bipush 7, 2) := by decide +kernel
theorem dX10_image_119 : decode cX10_image 119 = .ok (.iload_n 1, 1) := by decide +kernel
theorem dX10_image_120 : decode cX10_image 120 = .ok (.imul, 1) := by decide +kernel
theorem dX10_image_121 : decode cX10_image 121 = .ok (.bipush 6, 2) := by decide +kernel
theorem dX10_image_123 : decode cX10_image 123 = .ok (.iadd, 1) := by decide +kernel
theorem dX10_image_124 : decode cX10_image 124 = .ok (.aload_n 0, 1) := by decide +kernel
theorem dX10_image_125 : decode cX10_image 125 = .ok (.getfield 31, 3) := by decide +kernel
theorem dX10_image_128 : decode cX10_image 128 = .ok (.iload_n 1, 1) := by decide +kernel
theorem dX10_image_129 : decode cX10_image 129 = .ok (.iaload, 1) := by decide +kernel
theorem dX10_image_130 : decode cX10_image 130 = .ok (.iastore, 1) := by decide +kernel
theorem dX10_image_131 : decode cX10_image 131 = .ok (.iinc 1 1, 3) := by decide +kernel
theorem dX10_image_134 : decode cX10_image 134 = .ok (.goto (-127), 3) := by decide +kernel
theorem dX10_image_137 : decode cX10_image 137 = .ok (.iconst 0, 1) := by decide +kernel
theorem dX10_image_138 : decode cX10_image 138 = .ok (.istore_n 1, 1) := by decide +kernel
theorem dX10_image_139 : decode cX10_image 139 = .ok (.iload_n 1, 1) := by decide +kernel
theorem dX10_image_140 : decode cX10_image 140 = .ok (.bipush 12, 2) := by decide +kernel
theorem dX10_image_142 : decode cX10_image 142 = .ok (.if_icmp .ge 24, 3) := by decide +kernel
theorem dX10_image_145 : decode cX10_image 145 = .ok (.aload_n 0, 1) := by decide +kernel
theorem dX10_image_146 : decode cX10_image 146 = .ok (.getfield 58, 3) := by decide +kernel
theorem dX10_image_149 : decode cX10_image 149 = .ok (.bipush 70, 2) := by decide +kernel
theorem dX10_image_151 : decode cX10_image 151 = .ok (.iload_n 1, 1) := by decide +kernel
theorem dX10_image_152 : decode cX10_image 152 = .ok (.iadd, 1) := by decide +kernel
theorem dX10_image_153 : decode cX10_image 153 = .ok (.aload_n 0, 1) := by decide +kernel
theorem dX10_image_154 : decode cX10_image 154 = .ok (.getfield 34, 3) := by decide +kernel
theorem dX10_image_157 : decode cX10_image 157 = .ok (.iload_n 1, 1) := by decide +kernel
theorem dX10_image_158 : decode cX10_image 158 = .ok (.iaload, 1) := by decide +kernel
theorem dX10_image_159 : decode cX10_image 159 = .ok (.iastore, 1) := by decide +kernel
theorem dX10_image_160 : decode cX10_image 160 = .ok (.iinc 1 1, 3) := by decide +kernel
theorem dX10_image_163 : decode cX10_image 163 = .ok (.goto (-24), 3) := by decide +kernel
theorem dX10_image_166 : decode cX10_image 166 = .ok (.aload_n 0, 1) := by decide +kernel
theorem dX10_image_167 : decode cX10_image 167 = .ok (.getfield 58, 3) := by decide +kernel
theorem dX10_image_170 : decode cX10_image 170 = .ok (.bipush 82, 2) := by decide +kernel
theorem dX10_image_172 : decode cX10_image 172 = .ok (.aload_n 0, 1) := by decide +kernel
theorem dX10_image_173 : decode cX10_image 173 = .ok (.getfield 61, 3) := by decide +kernel
theorem dX10_image_176 : decode cX10_image 176 = .ok (.iastore, 1) := by decide +kernel
theorem dX10_image_177 : decode cX10_image 177 = .ok (.aload_n 0, 1) := by decide +kernel
theorem dX10_image_178 : decode cX10_image 178 = .ok (.getfield 58, 3) := by decide +kernel
theorem dX10_image_181 : decode cX10_image 181 = .ok (.bipush 83, 2) := by decide +kernel
theorem dX10_image_183 : decode cX10_image 183 = .ok (.aload_n 0, 1) := by decide +kernel
theorem dX10_image_184 : decode cX10_image 184 = .ok (.getfield 65, 3) := by decide +kernel
theorem dX10_image_187 : decode cX10_image 187 = .ok (.iastore, 1) := by decide +kernel
theorem dX10_image_188 : decode cX10_image 188 = .ok (.aload_n 0, 1) := by decide +kernel
theorem dX10_image_189 : decode cX10_image 189 = .ok (.getfield 58, 3) := by decide +kernel
theorem dX10_image_192 : decode cX10_image 192 = .ok (.bipush 84, 2) := by decide +kernel
theorem dX10_image_194 : decode cX10_image 194 = .ok (.aload_n 0, 1) := by decide +kernel
theorem dX10_image_195 : decode cX10_image 195 = .ok (.getfield 113, 3) := by decide +kernel
theorem dX10_image_198 : decode cX10_image 198 = .ok (.iastore, 1) := by decide +kernel
theorem dX10_image_199 : decode cX10_image 199 = .ok (.iconst 0, 1) := by decide +kernel
theorem dX10_image_200 : decode cX10_image 200 = .ok (.istore_n 1, 1) := by decide +kernel
theorem dX10_image_201 : decode cX10_image 201 = .ok (.iload_n 1, 1) := by decide +kernel
theorem dX10_image_202 : decode cX10_image 202 = .ok (.iconst 3, 1) := by decide +kernel
theorem dX10_image_203 : decode cX10_image 203 = .ok (.if_icmp .ge 24, 3) := by decide +kernel
theorem dX10_image_206 : decode cX10_image 206 = .ok (.aload_n 0, 1) := by decide +kernel
theorem dX10_image_207 : decode cX10_image 207 = .ok (.getfield 58, 3) := by decide +kernel
theorem dX10_image_210 : decode cX10_image 210 = .ok (.bipush 85, 2) := by decide +kernel
theorem dX10_image_212 : decode cX10_image 212 = .ok (.iload_n 1, 1) := by decide +kernel
theorem dX10_image_213 : decode cX10_image 213 = .ok (.iadd, 1) := by decide +kernel
theorem dX10_image_214 : decode cX10_image 214 = .ok (.aload_n 0, 1) := by decide +kernel
theorem dX10_image_215 : decode cX10_image 215 = .ok (.getfield 37, 3) := by decide +kernel
theorem dX10_image_218 : decode cX10_image 218 = .ok (.iload_n 1, 1) := by decide +kernel
theorem dX10_image_219 : decode cX10_image 219 = .ok (.iaload, 1) := by decide +kernel
theorem dX10_image_220 : decode cX10_image 220 = .ok (.iastore, 1) := by decide +kernel
theorem dX10_image_221 : decode cX10_image 221 = .ok (.iinc 1 1, 3) := by decide +kernel
theorem dX10_image_224 : decode cX10_image 224 = .ok (.goto (-23), 3) := by decide +kernel
theorem dX10_image_227 : decode cX10_image 227 = .ok (.aload_n 0, 1) := by decide +kernel
theorem dX10_image_228 : decode cX10_image 228 = .ok (.getfield 58, 3) := by decide +kernel
theorem dX10_image_231 : decode cX10_image 231 = .ok (.bipush 88, 2) := by decide +kernel
theorem dX10_image_233 : decode cX10_image 233 = .ok (.aload_n 0, 1) := by decide +kernel
theorem dX10_image_234 : decode cX10_image 234 = .ok (.getfield 125, 3) := by decide +kernel
theorem dX10_image_237 : decode cX10_image 237 = .ok (.iastore, 1) := by decide +kernel
theorem dX10_image_238 : decode cX10_image 238 = .ok (.aload_n 0, 1) := by decide +kernel
theorem dX10_image_239 : decode cX10_image 239 = .ok (.getfield 65, 3) := by decide +kernel
theorem dX10_image_242 : decode cX10_image 242 = .ok (.ireturn, 1) := by decide +kernel
theorem dX10_on_0 : decode cX10_on 0 = .ok (.aload_n 0, 1) := by decide +kernel
theorem dX10_on_1 : decode cX10_on 1 = .ok (.getfield 194, 3) := by decide +kernel
theorem dX10_on_4 : decode cX10_on 4 = .ok (.ifCond .ne 10, 3) := by decide +kernel
theorem dX10_on_7 : decode cX10_on 7 = .ok (.aload_n 0, 1) := by decide +kernel
theorem dX10_on_8 : decode cX10_on 8 = .ok (.bipush (-3), 2) := by decide +kernel
theorem dX10_on_10 : decode cX10_on 10 = .ok (.invokevirtual 68, 3) := by decide +kernel
theorem dX10_on_13 : decode cX10_on 13 = .ok (.ireturn, 1) := by decide +kernel
theorem dX10_on_14 : decode cX10_on 14 = .ok (.iconst 0, 1) := by decide +kernel
theorem dX10_on_15 : decode cX10_on 15 = .ok (.istore_n 1, 1) := by decide +kernel
theorem dX10_on_16 : decode cX10_on 16 = .ok (.iload_n 1, 1) := by decide +kernel
theorem dX10_on_17 : decode cX10_on 17 = .ok (.bipush 10, 2) := by decide +kernel
theorem dX10_on_19 : decode cX10_on 19 = .ok (.if_icmp .ge 127, 3) := by decide +kernel
theorem dX10_on_22 : decode cX10_on 22 = .ok (.aload_n 0, 1) := by decide +kernel
theorem dX10_on_23 : decode cX10_on 23 = .ok (.getfield 13, 3) := by decide +kernel
theorem dX10_on_26 : decode cX10_on 26 = .ok (.iload_n 1, 1) := by decide +kernel
theorem dX10_on_27 : decode cX10_on 27 = .ok (.aload_n 0, 1) := by decide +kernel
theorem dX10_on_28 : decode cX10_on 28 = .ok (.getfield 58, 3) := by decide +kernel
theorem dX10_on_31 : decode cX10_on 31 = .ok (.bipush 7, 2) := by decide +kernel
theorem dX10_on_33 : decode cX10_on 33 = .ok (.iload_n 1, 1) := by decide +kernel
theorem dX10_on_34 : decode cX10_on 34 = .ok (.imul, 1) := by decide +kernel
theorem dX10_on_35 : decode cX10_on 35 = .ok (.iaload, 1) := by decide +kernel
theorem dX10_on_36 : decode cX10_on 36 = .ok (.iastore, 1) := by decide +kernel
theorem dX10_on_37 : decode cX10_on 37 = .ok (.aload_n 0, 1) := by decide +kernel
theorem dX10_on_38 : decode cX10_on 38 = .ok (.getfield 16, 3) := by decide +kernel
theorem dX10_on_41 : decode cX10_on 41 = .ok (.iload_n 1, 1) := by decide +kernel
theorem dX10_on_42 : decode cX10_on 42 = .ok (.aload_n 0, 1) := by decide +kernel
theorem dX10_on_43 : decode cX10_on 43 = .ok (.getfield 58, 3) := by decide +kernel
theorem dX10_on_46 : decode cX10_on 46 = .ok (.bipush 7, 2) := by decide +kernel
theorem dX10_on_48 : decode cX10_on 48 = .ok (.iload_n 1, 1) := by decide +kernel
theorem dX10_on_49 : decode cX10_on 49 = .ok (.imul, 1) := by decide +kernel
theorem dX10_on_50 : decode cX10_on 50 = .ok (.iconst 1, 1) := by decide +kernel
theorem dX10_on_51 : decode cX10_on 51 = .ok (.iadd, 1) := by decide +kernel
theorem dX10_on_52 : decode cX10_on 52 = .ok (.iaload, 1) := by decide +kernel
theorem dX10_on_53 : decode cX10_on 53 = .ok (.iastore, 1) := by decide +kernel
theorem dX10_on_54 : decode cX10_on 54 = .ok (.aload_n 0, 1) := by decide +kernel
theorem dX10_on_55 : decode cX10_on 55 = .ok (.getfield 19, 3) := by decide +kernel
theorem dX10_on_58 : decode cX10_on 58 = .ok (.iload_n 1, 1) := by decide +kernel
theorem dX10_on_59 : decode cX10_on 59 = .ok (.aload_n 0, 1) := by decide +kernel
theorem dX10_on_60 : decode cX10_on 60 = .ok (.getfield 58, 3) := by decide +kernel
theorem dX10_on_63 : decode cX10_on 63 = .ok (.bipush 7, 2) := by decide +kernel
theorem dX10_on_65 : decode cX10_on 65 = .ok (.iload_n 1, 1) := by decide +kernel
theorem dX10_on_66 : decode cX10_on 66 = .ok (.imul, 1) := by decide +kernel
theorem dX10_on_67 : decode cX10_on 67 = .ok (.iconst 2, 1) := by decide +kernel
theorem dX10_on_68 : decode cX10_on 68 = .ok (.iadd, 1) := by decide +kernel
theorem dX10_on_69 : decode cX10_on 69 = .ok (.iaload, 1) := by decide +kernel
theorem dX10_on_70 : decode cX10_on 70 = .ok (.iastore, 1) := by decide +kernel
theorem dX10_on_71 : decode cX10_on 71 = .ok (.aload_n 0, 1) := by decide +kernel
theorem dX10_on_72 : decode cX10_on 72 = .ok (.getfield 22, 3) := by decide +kernel
theorem dX10_on_75 : decode cX10_on 75 = .ok (.iload_n 1, 1) := by decide +kernel
theorem dX10_on_76 : decode cX10_on 76 = .ok (.aload_n 0, 1) := by decide +kernel
theorem dX10_on_77 : decode cX10_on 77 = .ok (.getfield 58, 3) := by decide +kernel
theorem dX10_on_80 : decode cX10_on 80 = .ok (.bipush 7, 2) := by decide +kernel
theorem dX10_on_82 : decode cX10_on 82 = .ok (.iload_n 1, 1) := by decide +kernel
theorem dX10_on_83 : decode cX10_on 83 = .ok (.imul, 1) := by decide +kernel
theorem dX10_on_84 : decode cX10_on 84 = .ok (.iconst 3, 1) := by decide +kernel
theorem dX10_on_85 : decode cX10_on 85 = .ok (.iadd, 1) := by decide +kernel
theorem dX10_on_86 : decode cX10_on 86 = .ok (.iaload, 1) := by decide +kernel
theorem dX10_on_87 : decode cX10_on 87 = .ok (.iastore, 1) := by decide +kernel
theorem dX10_on_88 : decode cX10_on 88 = .ok (.aload_n 0, 1) := by decide +kernel
theorem dX10_on_89 : decode cX10_on 89 = .ok (.getfield 25, 3) := by decide +kernel
theorem dX10_on_92 : decode cX10_on 92 = .ok (.iload_n 1, 1) := by decide +kernel
theorem dX10_on_93 : decode cX10_on 93 = .ok (.aload_n 0, 1) := by decide +kernel
theorem dX10_on_94 : decode cX10_on 94 = .ok (.getfield 58, 3) := by decide +kernel
theorem dX10_on_97 : decode cX10_on 97 = .ok (.bipush 7, 2) := by decide +kernel
theorem dX10_on_99 : decode cX10_on 99 = .ok (.iload_n 1, 1) := by decide +kernel
theorem dX10_on_100 : decode cX10_on 100 = .ok (.imul, 1) := by decide +kernel
theorem dX10_on_101 : decode cX10_on 101 = .ok (.iconst 4, 1) := by decide +kernel
theorem dX10_on_102 : decode cX10_on 102 = .ok (.iadd, 1) := by decide +kernel
theorem dX10_on_103 : decode cX10_on 103 = .ok (.iaload, 1) := by decide +kernel
theorem dX10_on_104 : decode cX10_on 104 = .ok (.iastore, 1) := by decide +kernel
theorem dX10_on_105 : decode cX10_on 105 = .ok (.aload_n 0, 1) := by decide +kernel
theorem dX10_on_106 : decode cX10_on 106 = .ok (.getfield 28, 3) := by decide +kernel
theorem dX10_on_109 : decode cX10_on 109 = .ok (.iload_n 1, 1) := by decide +kernel
theorem dX10_on_110 : decode cX10_on 110 = .ok (.aload_n 0, 1) := by decide +kernel
theorem dX10_on_111 : decode cX10_on 111 = .ok (.getfield 58, 3) := by decide +kernel
theorem dX10_on_114 : decode cX10_on 114 = .ok (.bipush 7, 2) := by decide +kernel
theorem dX10_on_116 : decode cX10_on 116 = .ok (.iload_n 1, 1) := by decide +kernel
theorem dX10_on_117 : decode cX10_on 117 = .ok (.imul, 1) := by decide +kernel
theorem dX10_on_118 : decode cX10_on 118 = .ok (.iconst 5, 1) := by decide +kernel
theorem dX10_on_119 : decode cX10_on 119 = .ok (.iadd, 1) := by decide +kernel
theorem dX10_on_120 : decode cX10_on 120 = .ok (.iaload, 1) := by decide +kernel
theorem dX10_on_121 : decode cX10_on 121 = .ok (.iastore, 1) := by decide +kernel
theorem dX10_on_122 : decode cX10_on 122 = .ok (.aload_n 0, 1) := by decide +kernel
theorem dX10_on_123 : decode cX10_on 123 = .ok (.getfield 31, 3) := by decide +kernel
theorem dX10_on_126 : decode cX10_on 126 = .ok (.iload_n 1, 1) := by decide +kernel
theorem dX10_on_127 : decode cX10_on 127 = .ok (.aload_n 0, 1) := by decide +kernel
theorem dX10_on_128 : decode cX10_on 128 = .ok (.getfield 58, 3) := by decide +kernel
theorem dX10_on_131 : decode cX10_on 131 = .ok (.bipush 7, 2) := by decide +kernel
theorem dX10_on_133 : decode cX10_on 133 = .ok (.iload_n 1, 1) := by decide +kernel
theorem dX10_on_134 : decode cX10_on 134 = .ok (.imul, 1) := by decide +kernel
theorem dX10_on_135 : decode cX10_on 135 = .ok (.bipush 6, 2) := by decide +kernel
theorem dX10_on_137 : decode cX10_on 137 = .ok (.iadd, 1) := by decide +kernel
theorem dX10_on_138 : decode cX10_on 138 = .ok (.iaload, 1) := by decide +kernel
theorem dX10_on_139 : decode cX10_on 139 = .ok (.iastore, 1) := by decide +kernel
theorem dX10_on_140 : decode cX10_on 140 = .ok (.iinc 1 1, 3) := by decide +kernel
theorem dX10_on_143 : decode cX10_on 143 = .ok (.goto (-127), 3) := by decide +kernel
theorem dX10_on_146 : decode cX10_on 146 = .ok (.iconst 0, 1) := by decide +kernel
theorem dX10_on_147 : decode cX10_on 147 = .ok (.istore_n 1, 1) := by decide +kernel
theorem dX10_on_148 : decode cX10_on 148 = .ok (.iload_n 1, 1) := by decide +kernel
theorem dX10_on_149 : decode cX10_on 149 = .ok (.bipush 12, 2) := by decide +kernel
theorem dX10_on_151 : decode cX10_on 151 = .ok (.if_icmp .ge 24, 3) := by decide +kernel
theorem dX10_on_154 : decode cX10_on 154 = .ok (.aload_n 0, 1) := by decide +kernel
theorem dX10_on_155 : decode cX10_on 155 = .ok (.getfield 34, 3) := by decide +kernel
theorem dX10_on_158 : decode cX10_on 158 = .ok (.iload_n 1, 1) := by decide +kernel
theorem dX10_on_159 : decode cX10_on 159 = .ok (.aload_n 0, 1) := by decide +kernel
theorem dX10_on_160 : decode cX10_on 160 = .ok (.getfield 58, 3) := by decide +kernel
theorem dX10_on_163 : decode cX10_on 163 = .ok (.bipush 70, 2) := by decide +kernel
theorem dX10_on_165 : decode cX10_on 165 = .ok (.iload_n 1, 1) := by decide +kernel
theorem dX10_on_166 : decode cX10_on 166 = .ok (.iadd, 1) := by decide +kernel
theorem dX10_on_167 : decode cX10_on 167 = .ok (.iaload, 1) := by decide +kernel
theorem dX10_on_168 : decode cX10_on 168 = .ok (.iastore, 1) := by decide +kernel
theorem dX10_on_169 : decode cX10_on 169 = .ok (.iinc 1 1, 3) := by decide +kernel
theorem dX10_on_172 : decode cX10_on 172 = .ok (.goto (-24), 3) := by decide +kernel
theorem dX10_on_175 : decode cX10_on 175 = .ok (.aload_n 0, 1) := by decide +kernel
theorem dX10_on_176 : decode cX10_on 176 = .ok (.aload_n 0, 1) := by decide +kernel
theorem dX10_on_177 : decode cX10_on 177 = .ok (.getfield 58, 3) := by decide +kernel
theorem dX10_on_180 : decode cX10_on 180 = .ok (.bipush 82, 2) := by decide +kernel
theorem dX10_on_182 : decode cX10_on 182 = .ok (.iaload, 1) := by decide +kernel
theorem dX10_on_183 : decode cX10_on 183 = .ok (.putfield 61, 3) := by decide +kernel
theorem dX10_on_186 : decode cX10_on 186 = .ok (.aload_n 0, 1) := by decide +kernel
theorem dX10_on_187 : decode cX10_on 187 = .ok (.aload_n 0, 1) := by decide +kernel
theorem dX10_on_188 : decode cX10_on 188 = .ok (.getfield 58, 3) := by decide +kernel
theorem dX10_on_191 : decode cX10_on 191 = .ok (.bipush 83, 2) := by decide +kernel
theorem dX10_on_193 : decode cX10_on 193 = .ok (.iaload, 1) := by decide +kernel
theorem dX10_on_194 : decode cX10_on 194 = .ok (.putfield 65, 3) := by decide +kernel
theorem dX10_on_197 : decode cX10_on 197 = .ok (.aload_n 0, 1) := by decide +kernel
theorem dX10_on_198 : decode cX10_on 198 = .ok (.aload_n 0, 1) := by decide +kernel
theorem dX10_on_199 : decode cX10_on 199 = .ok (.getfield 58, 3) := by decide +kernel
theorem dX10_on_202 : decode cX10_on 202 = .ok (.bipush 84, 2) := by decide +kernel
theorem dX10_on_204 : decode cX10_on 204 = .ok (.iaload, 1) := by decide +kernel
theorem dX10_on_205 : decode cX10_on 205 = .ok (.putfield 113, 3) := by decide +kernel
theorem dX10_on_208 : decode cX10_on 208 = .ok (.iconst 0, 1) := by decide +kernel
theorem dX10_on_209 : decode cX10_on 209 = .ok (.istore_n 1, 1) := by decide +kernel
theorem dX10_on_210 : decode cX10_on 210 = .ok (.iload_n 1, 1) := by decide +kernel
theorem dX10_on_211 : decode cX10_on 211 = .ok (.iconst 3, 1) := by decide +kernel
theorem dX10_on_212 : decode cX10_on 212 = .ok (.if_icmp .ge 24, 3) := by decide +kernel
theorem dX10_on_215 : decode cX10_on 215 = .ok (.aload_n 0, 1) := by decide +kernel
theorem dX10_on_216 : decode cX10_on 216 = .ok (.getfield 37, 3) := by decide +kernel
theorem dX10_on_219 : decode cX10_on 219 = .ok (.iload_n 1, 1) := by decide +kernel
theorem dX10_on_220 : decode cX10_on 220 = .ok (.aload_n 0, 1) := by decide +kernel
theorem dX10_on_221 : decode cX10_on 221 = .ok (.getfield 58, 3) := by decide +kernel
theorem dX10_on_224 : decode cX10_on 224 = .ok (.bipush 85, 2) := by decide +kernel
theorem dX10_on_226 : decode cX10_on 226 = .ok (.iload_n 1, 1) := by decide +kernel
theorem dX10_on_227 : decode cX10_on 227 = .ok (.iadd, 1) := by decide +kernel
theorem dX10_on_228 : decode cX10_on 228 = .ok (.iaload, 1) := by decide +kernel
theorem dX10_on_229 : decode cX10_on 229 = .ok (.iastore, 1) := by decide +kernel
theorem dX10_on_230 : decode cX10_on 230 = .ok (.iinc 1 1, 3) := by decide +kernel
theorem dX10_on_233 : decode cX10_on 233 = .ok (.goto (-23), 3) := by decide +kernel
theorem dX10_on_236 : decode cX10_on 236 = .ok (.aload_n 0, 1) := by decide +kernel
theorem dX10_on_237 : decode cX10_on 237 = .ok (.aload_n 0, 1) := by decide +kernel
theorem dX10_on_238 : decode cX10_on 238 = .ok (.getfield 58, 3) := by decide +kernel
theorem dX10_on_241 : decode cX10_on 241 = .ok (.bipush 88, 2) := by decide +kernel
theorem dX10_on_243 : decode cX10_on 243 = .ok (.iaload, 1) := by decide +kernel
theorem dX10_on_244 : decode cX10_on 244 = .ok (.putfield 125, 3) := by decide +kernel
theorem dX10_on_247 : decode cX10_on 247 = .ok (.aload_n 0, 1) := by decide +kernel
theorem dX10_on_248 : decode cX10_on 248 = .ok (.getfield 65, 3) := by decide +kernel
theorem dX10_on_251 : decode cX10_on 251 = .ok (.ireturn, 1) := by decide +kernel
theorem dX10_count_0 : decode cX10_count 0 = .ok (.iconst 0, 1) := by decide +kernel
theorem dX10_count_1 : decode cX10_count 1 = .ok (.istore_n 2, 1) := by decide +kernel
theorem dX10_count_2 : decode cX10_count 2 = .ok (.iload_n 1, 1) := by decide +kernel
theorem dX10_count_3 : decode cX10_count 3 = .ok (.tableswitch 122 0 6 #[41, 46, 51, 80, 85, 112, 117], 41) := by decide +kernel
theorem dX10_count_44 : decode cX10_count 44 = .ok (.aload_n 0, 1) := by decide +kernel
theorem dX10_count_45 : decode cX10_count 45 = .ok (.getfield 61, 3) := by decide +kernel
theorem dX10_count_48 : decode cX10_count 48 = .ok (.ireturn, 1) := by decide +kernel
theorem dX10_count_49 : decode cX10_count 49 = .ok (.aload_n 0, 1) := by decide +kernel
theorem dX10_count_50 : decode cX10_count 50 = .ok (.getfield 65, 3) := by decide +kernel
theorem dX10_count_53 : decode cX10_count 53 = .ok (.ireturn, 1) := by decide +kernel
theorem dX10_count_54 : decode cX10_count 54 = .ok (.iconst 0, 1) := by decide +kernel
theorem dX10_count_55 : decode cX10_count 55 = .ok (.istore_n 3, 1) := by decide +kernel
theorem dX10_count_56 : decode cX10_count 56 = .ok (.iload_n 3, 1) := by decide +kernel
theorem dX10_count_57 : decode cX10_count 57 = .ok (.aload_n 0, 1) := by decide +kernel
theorem dX10_count_58 : decode cX10_count 58 = .ok (.getfield 65, 3) := by decide +kernel
theorem dX10_count_61 : decode cX10_count 61 = .ok (.if_icmp .ge 20, 3) := by decide +kernel
theorem dX10_count_64 : decode cX10_count 64 = .ok (.aload_n 0, 1) := by decide +kernel
theorem dX10_count_65 : decode cX10_count 65 = .ok (.iload_n 3, 1) := by decide +kernel
theorem dX10_count_66 : decode cX10_count 66 = .ok (.invokevirtual 129, 3) := by decide +kernel
theorem dX10_count_69 : decode cX10_count 69 = .ok (.ifCond .eq 6, 3) := by decide +kernel
theorem dX10_count_72 : decode cX10_count 72 = .ok (.iinc 2 1, 3) := by decide +kernel
theorem dX10_count_75 : decode cX10_count 75 = .ok (.iinc 3 1, 3) := by decide +kernel
theorem dX10_count_78 : decode cX10_count 78 = .ok (.goto (-22), 3) := by decide +kernel
theorem dX10_count_81 : decode cX10_count 81 = .ok (.iload_n 2, 1) := by decide +kernel
theorem dX10_count_82 : decode cX10_count 82 = .ok (.ireturn, 1) := by decide +kernel
theorem dX10_count_83 : decode cX10_count 83 = .ok (.aload_n 0, 1) := by decide +kernel
theorem dX10_count_84 : decode cX10_count 84 = .ok (.getfield 113, 3) := by decide +kernel
theorem dX10_count_87 : decode cX10_count 87 = .ok (.ireturn, 1) := by decide +kernel
theorem dX10_count_88 : decode cX10_count 88 = .ok (.iconst 0, 1) := by decide +kernel
theorem dX10_count_89 : decode cX10_count 89 = .ok (.istore_n 3, 1) := by decide +kernel
theorem dX10_count_90 : decode cX10_count 90 = .ok (.iload_n 3, 1) := by decide +kernel
theorem dX10_count_91 : decode cX10_count 91 = .ok (.aload_n 0, 1) := by decide +kernel
theorem dX10_count_92 : decode cX10_count 92 = .ok (.getfield 65, 3) := by decide +kernel
theorem dX10_count_95 : decode cX10_count 95 = .ok (.if_icmp .ge 18, 3) := by decide +kernel
theorem dX10_count_98 : decode cX10_count 98 = .ok (.iload_n 2, 1) := by decide +kernel
theorem dX10_count_99 : decode cX10_count 99 = .ok (.aload_n 0, 1) := by decide +kernel
theorem dX10_count_100 : decode cX10_count 100 = .ok (.getfield 22, 3) := by decide +kernel
theorem dX10_count_103 : decode cX10_count 103 = .ok (.iload_n 3, 1) := by decide +kernel
theorem dX10_count_104 : decode cX10_count 104 = .ok (.iaload, 1) := by decide +kernel
theorem dX10_count_105 : decode cX10_count 105 = .ok (.iadd, 1) := by decide +kernel
theorem dX10_count_106 : decode cX10_count 106 = .ok (.istore_n 2, 1) := by decide +kernel
theorem dX10_count_107 : decode cX10_count 107 = .ok (.iinc 3 1, 3) := by decide +kernel
theorem dX10_count_110 : decode cX10_count 110 = .ok (.goto (-20), 3) := by decide +kernel
theorem dX10_count_113 : decode cX10_count 113 = .ok (.iload_n 2, 1) := by decide +kernel
theorem dX10_count_114 : decode cX10_count 114 = .ok (.ireturn, 1) := by decide +kernel
theorem dX10_count_115 : decode cX10_count 115 = .ok (.aload_n 0, 1) := by decide +kernel
theorem dX10_count_116 : decode cX10_count 116 = .ok (.getfield 191, 3) := by decide +kernel
theorem dX10_count_119 : decode cX10_count 119 = .ok (.ireturn, 1) := by decide +kernel
theorem dX10_count_120 : decode cX10_count 120 = .ok (.aload_n 0, 1) := by decide +kernel
theorem dX10_count_121 : decode cX10_count 121 = .ok (.getfield 72, 3) := by decide +kernel
theorem dX10_count_124 : decode cX10_count 124 = .ok (.ireturn, 1) := by decide +kernel
theorem dX10_count_125 : decode cX10_count 125 = .ok (.iload_n 1, 1) := by decide +kernel
theorem dX10_count_126 : decode cX10_count 126 = .ok (.bipush 10, 2) := by decide +kernel
theorem dX10_count_128 : decode cX10_count 128 = .ok (.if_icmp .le 21, 3) := by decide +kernel
theorem dX10_count_131 : decode cX10_count 131 = .ok (.iload_n 1, 1) := by decide +kernel
theorem dX10_count_132 : decode cX10_count 132 = .ok (.bipush 17, 2) := by decide +kernel
theorem dX10_count_134 : decode cX10_count 134 = .ok (.if_icmp .ge 15, 3) := by decide +kernel
theorem dX10_count_137 : decode cX10_count 137 = .ok (.aload_n 0, 1) := by decide +kernel
theorem dX10_count_138 : decode cX10_count 138 = .ok (.getfield 43, 3) := by decide +kernel
theorem dX10_count_141 : decode cX10_count 141 = .ok (.iload_n 1, 1) := by decide +kernel
theorem dX10_count_142 : decode cX10_count 142 = .ok (.bipush 10, 2) := by decide +kernel
theorem dX10_count_144 : decode cX10_count 144 = .ok (.isub, 1) := by decide +kernel
theorem dX10_count_145 : decode cX10_count 145 = .ok (.iaload, 1) := by decide +kernel
theorem dX10_count_146 : decode cX10_count 146 = .ok (.goto 5, 3) := by decide +kernel
theorem dX10_count_149 : decode cX10_count 149 = .ok (.bipush (-9), 2) := by decide +kernel
theorem dX10_count_151 : decode cX10_count 151 = .ok (.ireturn, 1) := by decide +kernel
end
section
/-! worlds of one form: places 0, 1, ..; a place is a row of ints of a length, or an object whose fields are ints or references to places; what all places hold is V : place -> number in it -> int -/
def wT : List Cond := lw_tbl.filter goodWord
theorem wT_mem {w : Cond} (i : Nat) (h : lw_tbl[i]? = some w) (hg : goodWord w = true) : w ∈ wT := List.mem_filter.mpr ⟨List.mem_of_getElem? h, hg⟩
theorem wT_good {w : Cond} (h : w ∈ wT) : goodWord w = true := (List.mem_filter.mp h).2
theorem wT_of {args : Array Value} {s : State} (h : ∀ w ∈ lw_tbl, w.before args s = true) : ∀ w ∈ wT, w.before args s = true := fun w hw => h w (List.mem_filter.mp hw).1
def wM (y : MethodName) (cc : ByteArray) (nL : Nat) (ret : Option FieldType) : List Cond := .code y cc nL ret :: wT
theorem wM_in {y : MethodName} {cc : ByteArray} {nL : Nat} {ret : Option FieldType} (h : Cond.code y cc nL ret ∈ wT) : GoodIn wT (wM y cc nL ret) := by
  intro w hw
  rcases List.mem_cons.mp hw with rfl | hw
  · exact ⟨h, good_of_word (wT_good h)⟩
  · exact ⟨hw, good_of_word (wT_good hw)⟩
def rmD (d : Nat) : Room := { frames := d, cells := 0, slots := 0, locals := 32 * d }
abbrev sSh : Type := Nat ⊕ (Nat × List (Option Nat))
abbrev sV : Type := Nat → Nat → Int32
def sFv (a : Nat → Nat) (f : Nat → Int32) : Nat → List (Option Nat) → List Value
  | _, [] => []
  | j, none :: t => .int (f j) :: sFv a f (j + 1) t
  | j, some p :: t => .ref (a p) :: sFv a f (j + 1) t
theorem sFv_len (a : Nat → Nat) (f : Nat → Int32) : ∀ (fs : List (Option Nat)) (j : Nat), (sFv a f j fs).length = fs.length
  | [], _ => rfl
  | none :: t, j => congrArg (· + 1) (sFv_len a f t (j + 1))
  | some _ :: t, j => congrArg (· + 1) (sFv_len a f t (j + 1))
theorem sFv_int (a : Nat → Nat) (f : Nat → Int32) : ∀ (fs : List (Option Nat)) (j k : Nat), fs[k]? = some none → (sFv a f j fs)[k]? = some (.int (f (j + k)))
  | [], _, k, h => by simp at h
  | o :: t, j, 0, h => by
    cases o with
    | none => rfl
    | some p => simp at h
  | o :: t, j, k + 1, h => by
    have h1 := sFv_int a f t (j + 1) k (by simpa using h)
    have e : j + 1 + k = j + (k + 1) := by omega
    rw [e] at h1
    cases o <;> exact h1
theorem sFv_ref (a : Nat → Nat) (f : Nat → Int32) : ∀ (fs : List (Option Nat)) (j k p : Nat), fs[k]? = some (some p) → (sFv a f j fs)[k]? = some (.ref (a p))
  | [], _, k, _, h => by simp at h
  | o :: t, j, 0, p, h => by
    cases o with
    | none => simp at h
    | some q => simp at h; subst h; rfl
  | o :: t, j, k + 1, p, h => by
    have h1 := sFv_ref a f t (j + 1) k p (by simpa using h)
    cases o <;> exact h1
theorem sFv_cong (a : Nat → Nat) (f g : Nat → Int32) : ∀ (fs : List (Option Nat)) (j : Nat), (∀ k, j ≤ k → f k = g k) → sFv a f j fs = sFv a g j fs
  | [], _, _ => rfl
  | none :: t, j, h => by
    show Value.int (f j) :: sFv a f (j + 1) t = Value.int (g j) :: sFv a g (j + 1) t
    rw [h j (Nat.le_refl j), sFv_cong a f g t (j + 1) (fun k hk => h k (by omega))]
  | some p :: t, j, h => by
    show Value.ref (a p) :: sFv a f (j + 1) t = Value.ref (a p) :: sFv a g (j + 1) t
    rw [sFv_cong a f g t (j + 1) (fun k hk => h k (by omega))]
theorem sFv_set (a : Nat → Nat) (f : Nat → Int32) (v : Int32) : ∀ (fs : List (Option Nat)) (j k : Nat), fs[k]? = some none → (sFv a f j fs).set k (.int v) = sFv a (upd f (j + k) v) j fs
  | [], _, k, h => by simp at h
  | o :: t, j, 0, h => by
    cases o with
    | none =>
      show Value.int v :: sFv a f (j + 1) t = Value.int (upd f (j + 0) v j) :: sFv a (upd f (j + 0) v) (j + 1) t
      rw [sFv_cong a f (upd f (j + 0) v) t (j + 1) (fun k hk => by simp only [upd]; rw [if_neg (by omega)])]
      simp [upd]
    | some p => simp at h
  | o :: t, j, k + 1, h => by
    have h1 := sFv_set a f v t (j + 1) k (by simpa using h)
    have e : j + 1 + k = j + (k + 1) := by omega
    rw [e] at h1
    cases o with
    | none =>
      show Value.int (f j) :: (sFv a f (j + 1) t).set k (.int v) = Value.int (upd f (j + (k + 1)) v j) :: sFv a (upd f (j + (k + 1)) v) (j + 1) t
      rw [h1]
      simp only [upd]
      rw [if_neg (by omega)]
    | some p =>
      show Value.ref (a p) :: (sFv a f (j + 1) t).set k (.int v) = Value.ref (a p) :: sFv a (upd f (j + (k + 1)) v) (j + 1) t
      rw [h1]
def sCe (cI : ClassId) (a : Nat → Nat) (sh : sSh) (f : Nat → Int32) : va_E := match sh with
  | .inl n => .inl (cI, n, .inl f)
  | .inr o => .inr (o.1, sFv a f 0 o.2)
def sWd (cI : ClassId) (S : List sSh) (a : Nat → Nat) (V : sV) : va_W := (List.range S.length).map (fun k => (a k, sCe cI a (S.getD k (.inl 0)) (V k)))
def sUp (V : sV) (k : Nat) (f : Nat → Int32) : sV := fun i => if i = k then f else V i
theorem sUp_s (V : sV) (k : Nat) (f : Nat → Int32) : sUp V k f k = f := if_pos rfl
theorem sUp_n (V : sV) {k i : Nat} (f : Nat → Int32) (h : i ≠ k) : sUp V k f i = V i := if_neg h
theorem sWd_len (cI : ClassId) (S : List sSh) (a : Nat → Nat) (V : sV) : (sWd cI S a V).length = S.length := by simp [sWd]
theorem sWd_get {cI : ClassId} {S : List sSh} {a : Nat → Nat} {V : sV} {k : Nat} {sh : sSh} (h : S[k]? = some sh) : (sWd cI S a V)[k]? = some (a k, sCe cI a sh (V k)) := by
  have hk := (List.getElem?_eq_some_iff.mp h).1
  simp [sWd, List.getElem?_map, List.getElem?_range hk, List.getD_eq_getElem?_getD, h]
theorem sWd_inv {cI : ClassId} {S : List sSh} {a : Nat → Nat} {V : sV} {k : Nat} {q : Nat × va_E} (h : (sWd cI S a V)[k]? = some q) : k < S.length ∧ q.1 = a k := by
  have hk := (List.getElem?_eq_some_iff.mp h).1
  rw [sWd_len] at hk
  refine ⟨hk, ?_⟩
  have h2 := sWd_get (cI := cI) (a := a) (V := V) (List.getElem?_eq_getElem hk)
  rw [h2] at h
  cases h
  rfl
theorem sWd_set {cI : ClassId} {S : List sSh} {a : Nat → Nat} {V : sV} {k : Nat} {sh : sSh} {e : va_E} {f : Nat → Int32} (h : S[k]? = some sh) (he : e = sCe cI a sh f) : (sWd cI S a V).set k (a k, e) = sWd cI S a (sUp V k f) := by
  subst he
  apply List.ext_getElem?
  intro i
  by_cases hi : i < S.length
  · have h1 := sWd_get (cI := cI) (a := a) (V := sUp V k f) (List.getElem?_eq_getElem hi)
    rw [h1]
    by_cases hik : i = k
    · subst hik
      rw [List.getElem?_set_self (by rw [sWd_len]; exact hi), sUp_s]
      rw [List.getElem?_eq_getElem hi] at h
      cases h
      rfl
    · rw [List.getElem?_set_ne (Ne.symm hik), sUp_n V f hik]
      exact sWd_get (List.getElem?_eq_getElem hi)
  · rw [List.getElem?_eq_none (by rw [List.length_set, sWd_len]; omega), List.getElem?_eq_none (by rw [sWd_len]; omega)]
def sInj (S : List sSh) (a : Nat → Nat) : Prop := ∀ i j, i < S.length → j < S.length → a i = a j → i = j
def sA (S : List sSh) (a : Nat → Nat) (sz : Nat) : Nat → Prop := fun q => (∃ k, k < S.length ∧ q = a k) ∨ sz ≤ q
theorem sA_D {cI : ClassId} {S : List sSh} {a : Nat → Nat} {V : sV} {sz : Nat} (h : sInj S a) : va_D (sA S a sz) (sWd cI S a V) := by
  refine ⟨fun i j p q hi hj hpq => ?_, fun k q hk => ?_⟩
  · obtain ⟨h1, h2⟩ := sWd_inv hi
    obtain ⟨h3, h4⟩ := sWd_inv hj
    exact h i j h1 h3 (by rw [← h2, ← h4, hpq])
  · obtain ⟨h1, h2⟩ := sWd_inv hk
    exact Or.inl ⟨k, h1, h2⟩
/-- two states agree but for some places -/
def sAg (L : List Nat) (V V' : sV) : Prop := ∀ k, k ∉ L → V' k = V k
theorem sAg.rf {L : List Nat} {V : sV} : sAg L V V := fun _ _ => rfl
theorem sAg.tr {L : List Nat} {V V' V'' : sV} (h : sAg L V V') (h2 : sAg L V' V'') : sAg L V V'' := fun k hk => (h2 k hk).trans (h k hk)
theorem sAg.mono {L L' : List Nat} {V V' : sV} (h : sAg L V V') (hL : ∀ k ∈ L, k ∈ L') : sAg L' V V' := fun k hk => h k (fun z => hk (hL k z))
theorem sAg.up {L : List Nat} {V V' : sV} (h : sAg L V V') {k : Nat} {f : Nat → Int32} (hk : k ∈ L) : sAg L V (sUp V' k f) := fun i hi => (sUp_n V' f (fun z => hi (by rw [z]; exact hk))).trans (h i hi)
/-- a row of length n read and written with a look at the number -/
def rAt (n : Nat) (f : Nat → Int32) (i : Int32) : Int32 := if 0 ≤ i.toInt ∧ i.toInt < n then f i.toNatClampNeg else 0
def rPut (n : Nat) (f : Nat → Int32) (i v : Int32) : Nat → Int32 := if 0 ≤ i.toInt ∧ i.toInt < n then upd f i.toNatClampNeg v else f
/-- what a method's body knows -/
def sCx (p : Program) (s : State) (m : MethodId) (args : Array Value) (meth : Method) (c : Code) (cc : ByteArray) (own : String) (nL : Nat) (ret : Option FieldType) (D : va_G) (cI : ClassId) : Prop :=
  p.tables.exec = Jvm.exec ∧ c.code = cc ∧ c.maxLocals = nL ∧ s.vm.findClass own = some m.cls ∧ (∀ w ∈ wT, w.before args s = true) ∧ meth.locks = false ∧ meth.sig.returnType = ret ∧ va_K D vwCl [(cI, .int)] s
/-- the world at a point of a body -/
def sWS (D : va_G) (cI : ClassId) (S : List sSh) (a : Nat → Nat) (V : sV) (H0 H : Heap) (locs : List Loc) : Prop := sInj S a ∧ va_P D vwCl (sWd cI S a V) H ∧ va_S (sA S a H0.size) H0 H locs
/-- contracts -/
def sPc (D : va_G) (cI : ClassId) (S : List sSh) (a : Nat → Nat) (V : sV) (sz : Nat) (av : List Value) : Array Value → State → Prop := va_Pc av (fun U => U.heap.size = sz ∧ va_P D vwCl (sWd cI S a V) U.heap ∧ va_K D vwCl [(cI, .int)] U)
def sMI (l : Launch) (D : va_G) (cI : ClassId) (S : List sSh) (a : Nat → Nat) (V : sV) (y : MethodName) (cc : ByteArray) (nL : Nat) (ret : FieldType) (d : Nat) (av : List Value) (post : Int32 → sV → Prop) : Prop :=
  ∀ sz : Nat, Met l y (wM y cc nL (some ret)) (rmD d) (sPc D cI S a V sz av) (va_Qi post (fun V' t => va_P D vwCl (sWd cI S a V') t.heap) (sA S a sz)) 0 0 (sA S a sz)
def sMV (l : Launch) (D : va_G) (cI : ClassId) (S : List sSh) (a : Nat → Nat) (V : sV) (y : MethodName) (cc : ByteArray) (nL : Nat) (d : Nat) (av : List Value) (post : sV → Prop) : Prop :=
  ∀ sz : Nat, Met l y (wM y cc nL none) (rmD d) (sPc D cI S a V sz av) (va_Qv post (fun V' t => va_P D vwCl (sWd cI S a V') t.heap) (sA S a sz)) 0 0 (sA S a sz)
def sML (l : Launch) (D : va_G) (cI : ClassId) (S : List sSh) (a : Nat → Nat) (V : sV) (y : MethodName) (cc : ByteArray) (nL : Nat) (d : Nat) (av : List Value) (post : Int64 → sV → Prop) : Prop :=
  ∀ sz : Nat, Met l y (wM y cc nL (some .long)) (rmD d) (sPc D cI S a V sz av) (va_Ql post (fun V' t => va_P D vwCl (sWd cI S a V') t.heap) (sA S a sz)) 0 0 (sA S a sz)
theorem sPc_blind {D : va_G} {cI : ClassId} {S : List sSh} {a : Nat → Nat} {V : sV} {sz : Nat} {av : List Value} : FrameBlind (sPc D cI S a V sz av) := by
  intro x U g mk q
  obtain ⟨q0, q1, qP, qK⟩ := q
  exact ⟨q0, q1, qP, va_K.moved (u := U) (U := U.calling g mk x) (Vm.Alike.refl U.vm) qK⟩
/-- into a body -/
theorem sBody {l : Launch} {y : MethodName} {cc : ByteArray} {nL : Nat} {ret : Option FieldType} {d : Nat} {D : va_G} {cI : ClassId} {S : List sSh} {a : Nat → Nat} {V : sV} {sz : Nat} {av : List Value} {Qc : Array Value → State → Outcome → State → Prop}
    (hi : sInj S a) (hy : plainName y.cls = true) (hav : (lg_sl av).length ≤ nL)
    (body : ∀ (p : Program) (e : Env) (s : State) (m : MethodId) (below : List Frame) (meth : Method) (c : Code) (ls : Array Slot), s.heap.size = sz → sCx p s m av.toArray meth c cc y.cls nL ret D cI → sWS D cI S a V s.heap s.heap [] → lv_has ls nL (lv_args 0 av) →
      W p l e (rmD d) s m av.toArray below meth c s.heap [] 0 0 (MQ below Qc av.toArray s 0 0 (sA S a sz)) (F0 m 0 ls [])) :
    Met l y (wM y cc nL ret) (rmD d) (sPc D cI S a V sz av) Qc 0 0 (sA S a sz) := by
  refine Met.ofW (cc := cc) (maxL := nL) (ret := ret) hy rfl ?_
  intro p e s m args below meth c s₁ B hml hv
  obtain ⟨rfl, hsz, hP, hK⟩ := hv
  have hts := atoms_spec (ws := wM y cc nL ret) B.pre
  rw [lg_entry_eq]
  exact body p e s m below meth c _ hsz ⟨B.exec, B.bytes, hml, findClass_of_methodNamed B.named, fun w hw => hts w (List.mem_cons_of_mem _ hw), B.notSynchronized, B.returns, hK⟩ ⟨hi, hP, va_S.rf⟩ (lv_entry av hav)
theorem sMIof {l : Launch} {D : va_G} {cI : ClassId} {S : List sSh} {a : Nat → Nat} {V : sV} {y : MethodName} {cc : ByteArray} {nL : Nat} {ret : FieldType} {d : Nat} {av : List Value} {post : Int32 → sV → Prop}
    (hi : sInj S a) (hy : plainName y.cls = true) (hav : (lg_sl av).length ≤ nL)
    (body : ∀ (p : Program) (e : Env) (s : State) (m : MethodId) (below : List Frame) (meth : Method) (c : Code) (ls : Array Slot), sCx p s m av.toArray meth c cc y.cls nL (some ret) D cI → sWS D cI S a V s.heap s.heap [] → lv_has ls nL (lv_args 0 av) →
      W p l e (rmD d) s m av.toArray below meth c s.heap [] 0 0 (MQ below (va_Qi post (fun V' t => va_P D vwCl (sWd cI S a V') t.heap) (sA S a s.heap.size)) av.toArray s 0 0 (sA S a s.heap.size)) (F0 m 0 ls [])) :
    sMI l D cI S a V y cc nL ret d av post := fun sz => sBody hi hy hav (fun p e s m below meth c ls hsz C X hl => by subst hsz; exact body p e s m below meth c ls C X hl)
theorem sMVof {l : Launch} {D : va_G} {cI : ClassId} {S : List sSh} {a : Nat → Nat} {V : sV} {y : MethodName} {cc : ByteArray} {nL : Nat} {d : Nat} {av : List Value} {post : sV → Prop}
    (hi : sInj S a) (hy : plainName y.cls = true) (hav : (lg_sl av).length ≤ nL)
    (body : ∀ (p : Program) (e : Env) (s : State) (m : MethodId) (below : List Frame) (meth : Method) (c : Code) (ls : Array Slot), sCx p s m av.toArray meth c cc y.cls nL none D cI → sWS D cI S a V s.heap s.heap [] → lv_has ls nL (lv_args 0 av) →
      W p l e (rmD d) s m av.toArray below meth c s.heap [] 0 0 (MQ below (va_Qv post (fun V' t => va_P D vwCl (sWd cI S a V') t.heap) (sA S a s.heap.size)) av.toArray s 0 0 (sA S a s.heap.size)) (F0 m 0 ls [])) :
    sMV l D cI S a V y cc nL d av post := fun sz => sBody hi hy hav (fun p e s m below meth c ls hsz C X hl => by subst hsz; exact body p e s m below meth c ls C X hl)
theorem sMLof {l : Launch} {D : va_G} {cI : ClassId} {S : List sSh} {a : Nat → Nat} {V : sV} {y : MethodName} {cc : ByteArray} {nL : Nat} {d : Nat} {av : List Value} {post : Int64 → sV → Prop}
    (hi : sInj S a) (hy : plainName y.cls = true) (hav : (lg_sl av).length ≤ nL)
    (body : ∀ (p : Program) (e : Env) (s : State) (m : MethodId) (below : List Frame) (meth : Method) (c : Code) (ls : Array Slot), sCx p s m av.toArray meth c cc y.cls nL (some .long) D cI → sWS D cI S a V s.heap s.heap [] → lv_has ls nL (lv_args 0 av) →
      W p l e (rmD d) s m av.toArray below meth c s.heap [] 0 0 (MQ below (va_Ql post (fun V' t => va_P D vwCl (sWd cI S a V') t.heap) (sA S a s.heap.size)) av.toArray s 0 0 (sA S a s.heap.size)) (F0 m 0 ls [])) :
    sML l D cI S a V y cc nL d av post := fun sz => sBody hi hy hav (fun p e s m below meth c ls hsz C X hl => by subst hsz; exact body p e s m below meth c ls C X hl)
/-- a field by its link: own class, pool number, class number in vwCl, field number -/
def sFL (own : String) (idx ci j : Nat) : Prop := ∃ (C : String) (T : u_T) (N : Nat) (ref : String), vwCl[ci]? = some (C, T, N) ∧ (∀ w ∈ u_ws C T N, w ∈ wT) ∧ j < N ∧ Cond.fieldLink own idx ref (T j).2.1 (T j).2.2.1 ∈ wT ∧ (T j).1 = ref
def sFP (own : String) (idx ci j : Nat) (ty : FieldType) : Prop := ∃ (C : String) (T : u_T) (N : Nat) (ref : String) (ty0 : Nat → FieldType), vwCl[ci]? = some (C, T, N) ∧ (∀ w ∈ u_ws C T N, w ∈ wT) ∧ j < N ∧ Cond.fieldLink own idx ref (T j).2.1 (T j).2.2.1 ∈ wT ∧ (T j).1 = ref ∧
  (∀ k, k < N → parseFieldDescriptor (T k).2.2.1 = some (ty0 k)) ∧ (∀ a, a < N → ∀ b, b < N → a ≠ b → (T a).2.1 ≠ (T b).2.1) ∧ (T j).2.2.2 = false ∧ parseFieldDescriptor (T j).2.2.1 = some ty
def sIY (C : String) (y : MethodName) (cc : ByteArray) (nL : Nat) (ret : Option FieldType) (n : Nat) : Prop :=
  y.cls = C ∧ Cond.instanceMethod y ∈ wT ∧ Cond.selects C y y ∈ wT ∧ Cond.initialized C ∈ wT ∧ Cond.code y cc nL ret ∈ wT ∧ y.cls ≠ "java/lang/invoke/MethodHandle" ∧ y.cls ≠ "java/lang/invoke/VarHandle" ∧ (parseMethodDescriptor y.desc).map (fun d => d.parameters.length) = some n
def sSY (y : MethodName) (cc : ByteArray) (nL : Nat) (ret : Option FieldType) (n : Nat) : Prop :=
  Cond.static y ∈ wT ∧ Cond.initialized y.cls ∈ wT ∧ Cond.code y cc nL ret ∈ wT ∧ y.cls ≠ "java/lang/invoke/MethodHandle" ∧ y.cls ≠ "java/lang/invoke/VarHandle" ∧ (parseMethodDescriptor y.desc).map (fun d => d.parameters.length) = some n
section SB
variable {p : Program} {l : Launch} {e : Env} {R : Room} {s : State} {m : MethodId} {args : Array Value} {below : List Frame} {meth : Method} {c : Code} {H : Heap} {locs : List Loc} {Q : State → Prop}
variable {cc : ByteArray} {pc : Nat} {ls : Array Slot} {rest : List Value} {own : String} {nL : Nat} {ret : Option FieldType} {D : va_G} {cI : ClassId} {S : List sSh} {a : Nat → Nat} {V : sV}
theorem sgI (G : sCx p s m args meth c cc own nL ret D cI) (X : sWS D cI S a V s.heap H locs) (k j : Nat) {ci : Nat} {fs : List (Option Nat)} (hS : S[k]? = some (.inr (ci, fs))) (hj : fs[j]? = some none) {idx : Nat} (hf : sFL own idx ci j) (hdg : decode cc pc = .ok (.getfield idx, 3))
    (kk : W p l e R s m args below meth c H locs 0 0 Q (F0 m (pc + 3) ls (.int (V k j) :: rest))) : W p l e R s m args below meth c H locs 0 0 Q (F0 m pc ls (.ref (a k) :: rest)) := by
  obtain ⟨hx, hb, hml, hown, hts, hlocks, hr, hK⟩ := G
  obtain ⟨C, T, N, ref, h1, h2, h3, h4, h5⟩ := hf
  have h6 := sFv_int a (V k) fs 0 j hj
  rw [Nat.zero_add] at h6
  exact va_get hx hb hts h2 hown hK X.2.1 k (sWd_get hS) h1 j h3 (hts _ h4) (fun x hx => by rw [← h5]; exact hx) h6 hdg kk
theorem sgR (G : sCx p s m args meth c cc own nL ret D cI) (X : sWS D cI S a V s.heap H locs) (k j : Nat) {ci t : Nat} {fs : List (Option Nat)} (hS : S[k]? = some (.inr (ci, fs))) (hj : fs[j]? = some (some t)) {idx : Nat} (hf : sFL own idx ci j) (hdg : decode cc pc = .ok (.getfield idx, 3))
    (kk : W p l e R s m args below meth c H locs 0 0 Q (F0 m (pc + 3) ls (.ref (a t) :: rest))) : W p l e R s m args below meth c H locs 0 0 Q (F0 m pc ls (.ref (a k) :: rest)) := by
  obtain ⟨hx, hb, hml, hown, hts, hlocks, hr, hK⟩ := G
  obtain ⟨C, T, N, ref, h1, h2, h3, h4, h5⟩ := hf
  have h6 := sFv_ref a (V k) fs 0 j t hj
  exact va_get hx hb hts h2 hown hK X.2.1 k (sWd_get hS) h1 j h3 (hts _ h4) (fun x hx => by rw [← h5]; exact hx) h6 hdg kk
theorem spT {ty : FieldType} (G : sCx p s m args meth c cc own nL ret D cI) (X : sWS D cI S a V s.heap H locs) (k j : Nat) {ci : Nat} {fs : List (Option Nat)} (hS : S[k]? = some (.inr (ci, fs))) (hj : fs[j]? = some none) {idx : Nat} (hf : sFP own idx ci j ty) (v : Int32) (hn : narrow ty (.int v) = .int v) (hft : fits ty (.int v) = true) (hdg : decode cc pc = .ok (.putfield idx, 3))
    (kk : ∀ (H1 : Heap) (locs1 : List Loc), sWS D cI S a (sUp V k (upd (V k) j v)) s.heap H1 locs1 → W p l e R s m args below meth c H1 locs1 0 0 Q (F0 m (pc + 3) ls rest)) : W p l e R s m args below meth c H locs 0 0 Q (F0 m pc ls (.int v :: .ref (a k) :: rest)) := by
  obtain ⟨hx, hb, hml, hown, hts, hlocks, hr, hK⟩ := G
  obtain ⟨C, T, N, ref, ty0, h1, h2, h3, h4, h5, h6, h7, h8, h9⟩ := hf
  obtain ⟨hi, hP, hS0⟩ := X
  have hjl : j < fs.length := (List.getElem?_eq_some_iff.mp hj).1
  refine va_put hx hb hts h2 ty0 h6 h7 hown hK hP (sA_D hi) hS0 k (sWd_get hS) h1 j h3 (hts _ h4) (fun x hx => by rw [← h5]; exact hx) h8 h9 hn hft (by rw [sFv_len]; exact hjl) hdg (fun H1 locs1 hP1 hD1 hS1 => ?_)
  have e1 : (sWd cI S a V).set k (a k, .inr (ci, (sFv a (V k) 0 fs).set j (.int v))) = sWd cI S a (sUp V k (upd (V k) j v)) := sWd_set hS (by
    have h := sFv_set a (V k) v fs 0 j hj
    rw [Nat.zero_add] at h
    rw [h]
    rfl)
  rw [e1] at hP1
  exact kk H1 locs1 ⟨hi, hP1, hS1⟩
theorem spI (G : sCx p s m args meth c cc own nL ret D cI) (X : sWS D cI S a V s.heap H locs) (k j : Nat) {ci : Nat} {fs : List (Option Nat)} (hS : S[k]? = some (.inr (ci, fs))) (hj : fs[j]? = some none) {idx : Nat} (hf : sFP own idx ci j .int) {v : Int32} (hdg : decode cc pc = .ok (.putfield idx, 3))
    (kk : ∀ (H1 : Heap) (locs1 : List Loc), sWS D cI S a (sUp V k (upd (V k) j v)) s.heap H1 locs1 → W p l e R s m args below meth c H1 locs1 0 0 Q (F0 m (pc + 3) ls rest)) : W p l e R s m args below meth c H locs 0 0 Q (F0 m pc ls (.int v :: .ref (a k) :: rest)) :=
  spT G X k j hS hj hf v rfl rfl hdg kk
theorem sld (G : sCx p s m args meth c cc own nL ret D cI) (X : sWS D cI S a V s.heap H locs) (k : Nat) {n : Nat} (hS : S[k]? = some (.inl n)) {i : Int32} (hin : vp_in i n) (hdg : decode cc pc = .ok (.iaload, 1))
    (kk : W p l e R s m args below meth c H locs 0 0 Q (F0 m (pc + 1) ls (.int (V k i.toNatClampNeg) :: rest))) : W p l e R s m args below meth c H locs 0 0 Q (F0 m pc ls (.int i :: .ref (a k) :: rest)) := by
  obtain ⟨hx, hb, hml, hown, hts, hlocks, hr, hK⟩ := G
  exact va_iald hx hb hK X.2.1 k 0 (sWd_get hS) rfl hin hdg kk
theorem sst (G : sCx p s m args meth c cc own nL ret D cI) (X : sWS D cI S a V s.heap H locs) (k : Nat) {n : Nat} (hS : S[k]? = some (.inl n)) {i v : Int32} (hin : vp_in i n) (hdg : decode cc pc = .ok (.iastore, 1))
    (kk : ∀ (H1 : Heap) (locs1 : List Loc), sWS D cI S a (sUp V k (upd (V k) i.toNatClampNeg v)) s.heap H1 locs1 → W p l e R s m args below meth c H1 locs1 0 0 Q (F0 m (pc + 1) ls rest)) : W p l e R s m args below meth c H locs 0 0 Q (F0 m pc ls (.int v :: .int i :: .ref (a k) :: rest)) := by
  obtain ⟨hx, hb, hml, hown, hts, hlocks, hr, hK⟩ := G
  obtain ⟨hi, hP, hS0⟩ := X
  refine va_iast hx hb hK hP (sA_D hi) hS0 k 0 (sWd_get hS) rfl hin hdg (fun H1 locs1 hP1 hD1 hS1 => ?_)
  have e1 : (sWd cI S a V).set k (a k, .inl (cI, n, .inl (upd (V k) i.toNatClampNeg v))) = sWd cI S a (sUp V k (upd (V k) i.toNatClampNeg v)) := sWd_set hS rfl
  rw [e1] at hP1
  exact kk H1 locs1 ⟨hi, hP1, hS1⟩
theorem sln (G : sCx p s m args meth c cc own nL ret D cI) (X : sWS D cI S a V s.heap H locs) (k : Nat) {n : Nat} (hS : S[k]? = some (.inl n)) (hdg : decode cc pc = .ok (.arraylength, 1))
    (kk : W p l e R s m args below meth c H locs 0 0 Q (F0 m (pc + 1) ls (.int (nI n) :: rest))) : W p l e R s m args below meth c H locs 0 0 Q (F0 m pc ls (.ref (a k) :: rest)) := by
  obtain ⟨hx, hb, hml, hown, hts, hlocks, hr, hK⟩ := G
  exact va_alen hx hb hK X.2.1 k 0 (sWd_get hS) rfl rfl hdg kk
theorem sAsub {sz sz' : Nat} (h : sz ≤ sz') (q : Nat) (hq : sA S a sz' q) : sA S a sz q := hq.elim Or.inl (fun z => Or.inr (Nat.le_trans h z))
/-- a call on an object of the world, the whole world handed in -/
theorem scI {d d' n nL' idx k ci : Nat} {y : MethodName} {cc' : ByteArray} {ret' : FieldType} {As : List Value} {post : Int32 → sV → Prop} {C : String} {T : u_T} {N : Nat} {fs : List (Option Nat)} {st : List Value}
    (G : sCx p s m args meth c cc own nL ret D cI) (X : sWS D cI S a V s.heap H locs) (hM : sMI l D cI S a V y cc' nL' ret' d' (.ref (a k) :: As) post) (hI : sIY C y cc' nL' (some ret') n) (hL : Cond.methodLink own idx y ∈ wT) (hc : vwCl[ci]? = some (C, T, N)) (hS : S[k]? = some (.inr (ci, fs)))
    (hst : st = As.reverse ++ .ref (a k) :: rest) (hn : As.length = n) (hls : ls.size = nL) (hd : d' + 1 ≤ d) (hnl : nL' ≤ 13) (hW : (rest.map fun v => v.category).sum ≤ 8) (hdg : decode cc pc = .ok (.invokevirtual idx, 3))
    (kk : ∀ (r : Int32) (V1 : sV) (H1 : Heap) (locs1 : List Loc), post r V1 → sWS D cI S a V1 s.heap H1 locs1 → W p l e (rmD d) s m args below meth c H1 locs1 0 0 Q (F0 m (pc + 3) ls (.int r :: rest))) : W p l e (rmD d) s m args below meth c H locs 0 0 Q (F0 m pc ls st) := by
  obtain ⟨hx, hb, hml, hown, hts, hlocks, hr, hK⟩ := G
  obtain ⟨hi, hP, hS0⟩ := X
  obtain ⟨i1, i2, i3, i4, i5, i6, i7, i8⟩ := hI
  subst hst
  have hG : GoodIn wT (wsV own idx C y (wM y cc' nL' (some ret'))) := by
    intro w hw
    rcases List.mem_append.mp hw with hw | hw
    · have hw2 : w ∈ wT := by
        rcases List.mem_cons.mp hw with rfl | hw
        · exact hL
        rcases List.mem_cons.mp hw with rfl | hw
        · exact i2
        rcases List.mem_cons.mp hw with rfl | hw
        · exact i3
        rcases List.mem_cons.mp hw with rfl | hw
        · exact i4
        · cases hw
      exact ⟨hw2, good_of_word (wT_good hw2)⟩
    · exact wM_in i5 w hw
  refine va_calli (va_runV (nL := nL) (As := As) (rest := rest) ⟨hx, hb, hml, hown, hts⟩ (hM H.size) (cwV n hts hG rfl rfl rfl ⟨i1, i6, i7, i8⟩ ⟨hd, by show 8 + (nL' + 11) + 32 * d' ≤ 32 * d; omega⟩) ⟨sPc_blind, va_recv hK hP hc (sWd_get hS), fun U hU hWm => ⟨rfl, by rw [hU], by rw [hU]; exact hP, va_K.moved hWm.alike hK⟩⟩ rfl hn hls rfl (lv_room hW) hdg ⟨Nat.zero_le _, Nat.zero_le _⟩) hS0 (fun q hq h => sAsub hS0.1 q h) (fun q h => sAsub hS0.1 q h) (fun r u t H1 locs1 ht hvm hw hB hz1 hk1 hS1 => ?_)
  rw [ht] at hB
  exact kk r u H1 locs1 hw ⟨hi, hB, hS1⟩
theorem scV {d d' n nL' idx k ci : Nat} {y : MethodName} {cc' : ByteArray} {As : List Value} {post : sV → Prop} {C : String} {T : u_T} {N : Nat} {fs : List (Option Nat)} {st : List Value}
    (G : sCx p s m args meth c cc own nL ret D cI) (X : sWS D cI S a V s.heap H locs) (hM : sMV l D cI S a V y cc' nL' d' (.ref (a k) :: As) post) (hI : sIY C y cc' nL' none n) (hL : Cond.methodLink own idx y ∈ wT) (hc : vwCl[ci]? = some (C, T, N)) (hS : S[k]? = some (.inr (ci, fs)))
    (hst : st = As.reverse ++ .ref (a k) :: rest) (hn : As.length = n) (hls : ls.size = nL) (hd : d' + 1 ≤ d) (hnl : nL' ≤ 13) (hW : (rest.map fun v => v.category).sum ≤ 8) (hdg : decode cc pc = .ok (.invokevirtual idx, 3))
    (kk : ∀ (V1 : sV) (H1 : Heap) (locs1 : List Loc), post V1 → sWS D cI S a V1 s.heap H1 locs1 → W p l e (rmD d) s m args below meth c H1 locs1 0 0 Q (F0 m (pc + 3) ls rest)) : W p l e (rmD d) s m args below meth c H locs 0 0 Q (F0 m pc ls st) := by
  obtain ⟨hx, hb, hml, hown, hts, hlocks, hr, hK⟩ := G
  obtain ⟨hi, hP, hS0⟩ := X
  obtain ⟨i1, i2, i3, i4, i5, i6, i7, i8⟩ := hI
  subst hst
  have hG : GoodIn wT (wsV own idx C y (wM y cc' nL' none)) := by
    intro w hw
    rcases List.mem_append.mp hw with hw | hw
    · have hw2 : w ∈ wT := by
        rcases List.mem_cons.mp hw with rfl | hw
        · exact hL
        rcases List.mem_cons.mp hw with rfl | hw
        · exact i2
        rcases List.mem_cons.mp hw with rfl | hw
        · exact i3
        rcases List.mem_cons.mp hw with rfl | hw
        · exact i4
        · cases hw
      exact ⟨hw2, good_of_word (wT_good hw2)⟩
    · exact wM_in i5 w hw
  refine va_callv (va_runV (nL := nL) (As := As) (rest := rest) ⟨hx, hb, hml, hown, hts⟩ (hM H.size) (cwV n hts hG rfl rfl rfl ⟨i1, i6, i7, i8⟩ ⟨hd, by show 8 + (nL' + 11) + 32 * d' ≤ 32 * d; omega⟩) ⟨sPc_blind, va_recv hK hP hc (sWd_get hS), fun U hU hWm => ⟨rfl, by rw [hU], by rw [hU]; exact hP, va_K.moved hWm.alike hK⟩⟩ rfl hn hls rfl (lv_room hW) hdg ⟨Nat.zero_le _, Nat.zero_le _⟩) hS0 (fun q hq h => sAsub hS0.1 q h) (fun q h => sAsub hS0.1 q h) (fun u t H1 locs1 ht hvm hw hB hz1 hk1 hS1 => ?_)
  rw [ht] at hB
  exact kk u H1 locs1 hw ⟨hi, hB, hS1⟩
theorem sS_good {idx : Nat} {y : MethodName} {cc' : ByteArray} {nL' n : Nat} {ret' : Option FieldType} (hI : sSY y cc' nL' ret' n) (hL : Cond.methodLink own idx y ∈ wT) : GoodIn wT (va_wsS own idx y (wM y cc' nL' ret')) := by
  obtain ⟨i1, i2, i3, -⟩ := hI
  intro w hw
  rcases List.mem_append.mp hw with hw | hw
  · have hw2 : w ∈ wT := by
      rcases List.mem_cons.mp hw with rfl | hw
      · exact hL
      rcases List.mem_cons.mp hw with rfl | hw
      · exact i1
      rcases List.mem_cons.mp hw with rfl | hw
      · exact i2
      · cases hw
    exact ⟨hw2, good_of_word (wT_good hw2)⟩
  · exact wM_in i3 w hw
theorem scSI {d d' n nL' idx : Nat} {y : MethodName} {cc' : ByteArray} {ret' : FieldType} {As : List Value} {post : Int32 → sV → Prop} {st : List Value}
    (G : sCx p s m args meth c cc own nL ret D cI) (X : sWS D cI S a V s.heap H locs) (hM : sMI l D cI S a V y cc' nL' ret' d' As post) (hI : sSY y cc' nL' (some ret') n) (hL : Cond.methodLink own idx y ∈ wT)
    (hst : st = As.reverse ++ rest) (hn : As.length = n) (hls : ls.size = nL) (hd : d' + 1 ≤ d) (hnl : nL' ≤ 13) (hW : (rest.map fun v => v.category).sum ≤ 8) (hdg : decode cc pc = .ok (.invokestatic idx, 3))
    (kk : ∀ (r : Int32) (V1 : sV) (H1 : Heap) (locs1 : List Loc), post r V1 → sWS D cI S a V1 s.heap H1 locs1 → W p l e (rmD d) s m args below meth c H1 locs1 0 0 Q (F0 m (pc + 3) ls (.int r :: rest))) : W p l e (rmD d) s m args below meth c H locs 0 0 Q (F0 m pc ls st) := by
  obtain ⟨hx, hb, hml, hown, hts, hlocks, hr, hK⟩ := G
  obtain ⟨hi, hP, hS0⟩ := X
  have hG := sS_good hI hL
  obtain ⟨i1, i2, i5, i6, i7, i8⟩ := hI
  subst hst
  refine va_calli (va_runS (nL := nL) (As := As) (rest := rest) ⟨hx, hb, hml, hown, hts⟩ (hM H.size) (va_cwS n hts hG rfl rfl rfl ⟨i6, i7, i8⟩ ⟨hd, by show 8 + (nL' + 11) + 32 * d' ≤ 32 * d; omega⟩) ⟨sPc_blind, fun U hU hWm => ⟨rfl, by rw [hU], by rw [hU]; exact hP, va_K.moved hWm.alike hK⟩⟩ rfl hn hls rfl (lv_room hW) hdg ⟨Nat.zero_le _, Nat.zero_le _⟩) hS0 (fun q hq h => sAsub hS0.1 q h) (fun q h => sAsub hS0.1 q h) (fun r u t H1 locs1 ht hvm hw hB hz1 hk1 hS1 => ?_)
  rw [ht] at hB
  exact kk r u H1 locs1 hw ⟨hi, hB, hS1⟩
theorem scSV {d d' n nL' idx : Nat} {y : MethodName} {cc' : ByteArray} {As : List Value} {post : sV → Prop} {st : List Value}
    (G : sCx p s m args meth c cc own nL ret D cI) (X : sWS D cI S a V s.heap H locs) (hM : sMV l D cI S a V y cc' nL' d' As post) (hI : sSY y cc' nL' none n) (hL : Cond.methodLink own idx y ∈ wT)
    (hst : st = As.reverse ++ rest) (hn : As.length = n) (hls : ls.size = nL) (hd : d' + 1 ≤ d) (hnl : nL' ≤ 13) (hW : (rest.map fun v => v.category).sum ≤ 8) (hdg : decode cc pc = .ok (.invokestatic idx, 3))
    (kk : ∀ (V1 : sV) (H1 : Heap) (locs1 : List Loc), post V1 → sWS D cI S a V1 s.heap H1 locs1 → W p l e (rmD d) s m args below meth c H1 locs1 0 0 Q (F0 m (pc + 3) ls rest)) : W p l e (rmD d) s m args below meth c H locs 0 0 Q (F0 m pc ls st) := by
  obtain ⟨hx, hb, hml, hown, hts, hlocks, hr, hK⟩ := G
  obtain ⟨hi, hP, hS0⟩ := X
  have hG := sS_good hI hL
  obtain ⟨i1, i2, i5, i6, i7, i8⟩ := hI
  subst hst
  refine va_callv (va_runS (nL := nL) (As := As) (rest := rest) ⟨hx, hb, hml, hown, hts⟩ (hM H.size) (va_cwS n hts hG rfl rfl rfl ⟨i6, i7, i8⟩ ⟨hd, by show 8 + (nL' + 11) + 32 * d' ≤ 32 * d; omega⟩) ⟨sPc_blind, fun U hU hWm => ⟨rfl, by rw [hU], by rw [hU]; exact hP, va_K.moved hWm.alike hK⟩⟩ rfl hn hls rfl (lv_room hW) hdg ⟨Nat.zero_le _, Nat.zero_le _⟩) hS0 (fun q hq h => sAsub hS0.1 q h) (fun q h => sAsub hS0.1 q h) (fun u t H1 locs1 ht hvm hw hB hz1 hk1 hS1 => ?_)
  rw [ht] at hB
  exact kk u H1 locs1 hw ⟨hi, hB, hS1⟩
/-- out of a body -/
theorem srI {v : Int32} {post : Int32 → sV → Prop} {rt : FieldType} (G : sCx p s m args meth c cc own nL (some rt) D cI) (X : sWS D cI S a V s.heap H locs) (hn : narrow rt (.int v) = .int v) (hdg : decode cc pc = .ok (.ireturn, 1)) (hp : post v V) :
    W p l e R s m args below meth c H locs 0 0 (MQ below (va_Qi post (fun V' t => va_P D vwCl (sWd cI S a V') t.heap) (sA S a s.heap.size)) args s 0 0 (sA S a s.heap.size)) (F0 m pc ls [.int v]) := by
  obtain ⟨hx, hb, hml, hown, hts, hlocks, hr, hK⟩ := G
  obtain ⟨hi, hP, hS0⟩ := X
  exact W.zret hx hb hr hn (fun t ht hW => ⟨⟨v, V, rfl, hp, by show va_P _ _ _ t.heap; rw [ht]; exact hP⟩, hS0.F ht⟩) hS0.2.2 hdg
theorem srV {post : sV → Prop} (G : sCx p s m args meth c cc own nL none D cI) (X : sWS D cI S a V s.heap H locs) (hdg : decode cc pc = .ok (.return_, 1)) (hp : post V) :
    W p l e R s m args below meth c H locs 0 0 (MQ below (va_Qv post (fun V' t => va_P D vwCl (sWd cI S a V') t.heap) (sA S a s.heap.size)) args s 0 0 (sA S a s.heap.size)) (F0 m pc ls []) := by
  obtain ⟨hx, hb, hml, hown, hts, hlocks, hr, hK⟩ := G
  obtain ⟨hi, hP, hS0⟩ := X
  exact W.vret hx hb hr (fun t ht hW => ⟨⟨V, rfl, hp, by show va_P _ _ _ t.heap; rw [ht]; exact hP⟩, hS0.F ht⟩) hS0.2.2 hdg
theorem srL {v : Int64} {post : Int64 → sV → Prop} (G : sCx p s m args meth c cc own nL (some .long) D cI) (X : sWS D cI S a V s.heap H locs) (hdg : decode cc pc = .ok (.lreturn, 1)) (hp : post v V) :
    W p l e R s m args below meth c H locs 0 0 (MQ below (va_Ql post (fun V' t => va_P D vwCl (sWd cI S a V') t.heap) (sA S a s.heap.size)) args s 0 0 (sA S a s.heap.size)) (F0 m pc ls [.long v]) := by
  obtain ⟨hx, hb, hml, hown, hts, hlocks, hr, hK⟩ := G
  obtain ⟨hi, hP, hS0⟩ := X
  exact W.lret hx hb hr (fun t ht hW => ⟨⟨v, V, rfl, hp, by show va_P _ _ _ t.heap; rw [ht]; exact hP⟩, hS0.F ht⟩) hS0.2.2 hdg
end SB
end
section
theorem inw_0 : ∀ w ∈ wsX00, w ∈ wT := by decide +kernel
theorem inw_1 : ∀ w ∈ wsX10, w ∈ wT := by decide +kernel
theorem inw_2 : ∀ w ∈ wsX20, w ∈ wT := by decide +kernel
theorem inw_3 : ∀ w ∈ wsX30, w ∈ wT := by decide +kernel
theorem inw_4 : ∀ w ∈ wsX40, w ∈ wT := by decide +kernel
theorem inw_6 : ∀ w ∈ wsX60, w ∈ wT := by decide +kernel
theorem inw_7 : ∀ w ∈ wsX70, w ∈ wT := by decide +kernel
theorem inw_8 : ∀ w ∈ wsX80, w ∈ wT := by decide +kernel
theorem inw_9 : ∀ w ∈ wsX90, w ∈ wT := by decide +kernel
theorem inw_10 : ∀ w ∈ wsX100, w ∈ wT := by decide +kernel
theorem fl_X2_9 : sFL RX2 9 2 0 := ⟨_, _, _, _, rfl, inw_2, by decide, wT_mem 83 (by decide +kernel) (by decide +kernel), rfl⟩
theorem fl_X9_99 : sFL RX9 99 2 0 := ⟨_, _, _, _, rfl, inw_2, by decide, wT_mem 84 (by decide +kernel) (by decide +kernel), rfl⟩
theorem fl_X1_81 : sFL RX1 81 2 0 := ⟨_, _, _, _, rfl, inw_2, by decide, wT_mem 85 (by decide +kernel) (by decide +kernel), rfl⟩
theorem fl_X2_15 : sFL RX2 15 2 1 := ⟨_, _, _, _, rfl, inw_2, by decide, wT_mem 86 (by decide +kernel) (by decide +kernel), rfl⟩
theorem fl_X9_108 : sFL RX9 108 2 1 := ⟨_, _, _, _, rfl, inw_2, by decide, wT_mem 87 (by decide +kernel) (by decide +kernel), rfl⟩
theorem fl_X1_84 : sFL RX1 84 2 1 := ⟨_, _, _, _, rfl, inw_2, by decide, wT_mem 88 (by decide +kernel) (by decide +kernel), rfl⟩
theorem fl_X2_18 : sFL RX2 18 2 2 := ⟨_, _, _, _, rfl, inw_2, by decide, wT_mem 89 (by decide +kernel) (by decide +kernel), rfl⟩
theorem fl_X9_111 : sFL RX9 111 2 2 := ⟨_, _, _, _, rfl, inw_2, by decide, wT_mem 90 (by decide +kernel) (by decide +kernel), rfl⟩
theorem fl_X1_115 : sFL RX1 115 2 2 := ⟨_, _, _, _, rfl, inw_2, by decide, wT_mem 91 (by decide +kernel) (by decide +kernel), rfl⟩
theorem fl_X2_21 : sFL RX2 21 2 3 := ⟨_, _, _, _, rfl, inw_2, by decide, wT_mem 92 (by decide +kernel) (by decide +kernel), rfl⟩
theorem fl_X1_49 : sFL RX1 49 2 3 := ⟨_, _, _, _, rfl, inw_2, by decide, wT_mem 93 (by decide +kernel) (by decide +kernel), rfl⟩
theorem fl_X9_114 : sFL RX9 114 2 3 := ⟨_, _, _, _, rfl, inw_2, by decide, wT_mem 94 (by decide +kernel) (by decide +kernel), rfl⟩
theorem fl_X2_24 : sFL RX2 24 2 4 := ⟨_, _, _, _, rfl, inw_2, by decide, wT_mem 95 (by decide +kernel) (by decide +kernel), rfl⟩
theorem fl_X9_117 : sFL RX9 117 2 4 := ⟨_, _, _, _, rfl, inw_2, by decide, wT_mem 96 (by decide +kernel) (by decide +kernel), rfl⟩
theorem fl_X2_27 : sFL RX2 27 2 5 := ⟨_, _, _, _, rfl, inw_2, by decide, wT_mem 97 (by decide +kernel) (by decide +kernel), rfl⟩
theorem fl_X9_120 : sFL RX9 120 2 5 := ⟨_, _, _, _, rfl, inw_2, by decide, wT_mem 98 (by decide +kernel) (by decide +kernel), rfl⟩
theorem fl_X2_30 : sFL RX2 30 2 6 := ⟨_, _, _, _, rfl, inw_2, by decide, wT_mem 99 (by decide +kernel) (by decide +kernel), rfl⟩
theorem fl_X9_123 : sFL RX9 123 2 6 := ⟨_, _, _, _, rfl, inw_2, by decide, wT_mem 100 (by decide +kernel) (by decide +kernel), rfl⟩
theorem fl_X2_33 : sFL RX2 33 2 7 := ⟨_, _, _, _, rfl, inw_2, by decide, wT_mem 101 (by decide +kernel) (by decide +kernel), rfl⟩
theorem fp_X2_33 : sFP RX2 33 2 7 .int := ⟨_, _, _, _, tyX2, rfl, inw_2, by decide, wT_mem 101 (by decide +kernel) (by decide +kernel), rfl, tyX2_ok, nmX2, rfl, by decide +kernel⟩
theorem fl_X1_43 : sFL RX1 43 2 7 := ⟨_, _, _, _, rfl, inw_2, by decide, wT_mem 102 (by decide +kernel) (by decide +kernel), rfl⟩
theorem fp_X1_43 : sFP RX1 43 2 7 .int := ⟨_, _, _, _, tyX2, rfl, inw_2, by decide, wT_mem 102 (by decide +kernel) (by decide +kernel), rfl, tyX2_ok, nmX2, rfl, by decide +kernel⟩
theorem fl_X3_47 : sFL RX3 47 2 7 := ⟨_, _, _, _, rfl, inw_2, by decide, wT_mem 103 (by decide +kernel) (by decide +kernel), rfl⟩
theorem fp_X3_47 : sFP RX3 47 2 7 .int := ⟨_, _, _, _, tyX2, rfl, inw_2, by decide, wT_mem 103 (by decide +kernel) (by decide +kernel), rfl, tyX2_ok, nmX2, rfl, by decide +kernel⟩
theorem fl_X9_190 : sFL RX9 190 2 7 := ⟨_, _, _, _, rfl, inw_2, by decide, wT_mem 104 (by decide +kernel) (by decide +kernel), rfl⟩
theorem fp_X9_190 : sFP RX9 190 2 7 .int := ⟨_, _, _, _, tyX2, rfl, inw_2, by decide, wT_mem 104 (by decide +kernel) (by decide +kernel), rfl, tyX2_ok, nmX2, rfl, by decide +kernel⟩
theorem fl_X8_9 : sFL RX8 9 7 0 := ⟨_, _, _, _, rfl, inw_8, by decide, wT_mem 129 (by decide +kernel) (by decide +kernel), rfl⟩
theorem fl_X9_133 : sFL RX9 133 7 0 := ⟨_, _, _, _, rfl, inw_8, by decide, wT_mem 130 (by decide +kernel) (by decide +kernel), rfl⟩
theorem fl_X8_15 : sFL RX8 15 7 1 := ⟨_, _, _, _, rfl, inw_8, by decide, wT_mem 131 (by decide +kernel) (by decide +kernel), rfl⟩
theorem fl_X9_136 : sFL RX9 136 7 1 := ⟨_, _, _, _, rfl, inw_8, by decide, wT_mem 132 (by decide +kernel) (by decide +kernel), rfl⟩
theorem fl_X8_18 : sFL RX8 18 7 2 := ⟨_, _, _, _, rfl, inw_8, by decide, wT_mem 133 (by decide +kernel) (by decide +kernel), rfl⟩
theorem fl_X9_139 : sFL RX9 139 7 2 := ⟨_, _, _, _, rfl, inw_8, by decide, wT_mem 134 (by decide +kernel) (by decide +kernel), rfl⟩
theorem fl_X8_21 : sFL RX8 21 7 3 := ⟨_, _, _, _, rfl, inw_8, by decide, wT_mem 135 (by decide +kernel) (by decide +kernel), rfl⟩
theorem fp_X8_21 : sFP RX8 21 7 3 .int := ⟨_, _, _, _, tyX8, rfl, inw_8, by decide, wT_mem 135 (by decide +kernel) (by decide +kernel), rfl, tyX8_ok, nmX8, rfl, by decide +kernel⟩
theorem fl_X3_54 : sFL RX3 54 7 3 := ⟨_, _, _, _, rfl, inw_8, by decide, wT_mem 136 (by decide +kernel) (by decide +kernel), rfl⟩
theorem fp_X3_54 : sFP RX3 54 7 3 .int := ⟨_, _, _, _, tyX8, rfl, inw_8, by decide, wT_mem 136 (by decide +kernel) (by decide +kernel), rfl, tyX8_ok, nmX8, rfl, by decide +kernel⟩
theorem fl_X9_130 : sFL RX9 130 7 3 := ⟨_, _, _, _, rfl, inw_8, by decide, wT_mem 137 (by decide +kernel) (by decide +kernel), rfl⟩
theorem fp_X9_130 : sFP RX9 130 7 3 .int := ⟨_, _, _, _, tyX8, rfl, inw_8, by decide, wT_mem 137 (by decide +kernel) (by decide +kernel), rfl, tyX8_ok, nmX8, rfl, by decide +kernel⟩
theorem fl_X7_36 : sFL RX7 36 0 0 := ⟨_, _, _, _, rfl, inw_0, by decide, wT_mem 153 (by decide +kernel) (by decide +kernel), rfl⟩
theorem fp_X7_36 : sFP RX7 36 0 0 .int := ⟨_, _, _, _, tyX0, rfl, inw_0, by decide, wT_mem 153 (by decide +kernel) (by decide +kernel), rfl, tyX0_ok, nmX0, rfl, by decide +kernel⟩
theorem fl_X0_7 : sFL RX0 7 0 0 := ⟨_, _, _, _, rfl, inw_0, by decide, wT_mem 154 (by decide +kernel) (by decide +kernel), rfl⟩
theorem fp_X0_7 : sFP RX0 7 0 0 .int := ⟨_, _, _, _, tyX0, rfl, inw_0, by decide, wT_mem 154 (by decide +kernel) (by decide +kernel), rfl, tyX0_ok, nmX0, rfl, by decide +kernel⟩
theorem fl_X9_146 : sFL RX9 146 0 0 := ⟨_, _, _, _, rfl, inw_0, by decide, wT_mem 155 (by decide +kernel) (by decide +kernel), rfl⟩
theorem fp_X9_146 : sFP RX9 146 0 0 .int := ⟨_, _, _, _, tyX0, rfl, inw_0, by decide, wT_mem 155 (by decide +kernel) (by decide +kernel), rfl, tyX0_ok, nmX0, rfl, by decide +kernel⟩
theorem fl_X2_76 : sFL RX2 76 0 0 := ⟨_, _, _, _, rfl, inw_0, by decide, wT_mem 156 (by decide +kernel) (by decide +kernel), rfl⟩
theorem fp_X2_76 : sFP RX2 76 0 0 .int := ⟨_, _, _, _, tyX0, rfl, inw_0, by decide, wT_mem 156 (by decide +kernel) (by decide +kernel), rfl, tyX0_ok, nmX0, rfl, by decide +kernel⟩
theorem fl_X0_13 : sFL RX0 13 0 1 := ⟨_, _, _, _, rfl, inw_0, by decide, wT_mem 157 (by decide +kernel) (by decide +kernel), rfl⟩
theorem fp_X0_13 : sFP RX0 13 0 1 .int := ⟨_, _, _, _, tyX0, rfl, inw_0, by decide, wT_mem 157 (by decide +kernel) (by decide +kernel), rfl, tyX0_ok, nmX0, rfl, by decide +kernel⟩
theorem fl_X7_58 : sFL RX7 58 0 1 := ⟨_, _, _, _, rfl, inw_0, by decide, wT_mem 158 (by decide +kernel) (by decide +kernel), rfl⟩
theorem fp_X7_58 : sFP RX7 58 0 1 .int := ⟨_, _, _, _, tyX0, rfl, inw_0, by decide, wT_mem 158 (by decide +kernel) (by decide +kernel), rfl, tyX0_ok, nmX0, rfl, by decide +kernel⟩
theorem fl_X9_148 : sFL RX9 148 0 1 := ⟨_, _, _, _, rfl, inw_0, by decide, wT_mem 159 (by decide +kernel) (by decide +kernel), rfl⟩
theorem fp_X9_148 : sFP RX9 148 0 1 .int := ⟨_, _, _, _, tyX0, rfl, inw_0, by decide, wT_mem 159 (by decide +kernel) (by decide +kernel), rfl, tyX0_ok, nmX0, rfl, by decide +kernel⟩
theorem fl_X2_79 : sFL RX2 79 0 1 := ⟨_, _, _, _, rfl, inw_0, by decide, wT_mem 160 (by decide +kernel) (by decide +kernel), rfl⟩
theorem fp_X2_79 : sFP RX2 79 0 1 .int := ⟨_, _, _, _, tyX0, rfl, inw_0, by decide, wT_mem 160 (by decide +kernel) (by decide +kernel), rfl, tyX0_ok, nmX0, rfl, by decide +kernel⟩
theorem fl_X0_16 : sFL RX0 16 0 2 := ⟨_, _, _, _, rfl, inw_0, by decide, wT_mem 161 (by decide +kernel) (by decide +kernel), rfl⟩
theorem fp_X0_16 : sFP RX0 16 0 2 .int := ⟨_, _, _, _, tyX0, rfl, inw_0, by decide, wT_mem 161 (by decide +kernel) (by decide +kernel), rfl, tyX0_ok, nmX0, rfl, by decide +kernel⟩
theorem fl_X7_61 : sFL RX7 61 0 2 := ⟨_, _, _, _, rfl, inw_0, by decide, wT_mem 162 (by decide +kernel) (by decide +kernel), rfl⟩
theorem fp_X7_61 : sFP RX7 61 0 2 .int := ⟨_, _, _, _, tyX0, rfl, inw_0, by decide, wT_mem 162 (by decide +kernel) (by decide +kernel), rfl, tyX0_ok, nmX0, rfl, by decide +kernel⟩
theorem fl_X9_150 : sFL RX9 150 0 2 := ⟨_, _, _, _, rfl, inw_0, by decide, wT_mem 163 (by decide +kernel) (by decide +kernel), rfl⟩
theorem fp_X9_150 : sFP RX9 150 0 2 .int := ⟨_, _, _, _, tyX0, rfl, inw_0, by decide, wT_mem 163 (by decide +kernel) (by decide +kernel), rfl, tyX0_ok, nmX0, rfl, by decide +kernel⟩
theorem fl_X0_19 : sFL RX0 19 0 3 := ⟨_, _, _, _, rfl, inw_0, by decide, wT_mem 164 (by decide +kernel) (by decide +kernel), rfl⟩
theorem fp_X0_19 : sFP RX0 19 0 3 .int := ⟨_, _, _, _, tyX0, rfl, inw_0, by decide, wT_mem 164 (by decide +kernel) (by decide +kernel), rfl, tyX0_ok, nmX0, rfl, by decide +kernel⟩
theorem fl_X7_64 : sFL RX7 64 0 3 := ⟨_, _, _, _, rfl, inw_0, by decide, wT_mem 165 (by decide +kernel) (by decide +kernel), rfl⟩
theorem fp_X7_64 : sFP RX7 64 0 3 .int := ⟨_, _, _, _, tyX0, rfl, inw_0, by decide, wT_mem 165 (by decide +kernel) (by decide +kernel), rfl, tyX0_ok, nmX0, rfl, by decide +kernel⟩
theorem fl_X9_152 : sFL RX9 152 0 3 := ⟨_, _, _, _, rfl, inw_0, by decide, wT_mem 166 (by decide +kernel) (by decide +kernel), rfl⟩
theorem fp_X9_152 : sFP RX9 152 0 3 .int := ⟨_, _, _, _, tyX0, rfl, inw_0, by decide, wT_mem 166 (by decide +kernel) (by decide +kernel), rfl, tyX0_ok, nmX0, rfl, by decide +kernel⟩
theorem fl_X2_82 : sFL RX2 82 0 3 := ⟨_, _, _, _, rfl, inw_0, by decide, wT_mem 167 (by decide +kernel) (by decide +kernel), rfl⟩
theorem fp_X2_82 : sFP RX2 82 0 3 .int := ⟨_, _, _, _, tyX0, rfl, inw_0, by decide, wT_mem 167 (by decide +kernel) (by decide +kernel), rfl, tyX0_ok, nmX0, rfl, by decide +kernel⟩
theorem fl_X4_13 : sFL RX4 13 4 0 := ⟨_, _, _, _, rfl, inw_4, by decide, wT_mem 186 (by decide +kernel) (by decide +kernel), rfl⟩
theorem fl_X4_19 : sFL RX4 19 4 1 := ⟨_, _, _, _, rfl, inw_4, by decide, wT_mem 187 (by decide +kernel) (by decide +kernel), rfl⟩
theorem fp_X4_19 : sFP RX4 19 4 1 .int := ⟨_, _, _, _, tyX4, rfl, inw_4, by decide, wT_mem 187 (by decide +kernel) (by decide +kernel), rfl, tyX4_ok, nmX4, rfl, by decide +kernel⟩
theorem fl_X3_37 : sFL RX3 37 4 1 := ⟨_, _, _, _, rfl, inw_4, by decide, wT_mem 188 (by decide +kernel) (by decide +kernel), rfl⟩
theorem fp_X3_37 : sFP RX3 37 4 1 .int := ⟨_, _, _, _, tyX4, rfl, inw_4, by decide, wT_mem 188 (by decide +kernel) (by decide +kernel), rfl, tyX4_ok, nmX4, rfl, by decide +kernel⟩
theorem fl_X9_75 : sFL RX9 75 4 1 := ⟨_, _, _, _, rfl, inw_4, by decide, wT_mem 189 (by decide +kernel) (by decide +kernel), rfl⟩
theorem fp_X9_75 : sFP RX9 75 4 1 .int := ⟨_, _, _, _, tyX4, rfl, inw_4, by decide, wT_mem 189 (by decide +kernel) (by decide +kernel), rfl, tyX4_ok, nmX4, rfl, by decide +kernel⟩
theorem fl_X7_9 : sFL RX7 9 6 0 := ⟨_, _, _, _, rfl, inw_7, by decide, wT_mem 195 (by decide +kernel) (by decide +kernel), rfl⟩
theorem fp_X7_9 : sFP RX7 9 6 0 .int := ⟨_, _, _, _, tyX7, rfl, inw_7, by decide, wT_mem 195 (by decide +kernel) (by decide +kernel), rfl, tyX7_ok, nmX7, rfl, by decide +kernel⟩
theorem fl_X3_40 : sFL RX3 40 6 0 := ⟨_, _, _, _, rfl, inw_7, by decide, wT_mem 196 (by decide +kernel) (by decide +kernel), rfl⟩
theorem fp_X3_40 : sFP RX3 40 6 0 .int := ⟨_, _, _, _, tyX7, rfl, inw_7, by decide, wT_mem 196 (by decide +kernel) (by decide +kernel), rfl, tyX7_ok, nmX7, rfl, by decide +kernel⟩
theorem fl_X1_91 : sFL RX1 91 6 0 := ⟨_, _, _, _, rfl, inw_7, by decide, wT_mem 197 (by decide +kernel) (by decide +kernel), rfl⟩
theorem fp_X1_91 : sFP RX1 91 6 0 .int := ⟨_, _, _, _, tyX7, rfl, inw_7, by decide, wT_mem 197 (by decide +kernel) (by decide +kernel), rfl, tyX7_ok, nmX7, rfl, by decide +kernel⟩
theorem fl_X9_169 : sFL RX9 169 6 0 := ⟨_, _, _, _, rfl, inw_7, by decide, wT_mem 198 (by decide +kernel) (by decide +kernel), rfl⟩
theorem fp_X9_169 : sFP RX9 169 6 0 .int := ⟨_, _, _, _, tyX7, rfl, inw_7, by decide, wT_mem 198 (by decide +kernel) (by decide +kernel), rfl, tyX7_ok, nmX7, rfl, by decide +kernel⟩
theorem fl_X7_18 : sFL RX7 18 6 1 := ⟨_, _, _, _, rfl, inw_7, by decide, wT_mem 199 (by decide +kernel) (by decide +kernel), rfl⟩
theorem fl_X1_37 : sFL RX1 37 6 1 := ⟨_, _, _, _, rfl, inw_7, by decide, wT_mem 200 (by decide +kernel) (by decide +kernel), rfl⟩
theorem fl_X3_43 : sFL RX3 43 6 1 := ⟨_, _, _, _, rfl, inw_7, by decide, wT_mem 201 (by decide +kernel) (by decide +kernel), rfl⟩
theorem fl_X9_89 : sFL RX9 89 6 1 := ⟨_, _, _, _, rfl, inw_7, by decide, wT_mem 202 (by decide +kernel) (by decide +kernel), rfl⟩
theorem fl_X7_25 : sFL RX7 25 6 2 := ⟨_, _, _, _, rfl, inw_7, by decide, wT_mem 203 (by decide +kernel) (by decide +kernel), rfl⟩
theorem fl_X3_50 : sFL RX3 50 6 2 := ⟨_, _, _, _, rfl, inw_7, by decide, wT_mem 204 (by decide +kernel) (by decide +kernel), rfl⟩
theorem fl_X9_126 : sFL RX9 126 6 2 := ⟨_, _, _, _, rfl, inw_7, by decide, wT_mem 205 (by decide +kernel) (by decide +kernel), rfl⟩
theorem fl_X7_32 : sFL RX7 32 6 3 := ⟨_, _, _, _, rfl, inw_7, by decide, wT_mem 206 (by decide +kernel) (by decide +kernel), rfl⟩
theorem fl_X9_143 : sFL RX9 143 6 3 := ⟨_, _, _, _, rfl, inw_7, by decide, wT_mem 207 (by decide +kernel) (by decide +kernel), rfl⟩
theorem fl_X7_44 : sFL RX7 44 6 4 := ⟨_, _, _, _, rfl, inw_7, by decide, wT_mem 208 (by decide +kernel) (by decide +kernel), rfl⟩
theorem fl_X9_61 : sFL RX9 61 6 4 := ⟨_, _, _, _, rfl, inw_7, by decide, wT_mem 209 (by decide +kernel) (by decide +kernel), rfl⟩
theorem fl_X3_32 : sFL RX3 32 6 4 := ⟨_, _, _, _, rfl, inw_7, by decide, wT_mem 210 (by decide +kernel) (by decide +kernel), rfl⟩
theorem fl_X7_48 : sFL RX7 48 6 5 := ⟨_, _, _, _, rfl, inw_7, by decide, wT_mem 211 (by decide +kernel) (by decide +kernel), rfl⟩
theorem fl_X9_240 : sFL RX9 240 6 5 := ⟨_, _, _, _, rfl, inw_7, by decide, wT_mem 212 (by decide +kernel) (by decide +kernel), rfl⟩
theorem fl_X1_9 : sFL RX1 9 1 0 := ⟨_, _, _, _, rfl, inw_1, by decide, wT_mem 232 (by decide +kernel) (by decide +kernel), rfl⟩
theorem fl_X1_15 : sFL RX1 15 1 1 := ⟨_, _, _, _, rfl, inw_1, by decide, wT_mem 233 (by decide +kernel) (by decide +kernel), rfl⟩
theorem fl_X1_19 : sFL RX1 19 1 2 := ⟨_, _, _, _, rfl, inw_1, by decide, wT_mem 234 (by decide +kernel) (by decide +kernel), rfl⟩
theorem fl_X1_22 : sFL RX1 22 1 3 := ⟨_, _, _, _, rfl, inw_1, by decide, wT_mem 235 (by decide +kernel) (by decide +kernel), rfl⟩
theorem fl_X1_25 : sFL RX1 25 1 4 := ⟨_, _, _, _, rfl, inw_1, by decide, wT_mem 236 (by decide +kernel) (by decide +kernel), rfl⟩
theorem fl_X1_28 : sFL RX1 28 1 5 := ⟨_, _, _, _, rfl, inw_1, by decide, wT_mem 237 (by decide +kernel) (by decide +kernel), rfl⟩
theorem fl_X9_175 : sFL RX9 175 1 5 := ⟨_, _, _, _, rfl, inw_1, by decide, wT_mem 238 (by decide +kernel) (by decide +kernel), rfl⟩
theorem fl_X1_31 : sFL RX1 31 1 6 := ⟨_, _, _, _, rfl, inw_1, by decide, wT_mem 239 (by decide +kernel) (by decide +kernel), rfl⟩
theorem fl_X1_34 : sFL RX1 34 1 7 := ⟨_, _, _, _, rfl, inw_1, by decide, wT_mem 240 (by decide +kernel) (by decide +kernel), rfl⟩
theorem fl_X3_9 : sFL RX3 9 3 0 := ⟨_, _, _, _, rfl, inw_3, by decide, wT_mem 266 (by decide +kernel) (by decide +kernel), rfl⟩
theorem fl_X3_20 : sFL RX3 20 3 1 := ⟨_, _, _, _, rfl, inw_3, by decide, wT_mem 267 (by decide +kernel) (by decide +kernel), rfl⟩
theorem fl_X3_24 : sFL RX3 24 3 2 := ⟨_, _, _, _, rfl, inw_3, by decide, wT_mem 268 (by decide +kernel) (by decide +kernel), rfl⟩
theorem fp_X3_24 : sFP RX3 24 3 2 .int := ⟨_, _, _, _, tyX3, rfl, inw_3, by decide, wT_mem 268 (by decide +kernel) (by decide +kernel), rfl, tyX3_ok, nmX3, rfl, by decide +kernel⟩
theorem fl_X3_67 : sFL RX3 67 3 3 := ⟨_, _, _, _, rfl, inw_3, by decide, wT_mem 269 (by decide +kernel) (by decide +kernel), rfl⟩
theorem fp_X3_67 : sFP RX3 67 3 3 .int := ⟨_, _, _, _, tyX3, rfl, inw_3, by decide, wT_mem 269 (by decide +kernel) (by decide +kernel), rfl, tyX3_ok, nmX3, rfl, by decide +kernel⟩
theorem fl_X6_7 : sFL RX6 7 5 0 := ⟨_, _, _, _, rfl, inw_6, by decide, wT_mem 285 (by decide +kernel) (by decide +kernel), rfl⟩
theorem fp_X6_7 : sFP RX6 7 5 0 .int := ⟨_, _, _, _, tyX6, rfl, inw_6, by decide, wT_mem 285 (by decide +kernel) (by decide +kernel), rfl, tyX6_ok, nmX6, rfl, by decide +kernel⟩
theorem fl_X9_234 : sFL RX9 234 5 0 := ⟨_, _, _, _, rfl, inw_6, by decide, wT_mem 286 (by decide +kernel) (by decide +kernel), rfl⟩
theorem fp_X9_234 : sFP RX9 234 5 0 .int := ⟨_, _, _, _, tyX6, rfl, inw_6, by decide, wT_mem 286 (by decide +kernel) (by decide +kernel), rfl, tyX6_ok, nmX6, rfl, by decide +kernel⟩
theorem fl_X9_10 : sFL RX9 10 8 0 := ⟨_, _, _, _, rfl, inw_9, by decide, wT_mem 292 (by decide +kernel) (by decide +kernel), rfl⟩
theorem fl_X9_16 : sFL RX9 16 8 1 := ⟨_, _, _, _, rfl, inw_9, by decide, wT_mem 293 (by decide +kernel) (by decide +kernel), rfl⟩
theorem fl_X9_19 : sFL RX9 19 8 2 := ⟨_, _, _, _, rfl, inw_9, by decide, wT_mem 294 (by decide +kernel) (by decide +kernel), rfl⟩
theorem fp_X9_19 : sFP RX9 19 8 2 .boolean := ⟨_, _, _, _, tyX9, rfl, inw_9, by decide, wT_mem 294 (by decide +kernel) (by decide +kernel), rfl, tyX9_ok, nmX9, rfl, by decide +kernel⟩
theorem fl_X9_28 : sFL RX9 28 8 3 := ⟨_, _, _, _, rfl, inw_9, by decide, wT_mem 295 (by decide +kernel) (by decide +kernel), rfl⟩
theorem fl_X9_35 : sFL RX9 35 8 4 := ⟨_, _, _, _, rfl, inw_9, by decide, wT_mem 296 (by decide +kernel) (by decide +kernel), rfl⟩
theorem fl_X9_42 : sFL RX9 42 8 5 := ⟨_, _, _, _, rfl, inw_9, by decide, wT_mem 297 (by decide +kernel) (by decide +kernel), rfl⟩
theorem fl_X9_49 : sFL RX9 49 8 6 := ⟨_, _, _, _, rfl, inw_9, by decide, wT_mem 298 (by decide +kernel) (by decide +kernel), rfl⟩
theorem fl_X9_53 : sFL RX9 53 8 7 := ⟨_, _, _, _, rfl, inw_9, by decide, wT_mem 299 (by decide +kernel) (by decide +kernel), rfl⟩
theorem fl_X10_61 : sFL RX10 61 9 0 := ⟨_, _, _, _, rfl, inw_10, by decide, wT_mem 839 (by decide +kernel) (by decide +kernel), rfl⟩
theorem fp_X10_61 : sFP RX10 61 9 0 .int := ⟨_, _, _, _, tyX10, rfl, inw_10, by decide, wT_mem 839 (by decide +kernel) (by decide +kernel), rfl, tyX10_ok, nmX10, rfl, by decide +kernel⟩
theorem fl_X10_72 : sFL RX10 72 9 1 := ⟨_, _, _, _, rfl, inw_10, by decide, wT_mem 840 (by decide +kernel) (by decide +kernel), rfl⟩
theorem fp_X10_72 : sFP RX10 72 9 1 .int := ⟨_, _, _, _, tyX10, rfl, inw_10, by decide, wT_mem 840 (by decide +kernel) (by decide +kernel), rfl, tyX10_ok, nmX10, rfl, by decide +kernel⟩
theorem fl_X10_7 : sFL RX10 7 9 2 := ⟨_, _, _, _, rfl, inw_10, by decide, wT_mem 841 (by decide +kernel) (by decide +kernel), rfl⟩
theorem fl_X10_65 : sFL RX10 65 9 3 := ⟨_, _, _, _, rfl, inw_10, by decide, wT_mem 842 (by decide +kernel) (by decide +kernel), rfl⟩
theorem fp_X10_65 : sFP RX10 65 9 3 .int := ⟨_, _, _, _, tyX10, rfl, inw_10, by decide, wT_mem 842 (by decide +kernel) (by decide +kernel), rfl, tyX10_ok, nmX10, rfl, by decide +kernel⟩
theorem fl_X10_13 : sFL RX10 13 9 4 := ⟨_, _, _, _, rfl, inw_10, by decide, wT_mem 843 (by decide +kernel) (by decide +kernel), rfl⟩
theorem fl_X10_16 : sFL RX10 16 9 5 := ⟨_, _, _, _, rfl, inw_10, by decide, wT_mem 844 (by decide +kernel) (by decide +kernel), rfl⟩
theorem fl_X10_19 : sFL RX10 19 9 6 := ⟨_, _, _, _, rfl, inw_10, by decide, wT_mem 845 (by decide +kernel) (by decide +kernel), rfl⟩
theorem fl_X10_22 : sFL RX10 22 9 7 := ⟨_, _, _, _, rfl, inw_10, by decide, wT_mem 846 (by decide +kernel) (by decide +kernel), rfl⟩
theorem fl_X10_25 : sFL RX10 25 9 8 := ⟨_, _, _, _, rfl, inw_10, by decide, wT_mem 847 (by decide +kernel) (by decide +kernel), rfl⟩
theorem fl_X10_28 : sFL RX10 28 9 9 := ⟨_, _, _, _, rfl, inw_10, by decide, wT_mem 848 (by decide +kernel) (by decide +kernel), rfl⟩
theorem fl_X10_31 : sFL RX10 31 9 10 := ⟨_, _, _, _, rfl, inw_10, by decide, wT_mem 849 (by decide +kernel) (by decide +kernel), rfl⟩
theorem fl_X10_113 : sFL RX10 113 9 11 := ⟨_, _, _, _, rfl, inw_10, by decide, wT_mem 850 (by decide +kernel) (by decide +kernel), rfl⟩
theorem fp_X10_113 : sFP RX10 113 9 11 .int := ⟨_, _, _, _, tyX10, rfl, inw_10, by decide, wT_mem 850 (by decide +kernel) (by decide +kernel), rfl, tyX10_ok, nmX10, rfl, by decide +kernel⟩
theorem fl_X10_34 : sFL RX10 34 9 12 := ⟨_, _, _, _, rfl, inw_10, by decide, wT_mem 851 (by decide +kernel) (by decide +kernel), rfl⟩
theorem fl_X10_37 : sFL RX10 37 9 13 := ⟨_, _, _, _, rfl, inw_10, by decide, wT_mem 852 (by decide +kernel) (by decide +kernel), rfl⟩
theorem fl_X10_125 : sFL RX10 125 9 14 := ⟨_, _, _, _, rfl, inw_10, by decide, wT_mem 853 (by decide +kernel) (by decide +kernel), rfl⟩
theorem fp_X10_125 : sFP RX10 125 9 14 .int := ⟨_, _, _, _, tyX10, rfl, inw_10, by decide, wT_mem 853 (by decide +kernel) (by decide +kernel), rfl, tyX10_ok, nmX10, rfl, by decide +kernel⟩
theorem fl_X10_191 : sFL RX10 191 9 15 := ⟨_, _, _, _, rfl, inw_10, by decide, wT_mem 854 (by decide +kernel) (by decide +kernel), rfl⟩
theorem fp_X10_191 : sFP RX10 191 9 15 .int := ⟨_, _, _, _, tyX10, rfl, inw_10, by decide, wT_mem 854 (by decide +kernel) (by decide +kernel), rfl, tyX10_ok, nmX10, rfl, by decide +kernel⟩
theorem fl_X10_40 : sFL RX10 40 9 16 := ⟨_, _, _, _, rfl, inw_10, by decide, wT_mem 855 (by decide +kernel) (by decide +kernel), rfl⟩
theorem fl_X10_43 : sFL RX10 43 9 17 := ⟨_, _, _, _, rfl, inw_10, by decide, wT_mem 856 (by decide +kernel) (by decide +kernel), rfl⟩
theorem fl_X10_46 : sFL RX10 46 9 18 := ⟨_, _, _, _, rfl, inw_10, by decide, wT_mem 857 (by decide +kernel) (by decide +kernel), rfl⟩
theorem fl_X10_49 : sFL RX10 49 9 19 := ⟨_, _, _, _, rfl, inw_10, by decide, wT_mem 858 (by decide +kernel) (by decide +kernel), rfl⟩
theorem fl_X10_182 : sFL RX10 182 9 20 := ⟨_, _, _, _, rfl, inw_10, by decide, wT_mem 859 (by decide +kernel) (by decide +kernel), rfl⟩
theorem fp_X10_182 : sFP RX10 182 9 20 .int := ⟨_, _, _, _, tyX10, rfl, inw_10, by decide, wT_mem 859 (by decide +kernel) (by decide +kernel), rfl, tyX10_ok, nmX10, rfl, by decide +kernel⟩
theorem fl_X10_52 : sFL RX10 52 9 21 := ⟨_, _, _, _, rfl, inw_10, by decide, wT_mem 860 (by decide +kernel) (by decide +kernel), rfl⟩
theorem fl_X10_75 : sFL RX10 75 9 22 := ⟨_, _, _, _, rfl, inw_10, by decide, wT_mem 861 (by decide +kernel) (by decide +kernel), rfl⟩
theorem fp_X10_75 : sFP RX10 75 9 22 .int := ⟨_, _, _, _, tyX10, rfl, inw_10, by decide, wT_mem 861 (by decide +kernel) (by decide +kernel), rfl, tyX10_ok, nmX10, rfl, by decide +kernel⟩
theorem fl_X10_55 : sFL RX10 55 9 23 := ⟨_, _, _, _, rfl, inw_10, by decide, wT_mem 862 (by decide +kernel) (by decide +kernel), rfl⟩
theorem fl_X10_194 : sFL RX10 194 9 24 := ⟨_, _, _, _, rfl, inw_10, by decide, wT_mem 863 (by decide +kernel) (by decide +kernel), rfl⟩
theorem fp_X10_194 : sFP RX10 194 9 24 .boolean := ⟨_, _, _, _, tyX10, rfl, inw_10, by decide, wT_mem 863 (by decide +kernel) (by decide +kernel), rfl, tyX10_ok, nmX10, rfl, by decide +kernel⟩
theorem fl_X10_58 : sFL RX10 58 9 25 := ⟨_, _, _, _, rfl, inw_10, by decide, wT_mem 864 (by decide +kernel) (by decide +kernel), rfl⟩
theorem iy_X9_letter : sIY RX9 yX9_letter cX9_letter 2 (some .int) 1 := ⟨rfl, wT_mem 318 (by decide +kernel) (by decide +kernel), wT_mem 319 (by decide +kernel) (by decide +kernel), wT_mem 45 (by decide +kernel) (by decide +kernel), wT_mem 320 (by decide +kernel) (by decide +kernel), by decide +kernel, by decide +kernel, by decide +kernel⟩
theorem iy_X9_refuse : sIY RX9 yX9_refuse cX9_refuse 2 (some .int) 1 := ⟨rfl, wT_mem 323 (by decide +kernel) (by decide +kernel), wT_mem 0 (by decide +kernel) (by decide +kernel), wT_mem 45 (by decide +kernel) (by decide +kernel), wT_mem 324 (by decide +kernel) (by decide +kernel), by decide +kernel, by decide +kernel, by decide +kernel⟩
theorem iy_X5_at : sSY yX5_at cX5_at 2 (some .int) 2 := ⟨wT_mem 326 (by decide +kernel) (by decide +kernel), wT_mem 56 (by decide +kernel) (by decide +kernel), wT_mem 327 (by decide +kernel) (by decide +kernel), by decide +kernel, by decide +kernel, by decide +kernel⟩
theorem iy_X5_put : sSY yX5_put cX5_put 3 none 3 := ⟨wT_mem 329 (by decide +kernel) (by decide +kernel), wT_mem 56 (by decide +kernel) (by decide +kernel), wT_mem 330 (by decide +kernel) (by decide +kernel), by decide +kernel, by decide +kernel, by decide +kernel⟩
theorem iy_X4_isFull : sIY RX4 yX4_isFull cX4_isFull 1 (some .boolean) 0 := ⟨rfl, wT_mem 332 (by decide +kernel) (by decide +kernel), wT_mem 333 (by decide +kernel) (by decide +kernel), wT_mem 50 (by decide +kernel) (by decide +kernel), wT_mem 334 (by decide +kernel) (by decide +kernel), by decide +kernel, by decide +kernel, by decide +kernel⟩
theorem iy_X4_add : sIY RX4 yX4_add cX4_add 2 none 1 := ⟨rfl, wT_mem 336 (by decide +kernel) (by decide +kernel), wT_mem 337 (by decide +kernel) (by decide +kernel), wT_mem 50 (by decide +kernel) (by decide +kernel), wT_mem 338 (by decide +kernel) (by decide +kernel), by decide +kernel, by decide +kernel, by decide +kernel⟩
theorem iy_X9_house : sIY RX9 yX9_house cX9_house 3 (some .int) 0 := ⟨rfl, wT_mem 342 (by decide +kernel) (by decide +kernel), wT_mem 343 (by decide +kernel) (by decide +kernel), wT_mem 45 (by decide +kernel) (by decide +kernel), wT_mem 344 (by decide +kernel) (by decide +kernel), by decide +kernel, by decide +kernel, by decide +kernel⟩
theorem iy_X3_faultOfLetters : sIY RX3 yX3_faultOfLetters cX3_faultOfLetters 3 (some .int) 0 := ⟨rfl, wT_mem 346 (by decide +kernel) (by decide +kernel), wT_mem 347 (by decide +kernel) (by decide +kernel), wT_mem 53 (by decide +kernel) (by decide +kernel), wT_mem 348 (by decide +kernel) (by decide +kernel), by decide +kernel, by decide +kernel, by decide +kernel⟩
theorem iy_X3_passStatement : sIY RX3 yX3_passStatement cX3_passStatement 3 (some .boolean) 0 := ⟨rfl, wT_mem 351 (by decide +kernel) (by decide +kernel), wT_mem 1 (by decide +kernel) (by decide +kernel), wT_mem 53 (by decide +kernel) (by decide +kernel), wT_mem 352 (by decide +kernel) (by decide +kernel), by decide +kernel, by decide +kernel, by decide +kernel⟩
theorem iy_X4_clear : sIY RX4 yX4_clear cX4_clear 1 none 0 := ⟨rfl, wT_mem 354 (by decide +kernel) (by decide +kernel), wT_mem 355 (by decide +kernel) (by decide +kernel), wT_mem 50 (by decide +kernel) (by decide +kernel), wT_mem 356 (by decide +kernel) (by decide +kernel), by decide +kernel, by decide +kernel, by decide +kernel⟩
theorem iy_X4_get : sIY RX4 yX4_get cX4_get 2 (some .int) 1 := ⟨rfl, wT_mem 358 (by decide +kernel) (by decide +kernel), wT_mem 359 (by decide +kernel) (by decide +kernel), wT_mem 50 (by decide +kernel) (by decide +kernel), wT_mem 360 (by decide +kernel) (by decide +kernel), by decide +kernel, by decide +kernel, by decide +kernel⟩
theorem iy_X3_shapeBehind : sSY yX3_shapeBehind cX3_shapeBehind 1 (some (.object "java/lang/String")) 1 := ⟨wT_mem 363 (by decide +kernel) (by decide +kernel), wT_mem 53 (by decide +kernel) (by decide +kernel), wT_mem 364 (by decide +kernel) (by decide +kernel), by decide +kernel, by decide +kernel, by decide +kernel⟩
theorem iy_X3_passPart : sIY RX3 yX3_passPart cX3_passPart 2 (some .boolean) 1 := ⟨rfl, wT_mem 424 (by decide +kernel) (by decide +kernel), wT_mem 2 (by decide +kernel) (by decide +kernel), wT_mem 53 (by decide +kernel) (by decide +kernel), wT_mem 425 (by decide +kernel) (by decide +kernel), by decide +kernel, by decide +kernel, by decide +kernel⟩
theorem iy_X3_passNumber : sIY RX3 yX3_passNumber cX3_passNumber 6 (some .boolean) 1 := ⟨rfl, wT_mem 428 (by decide +kernel) (by decide +kernel), wT_mem 3 (by decide +kernel) (by decide +kernel), wT_mem 53 (by decide +kernel) (by decide +kernel), wT_mem 429 (by decide +kernel) (by decide +kernel), by decide +kernel, by decide +kernel, by decide +kernel⟩
theorem iy_X3_passKind : sIY RX3 yX3_passKind cX3_passKind 3 (some .boolean) 0 := ⟨rfl, wT_mem 433 (by decide +kernel) (by decide +kernel), wT_mem 4 (by decide +kernel) (by decide +kernel), wT_mem 53 (by decide +kernel) (by decide +kernel), wT_mem 434 (by decide +kernel) (by decide +kernel), by decide +kernel, by decide +kernel, by decide +kernel⟩
theorem iy_X3_passSign : sIY RX3 yX3_passSign cX3_passSign 2 (some .boolean) 1 := ⟨rfl, wT_mem 495 (by decide +kernel) (by decide +kernel), wT_mem 5 (by decide +kernel) (by decide +kernel), wT_mem 53 (by decide +kernel) (by decide +kernel), wT_mem 496 (by decide +kernel) (by decide +kernel), by decide +kernel, by decide +kernel, by decide +kernel⟩
theorem iy_X3_takeStatements : sIY RX3 yX3_takeStatements cX3_takeStatements 7 (some .int) 0 := ⟨rfl, wT_mem 498 (by decide +kernel) (by decide +kernel), wT_mem 499 (by decide +kernel) (by decide +kernel), wT_mem 53 (by decide +kernel) (by decide +kernel), wT_mem 500 (by decide +kernel) (by decide +kernel), by decide +kernel, by decide +kernel, by decide +kernel⟩
theorem iy_X3_takeStatement : sIY RX3 yX3_takeStatement cX3_takeStatement 1 (some .boolean) 0 := ⟨rfl, wT_mem 503 (by decide +kernel) (by decide +kernel), wT_mem 6 (by decide +kernel) (by decide +kernel), wT_mem 53 (by decide +kernel) (by decide +kernel), wT_mem 504 (by decide +kernel) (by decide +kernel), by decide +kernel, by decide +kernel, by decide +kernel⟩
theorem iy_X3_takeRooms : sIY RX3 yX3_takeRooms cX3_takeRooms 2 (some .boolean) 1 := ⟨rfl, wT_mem 507 (by decide +kernel) (by decide +kernel), wT_mem 7 (by decide +kernel) (by decide +kernel), wT_mem 53 (by decide +kernel) (by decide +kernel), wT_mem 508 (by decide +kernel) (by decide +kernel), by decide +kernel, by decide +kernel, by decide +kernel⟩
theorem iy_X2_roomsToldOf : sIY RX2 yX2_roomsToldOf cX2_roomsToldOf 3 (some .int) 0 := ⟨rfl, wT_mem 510 (by decide +kernel) (by decide +kernel), wT_mem 511 (by decide +kernel) (by decide +kernel), wT_mem 47 (by decide +kernel) (by decide +kernel), wT_mem 512 (by decide +kernel) (by decide +kernel), by decide +kernel, by decide +kernel, by decide +kernel⟩
theorem iy_X3_takeDoor : sIY RX3 yX3_takeDoor cX3_takeDoor 4 (some .boolean) 3 := ⟨rfl, wT_mem 517 (by decide +kernel) (by decide +kernel), wT_mem 8 (by decide +kernel) (by decide +kernel), wT_mem 53 (by decide +kernel) (by decide +kernel), wT_mem 518 (by decide +kernel) (by decide +kernel), by decide +kernel, by decide +kernel, by decide +kernel⟩
theorem iy_X2_isFull : sIY RX2 yX2_isFull cX2_isFull 1 (some .boolean) 0 := ⟨rfl, wT_mem 520 (by decide +kernel) (by decide +kernel), wT_mem 521 (by decide +kernel) (by decide +kernel), wT_mem 47 (by decide +kernel) (by decide +kernel), wT_mem 522 (by decide +kernel) (by decide +kernel), by decide +kernel, by decide +kernel, by decide +kernel⟩
theorem iy_X2_add : sIY RX2 yX2_add cX2_add 8 none 7 := ⟨rfl, wT_mem 524 (by decide +kernel) (by decide +kernel), wT_mem 525 (by decide +kernel) (by decide +kernel), wT_mem 47 (by decide +kernel) (by decide +kernel), wT_mem 526 (by decide +kernel) (by decide +kernel), by decide +kernel, by decide +kernel, by decide +kernel⟩
theorem iy_X3_takeHole : sIY RX3 yX3_takeHole cX3_takeHole 3 (some .boolean) 0 := ⟨rfl, wT_mem 531 (by decide +kernel) (by decide +kernel), wT_mem 9 (by decide +kernel) (by decide +kernel), wT_mem 53 (by decide +kernel) (by decide +kernel), wT_mem 532 (by decide +kernel) (by decide +kernel), by decide +kernel, by decide +kernel, by decide +kernel⟩
theorem iy_X3_takeWeather : sIY RX3 yX3_takeWeather cX3_takeWeather 4 (some .boolean) 3 := ⟨rfl, wT_mem 535 (by decide +kernel) (by decide +kernel), wT_mem 10 (by decide +kernel) (by decide +kernel), wT_mem 53 (by decide +kernel) (by decide +kernel), wT_mem 536 (by decide +kernel) (by decide +kernel), by decide +kernel, by decide +kernel, by decide +kernel⟩
theorem iy_X8_isFull : sIY RX8 yX8_isFull cX8_isFull 1 (some .boolean) 0 := ⟨rfl, wT_mem 538 (by decide +kernel) (by decide +kernel), wT_mem 539 (by decide +kernel) (by decide +kernel), wT_mem 48 (by decide +kernel) (by decide +kernel), wT_mem 540 (by decide +kernel) (by decide +kernel), by decide +kernel, by decide +kernel, by decide +kernel⟩
theorem iy_X8_add : sIY RX8 yX8_add cX8_add 4 none 3 := ⟨rfl, wT_mem 542 (by decide +kernel) (by decide +kernel), wT_mem 543 (by decide +kernel) (by decide +kernel), wT_mem 48 (by decide +kernel) (by decide +kernel), wT_mem 544 (by decide +kernel) (by decide +kernel), by decide +kernel, by decide +kernel, by decide +kernel⟩
theorem iy_X9_hole : sIY RX9 yX9_hole cX9_hole 3 (some .int) 2 := ⟨rfl, wT_mem 550 (by decide +kernel) (by decide +kernel), wT_mem 551 (by decide +kernel) (by decide +kernel), wT_mem 45 (by decide +kernel) (by decide +kernel), wT_mem 552 (by decide +kernel) (by decide +kernel), by decide +kernel, by decide +kernel, by decide +kernel⟩
theorem iy_X2_has : sIY RX2 yX2_has cX2_has 2 (some .boolean) 1 := ⟨rfl, wT_mem 554 (by decide +kernel) (by decide +kernel), wT_mem 555 (by decide +kernel) (by decide +kernel), wT_mem 47 (by decide +kernel) (by decide +kernel), wT_mem 556 (by decide +kernel) (by decide +kernel), by decide +kernel, by decide +kernel, by decide +kernel⟩
theorem iy_X9_weather : sIY RX9 yX9_weather cX9_weather 3 (some .int) 2 := ⟨rfl, wT_mem 558 (by decide +kernel) (by decide +kernel), wT_mem 559 (by decide +kernel) (by decide +kernel), wT_mem 45 (by decide +kernel) (by decide +kernel), wT_mem 560 (by decide +kernel) (by decide +kernel), by decide +kernel, by decide +kernel, by decide +kernel⟩
theorem iy_X9_set : sIY RX9 yX9_set cX9_set 5 (some .int) 2 := ⟨rfl, wT_mem 562 (by decide +kernel) (by decide +kernel), wT_mem 563 (by decide +kernel) (by decide +kernel), wT_mem 45 (by decide +kernel) (by decide +kernel), wT_mem 564 (by decide +kernel) (by decide +kernel), by decide +kernel, by decide +kernel, by decide +kernel⟩
theorem iy_X9_nowOf : sIY RX9 yX9_nowOf cX9_nowOf 2 (some .int) 1 := ⟨rfl, wT_mem 567 (by decide +kernel) (by decide +kernel), wT_mem 11 (by decide +kernel) (by decide +kernel), wT_mem 45 (by decide +kernel) (by decide +kernel), wT_mem 568 (by decide +kernel) (by decide +kernel), by decide +kernel, by decide +kernel, by decide +kernel⟩
theorem iy_X9_fan : sIY RX9 yX9_fan cX9_fan 2 (some .int) 1 := ⟨rfl, wT_mem 570 (by decide +kernel) (by decide +kernel), wT_mem 571 (by decide +kernel) (by decide +kernel), wT_mem 45 (by decide +kernel) (by decide +kernel), wT_mem 572 (by decide +kernel) (by decide +kernel), by decide +kernel, by decide +kernel, by decide +kernel⟩
theorem iy_X9_now : sIY RX9 yX9_now cX9_now 2 (some .int) 1 := ⟨rfl, wT_mem 574 (by decide +kernel) (by decide +kernel), wT_mem 575 (by decide +kernel) (by decide +kernel), wT_mem 45 (by decide +kernel) (by decide +kernel), wT_mem 576 (by decide +kernel) (by decide +kernel), by decide +kernel, by decide +kernel, by decide +kernel⟩
theorem iy_X9_refuseFar : sIY RX9 yX9_refuseFar cX9_refuseFar 2 (some .int) 1 := ⟨rfl, wT_mem 579 (by decide +kernel) (by decide +kernel), wT_mem 12 (by decide +kernel) (by decide +kernel), wT_mem 45 (by decide +kernel) (by decide +kernel), wT_mem 580 (by decide +kernel) (by decide +kernel), by decide +kernel, by decide +kernel, by decide +kernel⟩
theorem iy_X9_size : sIY RX9 yX9_size cX9_size 4 (some .int) 2 := ⟨rfl, wT_mem 583 (by decide +kernel) (by decide +kernel), wT_mem 584 (by decide +kernel) (by decide +kernel), wT_mem 45 (by decide +kernel) (by decide +kernel), wT_mem 585 (by decide +kernel) (by decide +kernel), by decide +kernel, by decide +kernel, by decide +kernel⟩
theorem iy_X9_outside : sIY RX9 yX9_outside cX9_outside 2 (some .int) 1 := ⟨rfl, wT_mem 587 (by decide +kernel) (by decide +kernel), wT_mem 588 (by decide +kernel) (by decide +kernel), wT_mem 45 (by decide +kernel) (by decide +kernel), wT_mem 589 (by decide +kernel) (by decide +kernel), by decide +kernel, by decide +kernel, by decide +kernel⟩
theorem iy_X2_isDoor : sIY RX2 yX2_isDoor cX2_isDoor 2 (some .boolean) 1 := ⟨rfl, wT_mem 591 (by decide +kernel) (by decide +kernel), wT_mem 592 (by decide +kernel) (by decide +kernel), wT_mem 47 (by decide +kernel) (by decide +kernel), wT_mem 593 (by decide +kernel) (by decide +kernel), by decide +kernel, by decide +kernel, by decide +kernel⟩
theorem iy_X2_outsidePush : sIY RX2 yX2_outsidePush cX2_outsidePush 7 (some .int) 2 := ⟨rfl, wT_mem 595 (by decide +kernel) (by decide +kernel), wT_mem 596 (by decide +kernel) (by decide +kernel), wT_mem 47 (by decide +kernel) (by decide +kernel), wT_mem 597 (by decide +kernel) (by decide +kernel), by decide +kernel, by decide +kernel, by decide +kernel⟩
theorem iy_X0_windAt : sIY RX0 yX0_windAt cX0_windAt 2 (some .int) 1 := ⟨rfl, wT_mem 599 (by decide +kernel) (by decide +kernel), wT_mem 600 (by decide +kernel) (by decide +kernel), wT_mem 49 (by decide +kernel) (by decide +kernel), wT_mem 601 (by decide +kernel) (by decide +kernel), by decide +kernel, by decide +kernel, by decide +kernel⟩
theorem iy_X9_push : sIY RX9 yX9_push cX9_push 2 (some .int) 1 := ⟨rfl, wT_mem 603 (by decide +kernel) (by decide +kernel), wT_mem 604 (by decide +kernel) (by decide +kernel), wT_mem 45 (by decide +kernel) (by decide +kernel), wT_mem 605 (by decide +kernel) (by decide +kernel), by decide +kernel, by decide +kernel, by decide +kernel⟩
theorem iy_X9_settleNow : sIY RX9 yX9_settleNow cX9_settleNow 2 none 1 := ⟨rfl, wT_mem 608 (by decide +kernel) (by decide +kernel), wT_mem 13 (by decide +kernel) (by decide +kernel), wT_mem 45 (by decide +kernel) (by decide +kernel), wT_mem 609 (by decide +kernel) (by decide +kernel), by decide +kernel, by decide +kernel, by decide +kernel⟩
theorem iy_X1_takeSizes : sIY RX1 yX1_takeSizes cX1_takeSizes 3 none 1 := ⟨rfl, wT_mem 611 (by decide +kernel) (by decide +kernel), wT_mem 612 (by decide +kernel) (by decide +kernel), wT_mem 52 (by decide +kernel) (by decide +kernel), wT_mem 613 (by decide +kernel) (by decide +kernel), by decide +kernel, by decide +kernel, by decide +kernel⟩
theorem iy_X1_settle : sIY RX1 yX1_settle cX1_settle 3 none 1 := ⟨rfl, wT_mem 617 (by decide +kernel) (by decide +kernel), wT_mem 618 (by decide +kernel) (by decide +kernel), wT_mem 52 (by decide +kernel) (by decide +kernel), wT_mem 619 (by decide +kernel) (by decide +kernel), by decide +kernel, by decide +kernel, by decide +kernel⟩
theorem iy_X1_begin : sIY RX1 yX1_begin cX1_begin 5 none 1 := ⟨rfl, wT_mem 622 (by decide +kernel) (by decide +kernel), wT_mem 14 (by decide +kernel) (by decide +kernel), wT_mem 52 (by decide +kernel) (by decide +kernel), wT_mem 623 (by decide +kernel) (by decide +kernel), by decide +kernel, by decide +kernel, by decide +kernel⟩
theorem iy_X5_copy : sSY yX5_copy cX5_copy 3 none 2 := ⟨wT_mem 627 (by decide +kernel) (by decide +kernel), wT_mem 56 (by decide +kernel) (by decide +kernel), wT_mem 628 (by decide +kernel) (by decide +kernel), by decide +kernel, by decide +kernel, by decide +kernel⟩
theorem iy_X1_doRound : sIY RX1 yX1_doRound cX1_doRound 4 none 0 := ⟨rfl, wT_mem 631 (by decide +kernel) (by decide +kernel), wT_mem 15 (by decide +kernel) (by decide +kernel), wT_mem 52 (by decide +kernel) (by decide +kernel), wT_mem 632 (by decide +kernel) (by decide +kernel), by decide +kernel, by decide +kernel, by decide +kernel⟩
theorem iy_X1_flowThrough : sIY RX1 yX1_flowThrough cX1_flowThrough 6 (some .int) 1 := ⟨rfl, wT_mem 634 (by decide +kernel) (by decide +kernel), wT_mem 635 (by decide +kernel) (by decide +kernel), wT_mem 52 (by decide +kernel) (by decide +kernel), wT_mem 636 (by decide +kernel) (by decide +kernel), by decide +kernel, by decide +kernel, by decide +kernel⟩
theorem iy_X1_isAsEarlier : sIY RX1 yX1_isAsEarlier cX1_isAsEarlier 2 (some .boolean) 0 := ⟨rfl, wT_mem 646 (by decide +kernel) (by decide +kernel), wT_mem 16 (by decide +kernel) (by decide +kernel), wT_mem 52 (by decide +kernel) (by decide +kernel), wT_mem 647 (by decide +kernel) (by decide +kernel), by decide +kernel, by decide +kernel, by decide +kernel⟩
theorem iy_X9_flow : sIY RX9 yX9_flow cX9_flow 2 (some .int) 1 := ⟨rfl, wT_mem 649 (by decide +kernel) (by decide +kernel), wT_mem 650 (by decide +kernel) (by decide +kernel), wT_mem 45 (by decide +kernel) (by decide +kernel), wT_mem 651 (by decide +kernel) (by decide +kernel), by decide +kernel, by decide +kernel, by decide +kernel⟩
theorem iy_X9_lean : sIY RX9 yX9_lean cX9_lean 2 (some .int) 1 := ⟨rfl, wT_mem 654 (by decide +kernel) (by decide +kernel), wT_mem 655 (by decide +kernel) (by decide +kernel), wT_mem 45 (by decide +kernel) (by decide +kernel), wT_mem 656 (by decide +kernel) (by decide +kernel), by decide +kernel, by decide +kernel, by decide +kernel⟩
theorem iy_X9_leanOf : sIY RX9 yX9_leanOf cX9_leanOf 3 (some .int) 1 := ⟨rfl, wT_mem 659 (by decide +kernel) (by decide +kernel), wT_mem 17 (by decide +kernel) (by decide +kernel), wT_mem 45 (by decide +kernel) (by decide +kernel), wT_mem 660 (by decide +kernel) (by decide +kernel), by decide +kernel, by decide +kernel, by decide +kernel⟩
theorem iy_X9_coal : sIY RX9 yX9_coal cX9_coal 1 (some .int) 0 := ⟨rfl, wT_mem 662 (by decide +kernel) (by decide +kernel), wT_mem 663 (by decide +kernel) (by decide +kernel), wT_mem 45 (by decide +kernel) (by decide +kernel), wT_mem 664 (by decide +kernel) (by decide +kernel), by decide +kernel, by decide +kernel, by decide +kernel⟩
theorem iy_X9_coalWithout : sIY RX9 yX9_coalWithout cX9_coalWithout 2 (some .int) 1 := ⟨rfl, wT_mem 667 (by decide +kernel) (by decide +kernel), wT_mem 18 (by decide +kernel) (by decide +kernel), wT_mem 45 (by decide +kernel) (by decide +kernel), wT_mem 668 (by decide +kernel) (by decide +kernel), by decide +kernel, by decide +kernel, by decide +kernel⟩
theorem iy_X1_inflow : sIY RX1 yX1_inflow cX1_inflow 3 (some .int) 0 := ⟨rfl, wT_mem 670 (by decide +kernel) (by decide +kernel), wT_mem 671 (by decide +kernel) (by decide +kernel), wT_mem 52 (by decide +kernel) (by decide +kernel), wT_mem 672 (by decide +kernel) (by decide +kernel), by decide +kernel, by decide +kernel, by decide +kernel⟩
theorem iy_X9_smokes : sIY RX9 yX9_smokes cX9_smokes 1 (some .int) 0 := ⟨rfl, wT_mem 675 (by decide +kernel) (by decide +kernel), wT_mem 676 (by decide +kernel) (by decide +kernel), wT_mem 45 (by decide +kernel) (by decide +kernel), wT_mem 677 (by decide +kernel) (by decide +kernel), by decide +kernel, by decide +kernel, by decide +kernel⟩
theorem iy_X1_smoking : sIY RX1 yX1_smoking cX1_smoking 3 (some .boolean) 0 := ⟨rfl, wT_mem 679 (by decide +kernel) (by decide +kernel), wT_mem 680 (by decide +kernel) (by decide +kernel), wT_mem 52 (by decide +kernel) (by decide +kernel), wT_mem 681 (by decide +kernel) (by decide +kernel), by decide +kernel, by decide +kernel, by decide +kernel⟩
theorem iy_X9_stopped : sIY RX9 yX9_stopped cX9_stopped 2 (some .int) 1 := ⟨rfl, wT_mem 683 (by decide +kernel) (by decide +kernel), wT_mem 684 (by decide +kernel) (by decide +kernel), wT_mem 45 (by decide +kernel) (by decide +kernel), wT_mem 685 (by decide +kernel) (by decide +kernel), by decide +kernel, by decide +kernel, by decide +kernel⟩
theorem iy_X9_best : sIY RX9 yX9_best cX9_best 8 (some .int) 2 := ⟨rfl, wT_mem 687 (by decide +kernel) (by decide +kernel), wT_mem 688 (by decide +kernel) (by decide +kernel), wT_mem 45 (by decide +kernel) (by decide +kernel), wT_mem 689 (by decide +kernel) (by decide +kernel), by decide +kernel, by decide +kernel, by decide +kernel⟩
theorem iy_X2_canBeStopped : sIY RX2 yX2_canBeStopped cX2_canBeStopped 5 (some .boolean) 2 := ⟨rfl, wT_mem 691 (by decide +kernel) (by decide +kernel), wT_mem 692 (by decide +kernel) (by decide +kernel), wT_mem 47 (by decide +kernel) (by decide +kernel), wT_mem 693 (by decide +kernel) (by decide +kernel), by decide +kernel, by decide +kernel, by decide +kernel⟩
theorem iy_X9_pairs : sIY RX9 yX9_pairs cX9_pairs 9 (some .int) 1 := ⟨rfl, wT_mem 702 (by decide +kernel) (by decide +kernel), wT_mem 703 (by decide +kernel) (by decide +kernel), wT_mem 45 (by decide +kernel) (by decide +kernel), wT_mem 704 (by decide +kernel) (by decide +kernel), by decide +kernel, by decide +kernel, by decide +kernel⟩
theorem iy_X9_idleAlone : sIY RX9 yX9_idleAlone cX9_idleAlone 4 (some .int) 1 := ⟨rfl, wT_mem 707 (by decide +kernel) (by decide +kernel), wT_mem 19 (by decide +kernel) (by decide +kernel), wT_mem 45 (by decide +kernel) (by decide +kernel), wT_mem 708 (by decide +kernel) (by decide +kernel), by decide +kernel, by decide +kernel, by decide +kernel⟩
theorem iy_X9_shut : sIY RX9 yX9_shut cX9_shut 4 (some .int) 2 := ⟨rfl, wT_mem 710 (by decide +kernel) (by decide +kernel), wT_mem 711 (by decide +kernel) (by decide +kernel), wT_mem 45 (by decide +kernel) (by decide +kernel), wT_mem 712 (by decide +kernel) (by decide +kernel), by decide +kernel, by decide +kernel, by decide +kernel⟩
theorem iy_X9_chair : sIY RX9 yX9_chair cX9_chair 5 (some .int) 0 := ⟨rfl, wT_mem 715 (by decide +kernel) (by decide +kernel), wT_mem 716 (by decide +kernel) (by decide +kernel), wT_mem 45 (by decide +kernel) (by decide +kernel), wT_mem 717 (by decide +kernel) (by decide +kernel), by decide +kernel, by decide +kernel, by decide +kernel⟩
theorem iy_X1_throughRoom : sIY RX1 yX1_throughRoom cX1_throughRoom 4 (some .int) 1 := ⟨rfl, wT_mem 719 (by decide +kernel) (by decide +kernel), wT_mem 720 (by decide +kernel) (by decide +kernel), wT_mem 52 (by decide +kernel) (by decide +kernel), wT_mem 721 (by decide +kernel) (by decide +kernel), by decide +kernel, by decide +kernel, by decide +kernel⟩
theorem iy_X9_finger : sIY RX9 yX9_finger cX9_finger 6 (some .int) 0 := ⟨rfl, wT_mem 723 (by decide +kernel) (by decide +kernel), wT_mem 724 (by decide +kernel) (by decide +kernel), wT_mem 45 (by decide +kernel) (by decide +kernel), wT_mem 725 (by decide +kernel) (by decide +kernel), by decide +kernel, by decide +kernel, by decide +kernel⟩
theorem iy_X9_settleSized : sIY RX9 yX9_settleSized cX9_settleSized 3 none 2 := ⟨rfl, wT_mem 728 (by decide +kernel) (by decide +kernel), wT_mem 20 (by decide +kernel) (by decide +kernel), wT_mem 45 (by decide +kernel) (by decide +kernel), wT_mem 729 (by decide +kernel) (by decide +kernel), by decide +kernel, by decide +kernel, by decide +kernel⟩
theorem iy_X1_changeSize : sIY RX1 yX1_changeSize cX1_changeSize 3 none 2 := ⟨rfl, wT_mem 731 (by decide +kernel) (by decide +kernel), wT_mem 732 (by decide +kernel) (by decide +kernel), wT_mem 52 (by decide +kernel) (by decide +kernel), wT_mem 733 (by decide +kernel) (by decide +kernel), by decide +kernel, by decide +kernel, by decide +kernel⟩
theorem iy_X9_number : sIY RX9 yX9_number cX9_number 2 (some .int) 1 := ⟨rfl, wT_mem 735 (by decide +kernel) (by decide +kernel), wT_mem 736 (by decide +kernel) (by decide +kernel), wT_mem 45 (by decide +kernel) (by decide +kernel), wT_mem 737 (by decide +kernel) (by decide +kernel), by decide +kernel, by decide +kernel, by decide +kernel⟩
theorem iy_X0_become : sIY RX0 yX0_become cX0_become 5 none 4 := ⟨rfl, wT_mem 739 (by decide +kernel) (by decide +kernel), wT_mem 740 (by decide +kernel) (by decide +kernel), wT_mem 49 (by decide +kernel) (by decide +kernel), wT_mem 741 (by decide +kernel) (by decide +kernel), by decide +kernel, by decide +kernel, by decide +kernel⟩
theorem iy_X9_winter : sIY RX9 yX9_winter cX9_winter 3 (some .int) 0 := ⟨rfl, wT_mem 743 (by decide +kernel) (by decide +kernel), wT_mem 744 (by decide +kernel) (by decide +kernel), wT_mem 45 (by decide +kernel) (by decide +kernel), wT_mem 745 (by decide +kernel) (by decide +kernel), by decide +kernel, by decide +kernel, by decide +kernel⟩
theorem iy_X9_settleInWeather : sIY RX9 yX9_settleInWeather cX9_settleInWeather 2 none 1 := ⟨rfl, wT_mem 748 (by decide +kernel) (by decide +kernel), wT_mem 21 (by decide +kernel) (by decide +kernel), wT_mem 45 (by decide +kernel) (by decide +kernel), wT_mem 749 (by decide +kernel) (by decide +kernel), by decide +kernel, by decide +kernel, by decide +kernel⟩
theorem iy_X9_turnsAbout : sIY RX9 yX9_turnsAbout cX9_turnsAbout 6 (some .int) 0 := ⟨rfl, wT_mem 751 (by decide +kernel) (by decide +kernel), wT_mem 752 (by decide +kernel) (by decide +kernel), wT_mem 45 (by decide +kernel) (by decide +kernel), wT_mem 753 (by decide +kernel) (by decide +kernel), by decide +kernel, by decide +kernel, by decide +kernel⟩
theorem iy_X9_sizes : sIY RX9 yX9_sizes cX9_sizes 8 (some .int) 3 := ⟨rfl, wT_mem 755 (by decide +kernel) (by decide +kernel), wT_mem 756 (by decide +kernel) (by decide +kernel), wT_mem 45 (by decide +kernel) (by decide +kernel), wT_mem 757 (by decide +kernel) (by decide +kernel), by decide +kernel, by decide +kernel, by decide +kernel⟩
theorem iy_X9_hidden : sIY RX9 yX9_hidden cX9_hidden 5 (some .int) 2 := ⟨rfl, wT_mem 759 (by decide +kernel) (by decide +kernel), wT_mem 760 (by decide +kernel) (by decide +kernel), wT_mem 45 (by decide +kernel) (by decide +kernel), wT_mem 761 (by decide +kernel) (by decide +kernel), by decide +kernel, by decide +kernel, by decide +kernel⟩
theorem iy_X2_dropLast : sIY RX2 yX2_dropLast cX2_dropLast 1 none 0 := ⟨rfl, wT_mem 765 (by decide +kernel) (by decide +kernel), wT_mem 766 (by decide +kernel) (by decide +kernel), wT_mem 47 (by decide +kernel) (by decide +kernel), wT_mem 767 (by decide +kernel) (by decide +kernel), by decide +kernel, by decide +kernel, by decide +kernel⟩
theorem iy_X9_days : sIY RX9 yX9_days cX9_days 8 (some .int) 2 := ⟨rfl, wT_mem 769 (by decide +kernel) (by decide +kernel), wT_mem 770 (by decide +kernel) (by decide +kernel), wT_mem 45 (by decide +kernel) (by decide +kernel), wT_mem 771 (by decide +kernel) (by decide +kernel), by decide +kernel, by decide +kernel, by decide +kernel⟩
theorem iy_X6_draw : sIY RX6 yX6_draw cX6_draw 2 (some .int) 1 := ⟨rfl, wT_mem 773 (by decide +kernel) (by decide +kernel), wT_mem 774 (by decide +kernel) (by decide +kernel), wT_mem 54 (by decide +kernel) (by decide +kernel), wT_mem 775 (by decide +kernel) (by decide +kernel), by decide +kernel, by decide +kernel, by decide +kernel⟩
theorem iy_X9_row : sIY RX9 yX9_row cX9_row 2 (some .int) 1 := ⟨rfl, wT_mem 780 (by decide +kernel) (by decide +kernel), wT_mem 781 (by decide +kernel) (by decide +kernel), wT_mem 45 (by decide +kernel) (by decide +kernel), wT_mem 782 (by decide +kernel) (by decide +kernel), by decide +kernel, by decide +kernel, by decide +kernel⟩
theorem iy_X9_judge : sIY RX9 yX9_judge cX9_judge 2 (some .int) 0 := ⟨rfl, wT_mem 784 (by decide +kernel) (by decide +kernel), wT_mem 785 (by decide +kernel) (by decide +kernel), wT_mem 45 (by decide +kernel) (by decide +kernel), wT_mem 786 (by decide +kernel) (by decide +kernel), by decide +kernel, by decide +kernel, by decide +kernel⟩
theorem iy_X9_firstNotSo : sIY RX9 yX9_firstNotSo cX9_firstNotSo 4 (some .int) 0 := ⟨rfl, wT_mem 789 (by decide +kernel) (by decide +kernel), wT_mem 22 (by decide +kernel) (by decide +kernel), wT_mem 45 (by decide +kernel) (by decide +kernel), wT_mem 790 (by decide +kernel) (by decide +kernel), by decide +kernel, by decide +kernel, by decide +kernel⟩
theorem iy_X9_image : sIY RX9 yX9_image cX9_image 1 (some .int) 0 := ⟨rfl, wT_mem 794 (by decide +kernel) (by decide +kernel), wT_mem 795 (by decide +kernel) (by decide +kernel), wT_mem 45 (by decide +kernel) (by decide +kernel), wT_mem 796 (by decide +kernel) (by decide +kernel), by decide +kernel, by decide +kernel, by decide +kernel⟩
theorem iy_X7_become : sIY RX7 yX7_become cX7_become 2 none 1 := ⟨rfl, wT_mem 798 (by decide +kernel) (by decide +kernel), wT_mem 799 (by decide +kernel) (by decide +kernel), wT_mem 46 (by decide +kernel) (by decide +kernel), wT_mem 800 (by decide +kernel) (by decide +kernel), by decide +kernel, by decide +kernel, by decide +kernel⟩
theorem iy_X2_become : sIY RX2 yX2_become cX2_become 2 none 1 := ⟨rfl, wT_mem 802 (by decide +kernel) (by decide +kernel), wT_mem 803 (by decide +kernel) (by decide +kernel), wT_mem 47 (by decide +kernel) (by decide +kernel), wT_mem 804 (by decide +kernel) (by decide +kernel), by decide +kernel, by decide +kernel, by decide +kernel⟩
theorem iy_X8_become : sIY RX8 yX8_become cX8_become 2 none 1 := ⟨rfl, wT_mem 807 (by decide +kernel) (by decide +kernel), wT_mem 808 (by decide +kernel) (by decide +kernel), wT_mem 48 (by decide +kernel) (by decide +kernel), wT_mem 809 (by decide +kernel) (by decide +kernel), by decide +kernel, by decide +kernel, by decide +kernel⟩
theorem iy_X4_become : sIY RX4 yX4_become cX4_become 2 none 1 := ⟨rfl, wT_mem 813 (by decide +kernel) (by decide +kernel), wT_mem 814 (by decide +kernel) (by decide +kernel), wT_mem 50 (by decide +kernel) (by decide +kernel), wT_mem 815 (by decide +kernel) (by decide +kernel), by decide +kernel, by decide +kernel, by decide +kernel⟩
theorem iy_X9_on : sIY RX9 yX9_on cX9_on 1 (some .int) 0 := ⟨rfl, wT_mem 818 (by decide +kernel) (by decide +kernel), wT_mem 819 (by decide +kernel) (by decide +kernel), wT_mem 45 (by decide +kernel) (by decide +kernel), wT_mem 820 (by decide +kernel) (by decide +kernel), by decide +kernel, by decide +kernel, by decide +kernel⟩
theorem iy_X9_count : sIY RX9 yX9_count cX9_count 2 (some .int) 1 := ⟨rfl, wT_mem 822 (by decide +kernel) (by decide +kernel), wT_mem 823 (by decide +kernel) (by decide +kernel), wT_mem 45 (by decide +kernel) (by decide +kernel), wT_mem 824 (by decide +kernel) (by decide +kernel), by decide +kernel, by decide +kernel, by decide +kernel⟩
theorem iy_X2_doors : sIY RX2 yX2_doors cX2_doors 3 (some .int) 0 := ⟨rfl, wT_mem 826 (by decide +kernel) (by decide +kernel), wT_mem 827 (by decide +kernel) (by decide +kernel), wT_mem 47 (by decide +kernel) (by decide +kernel), wT_mem 828 (by decide +kernel) (by decide +kernel), by decide +kernel, by decide +kernel, by decide +kernel⟩
theorem iy_X2_allSizes : sIY RX2 yX2_allSizes cX2_allSizes 3 (some .int) 0 := ⟨rfl, wT_mem 830 (by decide +kernel) (by decide +kernel), wT_mem 831 (by decide +kernel) (by decide +kernel), wT_mem 47 (by decide +kernel) (by decide +kernel), wT_mem 832 (by decide +kernel) (by decide +kernel), by decide +kernel, by decide +kernel, by decide +kernel⟩
theorem iy_X10_letter : sIY RX10 yX10_letter cX10_letter 2 (some .int) 1 := ⟨rfl, wT_mem 919 (by decide +kernel) (by decide +kernel), wT_mem 920 (by decide +kernel) (by decide +kernel), wT_mem 55 (by decide +kernel) (by decide +kernel), wT_mem 921 (by decide +kernel) (by decide +kernel), by decide +kernel, by decide +kernel, by decide +kernel⟩
theorem iy_X10_no : sIY RX10 yX10_no cX10_no 2 (some .int) 1 := ⟨rfl, wT_mem 924 (by decide +kernel) (by decide +kernel), wT_mem 23 (by decide +kernel) (by decide +kernel), wT_mem 55 (by decide +kernel) (by decide +kernel), wT_mem 925 (by decide +kernel) (by decide +kernel), by decide +kernel, by decide +kernel, by decide +kernel⟩
theorem iy_X10_house : sIY RX10 yX10_house cX10_house 8 (some .int) 0 := ⟨rfl, wT_mem 927 (by decide +kernel) (by decide +kernel), wT_mem 928 (by decide +kernel) (by decide +kernel), wT_mem 55 (by decide +kernel) (by decide +kernel), wT_mem 929 (by decide +kernel) (by decide +kernel), by decide +kernel, by decide +kernel, by decide +kernel⟩
theorem iy_X10_statement : sIY RX10 yX10_statement cX10_statement 2 (some .int) 0 := ⟨rfl, wT_mem 932 (by decide +kernel) (by decide +kernel), wT_mem 24 (by decide +kernel) (by decide +kernel), wT_mem 55 (by decide +kernel) (by decide +kernel), wT_mem 933 (by decide +kernel) (by decide +kernel), by decide +kernel, by decide +kernel, by decide +kernel⟩
theorem iy_X10_is : sIY RX10 yX10_is cX10_is 2 (some .boolean) 1 := ⟨rfl, wT_mem 936 (by decide +kernel) (by decide +kernel), wT_mem 25 (by decide +kernel) (by decide +kernel), wT_mem 55 (by decide +kernel) (by decide +kernel), wT_mem 937 (by decide +kernel) (by decide +kernel), by decide +kernel, by decide +kernel, by decide +kernel⟩
theorem iy_X10_sign : sIY RX10 yX10_sign cX10_sign 1 (some .int) 0 := ⟨rfl, wT_mem 940 (by decide +kernel) (by decide +kernel), wT_mem 26 (by decide +kernel) (by decide +kernel), wT_mem 55 (by decide +kernel) (by decide +kernel), wT_mem 941 (by decide +kernel) (by decide +kernel), by decide +kernel, by decide +kernel, by decide +kernel⟩
theorem iy_X10_number : sIY RX10 yX10_number cX10_number 4 (some .boolean) 2 := ⟨rfl, wT_mem 944 (by decide +kernel) (by decide +kernel), wT_mem 27 (by decide +kernel) (by decide +kernel), wT_mem 55 (by decide +kernel) (by decide +kernel), wT_mem 945 (by decide +kernel) (by decide +kernel), by decide +kernel, by decide +kernel, by decide +kernel⟩
theorem iy_X10_isDigit : sSY yX10_isDigit cX10_isDigit 1 (some .boolean) 1 := ⟨wT_mem 947 (by decide +kernel) (by decide +kernel), wT_mem 55 (by decide +kernel) (by decide +kernel), wT_mem 948 (by decide +kernel) (by decide +kernel), by decide +kernel, by decide +kernel, by decide +kernel⟩
theorem iy_X10_comes : sIY RX10 yX10_comes cX10_comes 3 (some .boolean) 1 := ⟨rfl, wT_mem 953 (by decide +kernel) (by decide +kernel), wT_mem 28 (by decide +kernel) (by decide +kernel), wT_mem 55 (by decide +kernel) (by decide +kernel), wT_mem 954 (by decide +kernel) (by decide +kernel), by decide +kernel, by decide +kernel, by decide +kernel⟩
theorem iy_X10_toldOf : sIY RX10 yX10_toldOf cX10_toldOf 3 (some .int) 0 := ⟨rfl, wT_mem 957 (by decide +kernel) (by decide +kernel), wT_mem 29 (by decide +kernel) (by decide +kernel), wT_mem 55 (by decide +kernel) (by decide +kernel), wT_mem 958 (by decide +kernel) (by decide +kernel), by decide +kernel, by decide +kernel, by decide +kernel⟩
theorem iy_X10_put : sIY RX10 yX10_put cX10_put 8 none 7 := ⟨rfl, wT_mem 962 (by decide +kernel) (by decide +kernel), wT_mem 30 (by decide +kernel) (by decide +kernel), wT_mem 55 (by decide +kernel) (by decide +kernel), wT_mem 963 (by decide +kernel) (by decide +kernel), by decide +kernel, by decide +kernel, by decide +kernel⟩
theorem iy_X10_hole : sIY RX10 yX10_hole cX10_hole 3 (some .int) 2 := ⟨rfl, wT_mem 965 (by decide +kernel) (by decide +kernel), wT_mem 966 (by decide +kernel) (by decide +kernel), wT_mem 55 (by decide +kernel) (by decide +kernel), wT_mem 967 (by decide +kernel) (by decide +kernel), by decide +kernel, by decide +kernel, by decide +kernel⟩
theorem iy_X10_isHole : sIY RX10 yX10_isHole cX10_isHole 2 (some .boolean) 1 := ⟨rfl, wT_mem 970 (by decide +kernel) (by decide +kernel), wT_mem 31 (by decide +kernel) (by decide +kernel), wT_mem 55 (by decide +kernel) (by decide +kernel), wT_mem 971 (by decide +kernel) (by decide +kernel), by decide +kernel, by decide +kernel, by decide +kernel⟩
theorem iy_X10_weather : sIY RX10 yX10_weather cX10_weather 3 (some .int) 2 := ⟨rfl, wT_mem 973 (by decide +kernel) (by decide +kernel), wT_mem 974 (by decide +kernel) (by decide +kernel), wT_mem 55 (by decide +kernel) (by decide +kernel), wT_mem 975 (by decide +kernel) (by decide +kernel), by decide +kernel, by decide +kernel, by decide +kernel⟩
theorem iy_X10_set : sIY RX10 yX10_set cX10_set 4 (some .int) 2 := ⟨rfl, wT_mem 977 (by decide +kernel) (by decide +kernel), wT_mem 978 (by decide +kernel) (by decide +kernel), wT_mem 55 (by decide +kernel) (by decide +kernel), wT_mem 979 (by decide +kernel) (by decide +kernel), by decide +kernel, by decide +kernel, by decide +kernel⟩
theorem iy_X10_fan : sIY RX10 yX10_fan cX10_fan 2 (some .int) 1 := ⟨rfl, wT_mem 981 (by decide +kernel) (by decide +kernel), wT_mem 982 (by decide +kernel) (by decide +kernel), wT_mem 55 (by decide +kernel) (by decide +kernel), wT_mem 983 (by decide +kernel) (by decide +kernel), by decide +kernel, by decide +kernel, by decide +kernel⟩
theorem iy_X10_now : sIY RX10 yX10_now cX10_now 2 (some .int) 1 := ⟨rfl, wT_mem 985 (by decide +kernel) (by decide +kernel), wT_mem 986 (by decide +kernel) (by decide +kernel), wT_mem 55 (by decide +kernel) (by decide +kernel), wT_mem 987 (by decide +kernel) (by decide +kernel), by decide +kernel, by decide +kernel, by decide +kernel⟩
theorem iy_X10_size : sIY RX10 yX10_size cX10_size 4 (some .int) 2 := ⟨rfl, wT_mem 990 (by decide +kernel) (by decide +kernel), wT_mem 991 (by decide +kernel) (by decide +kernel), wT_mem 55 (by decide +kernel) (by decide +kernel), wT_mem 992 (by decide +kernel) (by decide +kernel), by decide +kernel, by decide +kernel, by decide +kernel⟩
theorem iy_X10_outside : sIY RX10 yX10_outside cX10_outside 2 (some .int) 1 := ⟨rfl, wT_mem 994 (by decide +kernel) (by decide +kernel), wT_mem 995 (by decide +kernel) (by decide +kernel), wT_mem 55 (by decide +kernel) (by decide +kernel), wT_mem 996 (by decide +kernel) (by decide +kernel), by decide +kernel, by decide +kernel, by decide +kernel⟩
theorem iy_X10_isDoor : sIY RX10 yX10_isDoor cX10_isDoor 2 (some .boolean) 1 := ⟨rfl, wT_mem 999 (by decide +kernel) (by decide +kernel), wT_mem 32 (by decide +kernel) (by decide +kernel), wT_mem 55 (by decide +kernel) (by decide +kernel), wT_mem 1000 (by decide +kernel) (by decide +kernel), by decide +kernel, by decide +kernel, by decide +kernel⟩
theorem iy_X10_outsidePush : sIY RX10 yX10_outsidePush cX10_outsidePush 6 (some .int) 1 := ⟨rfl, wT_mem 1003 (by decide +kernel) (by decide +kernel), wT_mem 33 (by decide +kernel) (by decide +kernel), wT_mem 55 (by decide +kernel) (by decide +kernel), wT_mem 1004 (by decide +kernel) (by decide +kernel), by decide +kernel, by decide +kernel, by decide +kernel⟩
theorem iy_X10_push : sIY RX10 yX10_push cX10_push 2 (some .int) 1 := ⟨rfl, wT_mem 1006 (by decide +kernel) (by decide +kernel), wT_mem 1007 (by decide +kernel) (by decide +kernel), wT_mem 55 (by decide +kernel) (by decide +kernel), wT_mem 1008 (by decide +kernel) (by decide +kernel), by decide +kernel, by decide +kernel, by decide +kernel⟩
theorem iy_X10_settle : sIY RX10 yX10_settle cX10_settle 6 none 0 := ⟨rfl, wT_mem 1011 (by decide +kernel) (by decide +kernel), wT_mem 34 (by decide +kernel) (by decide +kernel), wT_mem 55 (by decide +kernel) (by decide +kernel), wT_mem 1012 (by decide +kernel) (by decide +kernel), by decide +kernel, by decide +kernel, by decide +kernel⟩
theorem iy_X10_flows : sIY RX10 yX10_flows cX10_flows 5 (some .int) 1 := ⟨rfl, wT_mem 1015 (by decide +kernel) (by decide +kernel), wT_mem 35 (by decide +kernel) (by decide +kernel), wT_mem 55 (by decide +kernel) (by decide +kernel), wT_mem 1016 (by decide +kernel) (by decide +kernel), by decide +kernel, by decide +kernel, by decide +kernel⟩
theorem iy_X10_root : sIY RX10 yX10_root cX10_root 3 (some .int) 1 := ⟨rfl, wT_mem 1020 (by decide +kernel) (by decide +kernel), wT_mem 36 (by decide +kernel) (by decide +kernel), wT_mem 55 (by decide +kernel) (by decide +kernel), wT_mem 1021 (by decide +kernel) (by decide +kernel), by decide +kernel, by decide +kernel, by decide +kernel⟩
theorem iy_X10_flow : sIY RX10 yX10_flow cX10_flow 2 (some .int) 1 := ⟨rfl, wT_mem 1023 (by decide +kernel) (by decide +kernel), wT_mem 1024 (by decide +kernel) (by decide +kernel), wT_mem 55 (by decide +kernel) (by decide +kernel), wT_mem 1025 (by decide +kernel) (by decide +kernel), by decide +kernel, by decide +kernel, by decide +kernel⟩
theorem iy_X10_lean : sIY RX10 yX10_lean cX10_lean 2 (some .int) 1 := ⟨rfl, wT_mem 1027 (by decide +kernel) (by decide +kernel), wT_mem 1028 (by decide +kernel) (by decide +kernel), wT_mem 55 (by decide +kernel) (by decide +kernel), wT_mem 1029 (by decide +kernel) (by decide +kernel), by decide +kernel, by decide +kernel, by decide +kernel⟩
theorem iy_X10_leans : sIY RX10 yX10_leans cX10_leans 3 (some .int) 1 := ⟨rfl, wT_mem 1032 (by decide +kernel) (by decide +kernel), wT_mem 37 (by decide +kernel) (by decide +kernel), wT_mem 55 (by decide +kernel) (by decide +kernel), wT_mem 1033 (by decide +kernel) (by decide +kernel), by decide +kernel, by decide +kernel, by decide +kernel⟩
theorem iy_X10_coal : sIY RX10 yX10_coal cX10_coal 1 (some .int) 0 := ⟨rfl, wT_mem 1035 (by decide +kernel) (by decide +kernel), wT_mem 1036 (by decide +kernel) (by decide +kernel), wT_mem 55 (by decide +kernel) (by decide +kernel), wT_mem 1037 (by decide +kernel) (by decide +kernel), by decide +kernel, by decide +kernel, by decide +kernel⟩
theorem iy_X10_flowsIn : sIY RX10 yX10_flowsIn cX10_flowsIn 3 (some .int) 0 := ⟨rfl, wT_mem 1040 (by decide +kernel) (by decide +kernel), wT_mem 38 (by decide +kernel) (by decide +kernel), wT_mem 55 (by decide +kernel) (by decide +kernel), wT_mem 1041 (by decide +kernel) (by decide +kernel), by decide +kernel, by decide +kernel, by decide +kernel⟩
theorem iy_X10_smokes : sIY RX10 yX10_smokes cX10_smokes 1 (some .int) 0 := ⟨rfl, wT_mem 1043 (by decide +kernel) (by decide +kernel), wT_mem 1044 (by decide +kernel) (by decide +kernel), wT_mem 55 (by decide +kernel) (by decide +kernel), wT_mem 1045 (by decide +kernel) (by decide +kernel), by decide +kernel, by decide +kernel, by decide +kernel⟩
theorem iy_X10_smoke : sIY RX10 yX10_smoke cX10_smoke 2 (some .boolean) 0 := ⟨rfl, wT_mem 1048 (by decide +kernel) (by decide +kernel), wT_mem 39 (by decide +kernel) (by decide +kernel), wT_mem 55 (by decide +kernel) (by decide +kernel), wT_mem 1049 (by decide +kernel) (by decide +kernel), by decide +kernel, by decide +kernel, by decide +kernel⟩
theorem iy_X10_stopped : sIY RX10 yX10_stopped cX10_stopped 5 (some .int) 1 := ⟨rfl, wT_mem 1051 (by decide +kernel) (by decide +kernel), wT_mem 1052 (by decide +kernel) (by decide +kernel), wT_mem 55 (by decide +kernel) (by decide +kernel), wT_mem 1053 (by decide +kernel) (by decide +kernel), by decide +kernel, by decide +kernel, by decide +kernel⟩
theorem iy_X10_stop : sIY RX10 yX10_stop cX10_stop 5 (some .long) 1 := ⟨rfl, wT_mem 1056 (by decide +kernel) (by decide +kernel), wT_mem 40 (by decide +kernel) (by decide +kernel), wT_mem 55 (by decide +kernel) (by decide +kernel), wT_mem 1057 (by decide +kernel) (by decide +kernel), by decide +kernel, by decide +kernel, by decide +kernel⟩
theorem iy_X10_open : sIY RX10 yX10_open cX10_open 4 none 1 := ⟨rfl, wT_mem 1062 (by decide +kernel) (by decide +kernel), wT_mem 41 (by decide +kernel) (by decide +kernel), wT_mem 55 (by decide +kernel) (by decide +kernel), wT_mem 1063 (by decide +kernel) (by decide +kernel), by decide +kernel, by decide +kernel, by decide +kernel⟩
theorem iy_X10_best : sIY RX10 yX10_best cX10_best 12 (some .int) 2 := ⟨rfl, wT_mem 1065 (by decide +kernel) (by decide +kernel), wT_mem 1066 (by decide +kernel) (by decide +kernel), wT_mem 55 (by decide +kernel) (by decide +kernel), wT_mem 1067 (by decide +kernel) (by decide +kernel), by decide +kernel, by decide +kernel, by decide +kernel⟩
theorem iy_X10_pairs : sIY RX10 yX10_pairs cX10_pairs 7 (some .int) 1 := ⟨rfl, wT_mem 1070 (by decide +kernel) (by decide +kernel), wT_mem 1071 (by decide +kernel) (by decide +kernel), wT_mem 55 (by decide +kernel) (by decide +kernel), wT_mem 1072 (by decide +kernel) (by decide +kernel), by decide +kernel, by decide +kernel, by decide +kernel⟩
theorem iy_X10_shut : sIY RX10 yX10_shut cX10_shut 7 (some .int) 2 := ⟨rfl, wT_mem 1075 (by decide +kernel) (by decide +kernel), wT_mem 1076 (by decide +kernel) (by decide +kernel), wT_mem 55 (by decide +kernel) (by decide +kernel), wT_mem 1077 (by decide +kernel) (by decide +kernel), by decide +kernel, by decide +kernel, by decide +kernel⟩
theorem iy_X10_chair : sIY RX10 yX10_chair cX10_chair 6 (some .int) 0 := ⟨rfl, wT_mem 1079 (by decide +kernel) (by decide +kernel), wT_mem 1080 (by decide +kernel) (by decide +kernel), wT_mem 55 (by decide +kernel) (by decide +kernel), wT_mem 1081 (by decide +kernel) (by decide +kernel), by decide +kernel, by decide +kernel, by decide +kernel⟩
theorem iy_X10_finger : sIY RX10 yX10_finger cX10_finger 7 (some .int) 0 := ⟨rfl, wT_mem 1083 (by decide +kernel) (by decide +kernel), wT_mem 1084 (by decide +kernel) (by decide +kernel), wT_mem 55 (by decide +kernel) (by decide +kernel), wT_mem 1085 (by decide +kernel) (by decide +kernel), by decide +kernel, by decide +kernel, by decide +kernel⟩
theorem iy_X10_number_ : sIY RX10 yX10_number_ cX10_number_ 2 (some .int) 1 := ⟨rfl, wT_mem 1087 (by decide +kernel) (by decide +kernel), wT_mem 1088 (by decide +kernel) (by decide +kernel), wT_mem 55 (by decide +kernel) (by decide +kernel), wT_mem 1089 (by decide +kernel) (by decide +kernel), by decide +kernel, by decide +kernel, by decide +kernel⟩
theorem iy_X10_by : sIY RX10 yX10_by cX10_by 10 (some .int) 4 := ⟨rfl, wT_mem 1092 (by decide +kernel) (by decide +kernel), wT_mem 42 (by decide +kernel) (by decide +kernel), wT_mem 55 (by decide +kernel) (by decide +kernel), wT_mem 1093 (by decide +kernel) (by decide +kernel), by decide +kernel, by decide +kernel, by decide +kernel⟩
theorem iy_X10_winter : sIY RX10 yX10_winter cX10_winter 3 (some .int) 0 := ⟨rfl, wT_mem 1095 (by decide +kernel) (by decide +kernel), wT_mem 1096 (by decide +kernel) (by decide +kernel), wT_mem 55 (by decide +kernel) (by decide +kernel), wT_mem 1097 (by decide +kernel) (by decide +kernel), by decide +kernel, by decide +kernel, by decide +kernel⟩
theorem iy_X10_turnsAbout : sIY RX10 yX10_turnsAbout cX10_turnsAbout 6 (some .int) 0 := ⟨rfl, wT_mem 1099 (by decide +kernel) (by decide +kernel), wT_mem 1100 (by decide +kernel) (by decide +kernel), wT_mem 55 (by decide +kernel) (by decide +kernel), wT_mem 1101 (by decide +kernel) (by decide +kernel), by decide +kernel, by decide +kernel, by decide +kernel⟩
theorem iy_X10_sizes : sIY RX10 yX10_sizes cX10_sizes 9 (some .int) 3 := ⟨rfl, wT_mem 1103 (by decide +kernel) (by decide +kernel), wT_mem 1104 (by decide +kernel) (by decide +kernel), wT_mem 55 (by decide +kernel) (by decide +kernel), wT_mem 1105 (by decide +kernel) (by decide +kernel), by decide +kernel, by decide +kernel, by decide +kernel⟩
theorem iy_X10_hidden : sIY RX10 yX10_hidden cX10_hidden 5 (some .int) 2 := ⟨rfl, wT_mem 1107 (by decide +kernel) (by decide +kernel), wT_mem 1108 (by decide +kernel) (by decide +kernel), wT_mem 55 (by decide +kernel) (by decide +kernel), wT_mem 1109 (by decide +kernel) (by decide +kernel), by decide +kernel, by decide +kernel, by decide +kernel⟩
theorem iy_X10_days : sIY RX10 yX10_days cX10_days 7 (some .int) 2 := ⟨rfl, wT_mem 1111 (by decide +kernel) (by decide +kernel), wT_mem 1112 (by decide +kernel) (by decide +kernel), wT_mem 55 (by decide +kernel) (by decide +kernel), wT_mem 1113 (by decide +kernel) (by decide +kernel), by decide +kernel, by decide +kernel, by decide +kernel⟩
theorem iy_X10_draw : sIY RX10 yX10_draw cX10_draw 2 (some .int) 1 := ⟨rfl, wT_mem 1116 (by decide +kernel) (by decide +kernel), wT_mem 43 (by decide +kernel) (by decide +kernel), wT_mem 55 (by decide +kernel) (by decide +kernel), wT_mem 1117 (by decide +kernel) (by decide +kernel), by decide +kernel, by decide +kernel, by decide +kernel⟩
theorem iy_X10_row : sIY RX10 yX10_row cX10_row 2 (some .int) 1 := ⟨rfl, wT_mem 1122 (by decide +kernel) (by decide +kernel), wT_mem 1123 (by decide +kernel) (by decide +kernel), wT_mem 55 (by decide +kernel) (by decide +kernel), wT_mem 1124 (by decide +kernel) (by decide +kernel), by decide +kernel, by decide +kernel, by decide +kernel⟩
theorem iy_X10_judge : sIY RX10 yX10_judge cX10_judge 3 (some .int) 0 := ⟨rfl, wT_mem 1126 (by decide +kernel) (by decide +kernel), wT_mem 1127 (by decide +kernel) (by decide +kernel), wT_mem 55 (by decide +kernel) (by decide +kernel), wT_mem 1128 (by decide +kernel) (by decide +kernel), by decide +kernel, by decide +kernel, by decide +kernel⟩
theorem iy_X10_image : sIY RX10 yX10_image cX10_image 2 (some .int) 0 := ⟨rfl, wT_mem 1130 (by decide +kernel) (by decide +kernel), wT_mem 1131 (by decide +kernel) (by decide +kernel), wT_mem 55 (by decide +kernel) (by decide +kernel), wT_mem 1132 (by decide +kernel) (by decide +kernel), by decide +kernel, by decide +kernel, by decide +kernel⟩
theorem iy_X10_on : sIY RX10 yX10_on cX10_on 2 (some .int) 0 := ⟨rfl, wT_mem 1134 (by decide +kernel) (by decide +kernel), wT_mem 1135 (by decide +kernel) (by decide +kernel), wT_mem 55 (by decide +kernel) (by decide +kernel), wT_mem 1136 (by decide +kernel) (by decide +kernel), by decide +kernel, by decide +kernel, by decide +kernel⟩
theorem iy_X10_count : sIY RX10 yX10_count cX10_count 4 (some .int) 1 := ⟨rfl, wT_mem 1138 (by decide +kernel) (by decide +kernel), wT_mem 1139 (by decide +kernel) (by decide +kernel), wT_mem 55 (by decide +kernel) (by decide +kernel), wT_mem 1140 (by decide +kernel) (by decide +kernel), by decide +kernel, by decide +kernel, by decide +kernel⟩
theorem ml_X9_57 : Cond.methodLink RX9 57 yX9_refuse ∈ wT := wT_mem 321 (by decide +kernel) (by decide +kernel)
theorem ml_X9_102 : Cond.methodLink RX9 102 yX5_at ∈ wT := wT_mem 325 (by decide +kernel) (by decide +kernel)
theorem ml_X9_158 : Cond.methodLink RX9 158 yX5_put ∈ wT := wT_mem 328 (by decide +kernel) (by decide +kernel)
theorem ml_X9_65 : Cond.methodLink RX9 65 yX4_isFull ∈ wT := wT_mem 331 (by decide +kernel) (by decide +kernel)
theorem ml_X9_71 : Cond.methodLink RX9 71 yX4_add ∈ wT := wT_mem 335 (by decide +kernel) (by decide +kernel)
theorem ml_X4_23 : Cond.methodLink RX4 23 yX4_isFull ∈ wT := wT_mem 339 (by decide +kernel) (by decide +kernel)
theorem ml_X4_27 : Cond.methodLink RX4 27 yX5_put ∈ wT := wT_mem 340 (by decide +kernel) (by decide +kernel)
theorem ml_X9_79 : Cond.methodLink RX9 79 yX3_faultOfLetters ∈ wT := wT_mem 345 (by decide +kernel) (by decide +kernel)
theorem ml_X3_28 : Cond.methodLink RX3 28 yX3_passStatement ∈ wT := wT_mem 349 (by decide +kernel) (by decide +kernel)
theorem ml_X3_60 : Cond.methodLink RX3 60 yX4_clear ∈ wT := wT_mem 353 (by decide +kernel) (by decide +kernel)
theorem ml_X3_63 : Cond.methodLink RX3 63 yX4_get ∈ wT := wT_mem 357 (by decide +kernel) (by decide +kernel)
theorem ml_X4_33 : Cond.methodLink RX4 33 yX5_at ∈ wT := wT_mem 361 (by decide +kernel) (by decide +kernel)
theorem ml_X3_70 : Cond.methodLink RX3 70 yX3_shapeBehind ∈ wT := wT_mem 362 (by decide +kernel) (by decide +kernel)
theorem ml_X3_87 : Cond.methodLink RX3 87 yX3_passPart ∈ wT := wT_mem 422 (by decide +kernel) (by decide +kernel)
theorem ml_X3_101 : Cond.methodLink RX3 101 yX3_passNumber ∈ wT := wT_mem 426 (by decide +kernel) (by decide +kernel)
theorem ml_X3_111 : Cond.methodLink RX3 111 yX4_add ∈ wT := wT_mem 430 (by decide +kernel) (by decide +kernel)
theorem ml_X3_105 : Cond.methodLink RX3 105 yX3_passKind ∈ wT := wT_mem 431 (by decide +kernel) (by decide +kernel)
theorem ml_X3_108 : Cond.methodLink RX3 108 yX3_passSign ∈ wT := wT_mem 493 (by decide +kernel) (by decide +kernel)
theorem ml_X9_83 : Cond.methodLink RX9 83 yX3_takeStatements ∈ wT := wT_mem 497 (by decide +kernel) (by decide +kernel)
theorem ml_X3_57 : Cond.methodLink RX3 57 yX3_takeStatement ∈ wT := wT_mem 501 (by decide +kernel) (by decide +kernel)
theorem ml_X3_119 : Cond.methodLink RX3 119 yX3_takeRooms ∈ wT := wT_mem 505 (by decide +kernel) (by decide +kernel)
theorem ml_X3_132 : Cond.methodLink RX3 132 yX2_roomsToldOf ∈ wT := wT_mem 509 (by decide +kernel) (by decide +kernel)
theorem ml_X2_37 : Cond.methodLink RX2 37 yX5_at ∈ wT := wT_mem 513 (by decide +kernel) (by decide +kernel)
theorem ml_X3_122 : Cond.methodLink RX3 122 yX3_takeDoor ∈ wT := wT_mem 515 (by decide +kernel) (by decide +kernel)
theorem ml_X3_135 : Cond.methodLink RX3 135 yX2_isFull ∈ wT := wT_mem 519 (by decide +kernel) (by decide +kernel)
theorem ml_X3_138 : Cond.methodLink RX3 138 yX2_add ∈ wT := wT_mem 523 (by decide +kernel) (by decide +kernel)
theorem ml_X2_43 : Cond.methodLink RX2 43 yX2_isFull ∈ wT := wT_mem 527 (by decide +kernel) (by decide +kernel)
theorem ml_X2_47 : Cond.methodLink RX2 47 yX5_put ∈ wT := wT_mem 528 (by decide +kernel) (by decide +kernel)
theorem ml_X3_126 : Cond.methodLink RX3 126 yX3_takeHole ∈ wT := wT_mem 529 (by decide +kernel) (by decide +kernel)
theorem ml_X3_129 : Cond.methodLink RX3 129 yX3_takeWeather ∈ wT := wT_mem 533 (by decide +kernel) (by decide +kernel)
theorem ml_X3_141 : Cond.methodLink RX3 141 yX8_isFull ∈ wT := wT_mem 537 (by decide +kernel) (by decide +kernel)
theorem ml_X3_142 : Cond.methodLink RX3 142 yX8_add ∈ wT := wT_mem 541 (by decide +kernel) (by decide +kernel)
theorem ml_X8_25 : Cond.methodLink RX8 25 yX8_isFull ∈ wT := wT_mem 545 (by decide +kernel) (by decide +kernel)
theorem ml_X8_29 : Cond.methodLink RX8 29 yX5_put ∈ wT := wT_mem 546 (by decide +kernel) (by decide +kernel)
theorem ml_X9_86 : Cond.methodLink RX9 86 yX4_clear ∈ wT := wT_mem 547 (by decide +kernel) (by decide +kernel)
theorem ml_X9_93 : Cond.methodLink RX9 93 yX2_has ∈ wT := wT_mem 553 (by decide +kernel) (by decide +kernel)
theorem ml_X9_140 : Cond.methodLink RX9 140 yX9_nowOf ∈ wT := wT_mem 565 (by decide +kernel) (by decide +kernel)
theorem ml_X9_155 : Cond.methodLink RX9 155 yX9_refuseFar ∈ wT := wT_mem 577 (by decide +kernel) (by decide +kernel)
theorem ml_X9_162 : Cond.methodLink RX9 162 yX2_isDoor ∈ wT := wT_mem 590 (by decide +kernel) (by decide +kernel)
theorem ml_X9_165 : Cond.methodLink RX9 165 yX2_outsidePush ∈ wT := wT_mem 594 (by decide +kernel) (by decide +kernel)
theorem ml_X2_71 : Cond.methodLink RX2 71 yX0_windAt ∈ wT := wT_mem 598 (by decide +kernel) (by decide +kernel)
theorem ml_X9_172 : Cond.methodLink RX9 172 yX9_settleNow ∈ wT := wT_mem 606 (by decide +kernel) (by decide +kernel)
theorem ml_X9_217 : Cond.methodLink RX9 217 yX1_takeSizes ∈ wT := wT_mem 610 (by decide +kernel) (by decide +kernel)
theorem ml_X1_52 : Cond.methodLink RX1 52 yX5_at ∈ wT := wT_mem 614 (by decide +kernel) (by decide +kernel)
theorem ml_X1_58 : Cond.methodLink RX1 58 yX5_put ∈ wT := wT_mem 615 (by decide +kernel) (by decide +kernel)
theorem ml_X9_220 : Cond.methodLink RX9 220 yX1_settle ∈ wT := wT_mem 616 (by decide +kernel) (by decide +kernel)
theorem ml_X1_62 : Cond.methodLink RX1 62 yX1_begin ∈ wT := wT_mem 620 (by decide +kernel) (by decide +kernel)
theorem ml_X1_77 : Cond.methodLink RX1 77 yX2_isDoor ∈ wT := wT_mem 624 (by decide +kernel) (by decide +kernel)
theorem ml_X1_87 : Cond.methodLink RX1 87 yX2_outsidePush ∈ wT := wT_mem 625 (by decide +kernel) (by decide +kernel)
theorem ml_X1_66 : Cond.methodLink RX1 66 yX5_copy ∈ wT := wT_mem 626 (by decide +kernel) (by decide +kernel)
theorem ml_X1_70 : Cond.methodLink RX1 70 yX1_doRound ∈ wT := wT_mem 629 (by decide +kernel) (by decide +kernel)
theorem ml_X1_94 : Cond.methodLink RX1 94 yX1_flowThrough ∈ wT := wT_mem 633 (by decide +kernel) (by decide +kernel)
theorem ml_X1_73 : Cond.methodLink RX1 73 yX1_isAsEarlier ∈ wT := wT_mem 644 (by decide +kernel) (by decide +kernel)
theorem ml_X9_178 : Cond.methodLink RX9 178 yX1_flowThrough ∈ wT := wT_mem 652 (by decide +kernel) (by decide +kernel)
theorem ml_X9_181 : Cond.methodLink RX9 181 yX9_leanOf ∈ wT := wT_mem 657 (by decide +kernel) (by decide +kernel)
theorem ml_X9_184 : Cond.methodLink RX9 184 yX9_coalWithout ∈ wT := wT_mem 665 (by decide +kernel) (by decide +kernel)
theorem ml_X9_210 : Cond.methodLink RX9 210 yX1_inflow ∈ wT := wT_mem 669 (by decide +kernel) (by decide +kernel)
theorem ml_X9_187 : Cond.methodLink RX9 187 yX1_smoking ∈ wT := wT_mem 678 (by decide +kernel) (by decide +kernel)
theorem ml_X9_191 : Cond.methodLink RX9 191 yX2_canBeStopped ∈ wT := wT_mem 690 (by decide +kernel) (by decide +kernel)
theorem ml_X2_61 : Cond.methodLink RX2 61 yX2_isDoor ∈ wT := wT_mem 694 (by decide +kernel) (by decide +kernel)
theorem ml_X9_195 : Cond.methodLink RX9 195 yX9_idleAlone ∈ wT := wT_mem 705 (by decide +kernel) (by decide +kernel)
theorem ml_X9_203 : Cond.methodLink RX9 203 yX1_throughRoom ∈ wT := wT_mem 718 (by decide +kernel) (by decide +kernel)
theorem ml_X9_206 : Cond.methodLink RX9 206 yX9_settleSized ∈ wT := wT_mem 726 (by decide +kernel) (by decide +kernel)
theorem ml_X9_255 : Cond.methodLink RX9 255 yX1_changeSize ∈ wT := wT_mem 730 (by decide +kernel) (by decide +kernel)
theorem ml_X9_213 : Cond.methodLink RX9 213 yX0_become ∈ wT := wT_mem 738 (by decide +kernel) (by decide +kernel)
theorem ml_X9_224 : Cond.methodLink RX9 224 yX9_settleInWeather ∈ wT := wT_mem 746 (by decide +kernel) (by decide +kernel)
theorem ml_X9_227 : Cond.methodLink RX9 227 yX2_isFull ∈ wT := wT_mem 762 (by decide +kernel) (by decide +kernel)
theorem ml_X9_228 : Cond.methodLink RX9 228 yX2_add ∈ wT := wT_mem 763 (by decide +kernel) (by decide +kernel)
theorem ml_X9_231 : Cond.methodLink RX9 231 yX2_dropLast ∈ wT := wT_mem 764 (by decide +kernel) (by decide +kernel)
theorem ml_X9_237 : Cond.methodLink RX9 237 yX6_draw ∈ wT := wT_mem 772 (by decide +kernel) (by decide +kernel)
theorem ml_X9_243 : Cond.methodLink RX9 243 yX9_firstNotSo ∈ wT := wT_mem 787 (by decide +kernel) (by decide +kernel)
theorem ml_X9_258 : Cond.methodLink RX9 258 yX4_get ∈ wT := wT_mem 791 (by decide +kernel) (by decide +kernel)
theorem ml_X9_246 : Cond.methodLink RX9 246 yX7_become ∈ wT := wT_mem 797 (by decide +kernel) (by decide +kernel)
theorem ml_X7_51 : Cond.methodLink RX7 51 yX2_become ∈ wT := wT_mem 801 (by decide +kernel) (by decide +kernel)
theorem ml_X2_57 : Cond.methodLink RX2 57 yX5_copy ∈ wT := wT_mem 805 (by decide +kernel) (by decide +kernel)
theorem ml_X7_55 : Cond.methodLink RX7 55 yX8_become ∈ wT := wT_mem 806 (by decide +kernel) (by decide +kernel)
theorem ml_X8_35 : Cond.methodLink RX8 35 yX5_copy ∈ wT := wT_mem 810 (by decide +kernel) (by decide +kernel)
theorem ml_X7_67 : Cond.methodLink RX7 67 yX0_become ∈ wT := wT_mem 811 (by decide +kernel) (by decide +kernel)
theorem ml_X7_70 : Cond.methodLink RX7 70 yX4_become ∈ wT := wT_mem 812 (by decide +kernel) (by decide +kernel)
theorem ml_X4_37 : Cond.methodLink RX4 37 yX5_copy ∈ wT := wT_mem 816 (by decide +kernel) (by decide +kernel)
theorem ml_X9_248 : Cond.methodLink RX9 248 yX2_doors ∈ wT := wT_mem 825 (by decide +kernel) (by decide +kernel)
theorem ml_X9_251 : Cond.methodLink RX9 251 yX2_allSizes ∈ wT := wT_mem 829 (by decide +kernel) (by decide +kernel)
theorem ml_X10_68 : Cond.methodLink RX10 68 yX10_no ∈ wT := wT_mem 922 (by decide +kernel) (by decide +kernel)
theorem ml_X10_116 : Cond.methodLink RX10 116 yX10_statement ∈ wT := wT_mem 930 (by decide +kernel) (by decide +kernel)
theorem ml_X10_86 : Cond.methodLink RX10 86 yX10_is ∈ wT := wT_mem 934 (by decide +kernel) (by decide +kernel)
theorem ml_X10_78 : Cond.methodLink RX10 78 yX10_sign ∈ wT := wT_mem 938 (by decide +kernel) (by decide +kernel)
theorem ml_X10_90 : Cond.methodLink RX10 90 yX10_number ∈ wT := wT_mem 942 (by decide +kernel) (by decide +kernel)
theorem ml_X10_82 : Cond.methodLink RX10 82 yX10_isDigit ∈ wT := wT_mem 946 (by decide +kernel) (by decide +kernel)
theorem ml_X10_119 : Cond.methodLink RX10 119 yX10_comes ∈ wT := wT_mem 951 (by decide +kernel) (by decide +kernel)
theorem ml_X10_106 : Cond.methodLink RX10 106 yX10_toldOf ∈ wT := wT_mem 955 (by decide +kernel) (by decide +kernel)
theorem ml_X10_109 : Cond.methodLink RX10 109 yX10_put ∈ wT := wT_mem 960 (by decide +kernel) (by decide +kernel)
theorem ml_X10_122 : Cond.methodLink RX10 122 yX10_isHole ∈ wT := wT_mem 968 (by decide +kernel) (by decide +kernel)
theorem ml_X10_129 : Cond.methodLink RX10 129 yX10_isDoor ∈ wT := wT_mem 997 (by decide +kernel) (by decide +kernel)
theorem ml_X10_138 : Cond.methodLink RX10 138 yX10_outsidePush ∈ wT := wT_mem 1001 (by decide +kernel) (by decide +kernel)
theorem ml_X10_144 : Cond.methodLink RX10 144 yX10_settle ∈ wT := wT_mem 1009 (by decide +kernel) (by decide +kernel)
theorem ml_X10_141 : Cond.methodLink RX10 141 yX10_flows ∈ wT := wT_mem 1013 (by decide +kernel) (by decide +kernel)
theorem ml_X10_135 : Cond.methodLink RX10 135 yX10_root ∈ wT := wT_mem 1018 (by decide +kernel) (by decide +kernel)
theorem ml_X10_147 : Cond.methodLink RX10 147 yX10_leans ∈ wT := wT_mem 1030 (by decide +kernel) (by decide +kernel)
theorem ml_X10_150 : Cond.methodLink RX10 150 yX10_flowsIn ∈ wT := wT_mem 1038 (by decide +kernel) (by decide +kernel)
theorem ml_X10_153 : Cond.methodLink RX10 153 yX10_smoke ∈ wT := wT_mem 1046 (by decide +kernel) (by decide +kernel)
theorem ml_X10_159 : Cond.methodLink RX10 159 yX10_stop ∈ wT := wT_mem 1054 (by decide +kernel) (by decide +kernel)
theorem ml_X10_163 : Cond.methodLink RX10 163 yX10_coal ∈ wT := wT_mem 1059 (by decide +kernel) (by decide +kernel)
theorem ml_X10_166 : Cond.methodLink RX10 166 yX10_open ∈ wT := wT_mem 1060 (by decide +kernel) (by decide +kernel)
theorem ml_X10_175 : Cond.methodLink RX10 175 yX10_stopped ∈ wT := wT_mem 1073 (by decide +kernel) (by decide +kernel)
theorem ml_X10_178 : Cond.methodLink RX10 178 yX10_by ∈ wT := wT_mem 1090 (by decide +kernel) (by decide +kernel)
theorem ml_X10_188 : Cond.methodLink RX10 188 yX10_draw ∈ wT := wT_mem 1114 (by decide +kernel) (by decide +kernel)
end
section
theorem sMathI : Cond.initialized "java/lang/Math" ∈ wT := wT_mem 51 (by decide +kernel) (by decide +kernel)
theorem sMaxS : Cond.static Lib.Math.max.name ∈ wT := wT_mem 184 (by decide +kernel) (by decide +kernel)
theorem sMaxC : Cond.code Lib.Math.max.name Lib.Math.max.code 2 (some .int) ∈ wT := wT_mem 185 (by decide +kernel) (by decide +kernel)
theorem sMinS : Cond.static Lib.Math.min.name ∈ wT := wT_mem 453 (by decide +kernel) (by decide +kernel)
theorem sMinC : Cond.code Lib.Math.min.name Lib.Math.min.code 2 (some .int) ∈ wT := wT_mem 454 (by decide +kernel) (by decide +kernel)
theorem sAbsS : Cond.static Lib.Math.abs.name ∈ wT := wT_mem 638 (by decide +kernel) (by decide +kernel)
theorem sAbsC : Cond.code Lib.Math.abs.name Lib.Math.abs.code 1 (some .int) ∈ wT := wT_mem 639 (by decide +kernel) (by decide +kernel)
theorem mm_X4_7 : Cond.methodLink RX4 7 Lib.Math.max.name ∈ wT := wT_mem 183 (by decide +kernel) (by decide +kernel)
theorem ml_X3_74 : Cond.methodLink RX3 74 yJ0_isEmpty_aae02 ∈ wT := wT_mem 370 (by decide +kernel) (by decide +kernel)
theorem ml_X3_79 : Cond.methodLink RX3 79 yJ0_length_8abf5 ∈ wT := wT_mem 374 (by decide +kernel) (by decide +kernel)
theorem ml_X3_83 : Cond.methodLink RX3 83 yJ0_charAt_5068e ∈ wT := wT_mem 384 (by decide +kernel) (by decide +kernel)
theorem ml_X3_116 : Cond.methodLink RX3 116 yJ0_indexOf_0f7a4 ∈ wT := wT_mem 436 (by decide +kernel) (by decide +kernel)
theorem mm_X2_51 : Cond.methodLink RX2 51 Lib.Math.max.name ∈ wT := wT_mem 514 (by decide +kernel) (by decide +kernel)
theorem mm_X1_104 : Cond.methodLink RX1 104 Lib.Math.abs.name ∈ wT := wT_mem 637 (by decide +kernel) (by decide +kernel)
theorem mm_X1_109 : Cond.methodLink RX1 109 Lib.Math.min.name ∈ wT := wT_mem 640 (by decide +kernel) (by decide +kernel)
theorem ml_X1_98 : Cond.methodLink RX1 98 yJ6_compare_7cf53 ∈ wT := wT_mem 641 (by decide +kernel) (by decide +kernel)
theorem mm_X1_112 : Cond.methodLink RX1 112 Lib.Math.max.name ∈ wT := wT_mem 673 (by decide +kernel) (by decide +kernel)
theorem ml_X2_65 : Cond.methodLink RX2 65 yJ6_bitCount_0f7a4 ∈ wT := wT_mem 695 (by decide +kernel) (by decide +kernel)
theorem mm_X9_198 : Cond.methodLink RX9 198 Lib.Math.abs.name ∈ wT := wT_mem 713 (by decide +kernel) (by decide +kernel)
theorem mm_X9_261 : Cond.methodLink RX9 261 Lib.Math.min.name ∈ wT := wT_mem 792 (by decide +kernel) (by decide +kernel)
theorem ml_X10_95 : Cond.methodLink RX10 95 yJ0_indexOf_0f7a4 ∈ wT := wT_mem 950 (by decide +kernel) (by decide +kernel)
theorem mm_X10_100 : Cond.methodLink RX10 100 Lib.Math.max.name ∈ wT := wT_mem 959 (by decide +kernel) (by decide +kernel)
theorem mm_X10_132 : Cond.methodLink RX10 132 Lib.Math.abs.name ∈ wT := wT_mem 1017 (by decide +kernel) (by decide +kernel)
theorem ml_X10_170 : Cond.methodLink RX10 170 yJ6_bitCount_0f7a4 ∈ wT := wT_mem 1068 (by decide +kernel) (by decide +kernel)
theorem iy_J6_compare_7cf53 : sSY yJ6_compare_7cf53 cJ6_compare_7cf53 2 (some .int) 2 := ⟨wT_mem 642 (by decide +kernel) (by decide +kernel), wT_mem 62 (by decide +kernel) (by decide +kernel), wT_mem 643 (by decide +kernel) (by decide +kernel), by decide +kernel, by decide +kernel, by decide +kernel⟩
theorem iy_J6_bitCount_0f7a4 : sSY yJ6_bitCount_0f7a4 cJ6_bitCount_0f7a4 1 (some .int) 1 := ⟨wT_mem 696 (by decide +kernel) (by decide +kernel), wT_mem 62 (by decide +kernel) (by decide +kernel), wT_mem 697 (by decide +kernel) (by decide +kernel), by decide +kernel, by decide +kernel, by decide +kernel⟩
theorem kc_J2_227 : Cond.constant RJ2 227 (65536) ∈ wT := wT_mem 463 (by decide +kernel) (by decide +kernel)
theorem kc_J11_110 : Cond.constant RJ11 110 (55232) ∈ wT := wT_mem 488 (by decide +kernel) (by decide +kernel)
theorem kc_J11_76 : Cond.constant RJ11 76 (56320) ∈ wT := wT_mem 492 (by decide +kernel) (by decide +kernel)
theorem kc_X9_254 : Cond.constant RX9 254 (1000000000) ∈ wT := wT_mem 581 (by decide +kernel) (by decide +kernel)
theorem kc_J6_265 : Cond.constant RJ6 265 (1431655765) ∈ wT := wT_mem 698 (by decide +kernel) (by decide +kernel)
theorem kc_J6_266 : Cond.constant RJ6 266 (858993459) ∈ wT := wT_mem 699 (by decide +kernel) (by decide +kernel)
theorem kc_J6_267 : Cond.constant RJ6 267 (252645135) ∈ wT := wT_mem 700 (by decide +kernel) (by decide +kernel)
theorem kc_X6_13 : Cond.constant RX6 13 (1664525) ∈ wT := wT_mem 776 (by decide +kernel) (by decide +kernel)
theorem kc_X6_14 : Cond.constant RX6 14 (1013904223) ∈ wT := wT_mem 777 (by decide +kernel) (by decide +kernel)
theorem kc_X6_15 : Cond.constant RX6 15 (2147483647) ∈ wT := wT_mem 778 (by decide +kernel) (by decide +kernel)
theorem kc_X10_128 : Cond.constant RX10 128 (1000000000) ∈ wT := wT_mem 988 (by decide +kernel) (by decide +kernel)
theorem kc_X10_185 : Cond.constant RX10 185 (1664525) ∈ wT := wT_mem 1118 (by decide +kernel) (by decide +kernel)
theorem kc_X10_186 : Cond.constant RX10 186 (1013904223) ∈ wT := wT_mem 1119 (by decide +kernel) (by decide +kernel)
theorem kc_X10_187 : Cond.constant RX10 187 (2147483647) ∈ wT := wT_mem 1120 (by decide +kernel) (by decide +kernel)
section ST
variable {p : Program} {l : Launch} {e : Env} {R : Room} {s : State} {m : MethodId} {args : Array Value} {below : List Frame} {meth : Method} {c : Code} {H : Heap} {locs : List Loc} {cells slots : Nat} {Q : State → Prop}
variable {cc : ByteArray} {pc : Nat} {ls : Array Slot} {rest : List Value}
theorem sTop {x y : Int32} (h : x = y) (k : W p l e R s m args below meth c H locs cells slots Q (F0 m pc ls (.int y :: rest))) : W p l e R s m args below meth c H locs cells slots Q (F0 m pc ls (.int x :: rest)) := h ▸ k
theorem sIge (hx : p.tables.exec = Jvm.exec) (hb : c.code = cc) {x y : Int32} {X Y : Int} (h1 : x.toInt = X) (h2 : y.toInt = Y) {off : Int} {tgt : Nat} (hdg : decode cc pc = .ok (.if_icmp .ge off, 3)) (ht : (pc : Int) + off = (tgt : Int))
    (kt : Y ≤ X → W p l e R s m args below meth c H locs cells slots Q (F0 m tgt ls rest)) (kf : X < Y → W p l e R s m args below meth c H locs cells slots Q (F0 m (pc + 3) ls rest)) : W p l e R s m args below meth c H locs cells slots Q (F0 m pc ls (.int y :: .int x :: rest)) :=
  lv_icmp_ge hx hb hdg ht (fun h => kt (by rw [← h1, ← h2]; exact Int32.le_iff_toInt_le.mp h)) (fun h => kf (by rw [← h1, ← h2]; rw [Int32.le_iff_toInt_le] at h; omega))
theorem sIlt (hx : p.tables.exec = Jvm.exec) (hb : c.code = cc) {x y : Int32} {X Y : Int} (h1 : x.toInt = X) (h2 : y.toInt = Y) {off : Int} {tgt : Nat} (hdg : decode cc pc = .ok (.if_icmp .lt off, 3)) (ht : (pc : Int) + off = (tgt : Int))
    (kt : X < Y → W p l e R s m args below meth c H locs cells slots Q (F0 m tgt ls rest)) (kf : Y ≤ X → W p l e R s m args below meth c H locs cells slots Q (F0 m (pc + 3) ls rest)) : W p l e R s m args below meth c H locs cells slots Q (F0 m pc ls (.int y :: .int x :: rest)) :=
  lv_icmp_lt hx hb hdg ht (fun h => kt (by rw [← h1, ← h2]; exact Int32.lt_iff_toInt_lt.mp h)) (fun h => kf (by rw [← h1, ← h2]; rw [Int32.lt_iff_toInt_lt] at h; omega))
theorem sIgt (hx : p.tables.exec = Jvm.exec) (hb : c.code = cc) {x y : Int32} {X Y : Int} (h1 : x.toInt = X) (h2 : y.toInt = Y) {off : Int} {tgt : Nat} (hdg : decode cc pc = .ok (.if_icmp .gt off, 3)) (ht : (pc : Int) + off = (tgt : Int))
    (kt : Y < X → W p l e R s m args below meth c H locs cells slots Q (F0 m tgt ls rest)) (kf : X ≤ Y → W p l e R s m args below meth c H locs cells slots Q (F0 m (pc + 3) ls rest)) : W p l e R s m args below meth c H locs cells slots Q (F0 m pc ls (.int y :: .int x :: rest)) :=
  lv_icmp_gt hx hb hdg ht (fun h => kt (by rw [← h1, ← h2]; exact Int32.lt_iff_toInt_lt.mp h)) (fun h => kf (by rw [← h1, ← h2]; rw [Int32.lt_iff_toInt_lt] at h; omega))
theorem sIle (hx : p.tables.exec = Jvm.exec) (hb : c.code = cc) {x y : Int32} {X Y : Int} (h1 : x.toInt = X) (h2 : y.toInt = Y) {off : Int} {tgt : Nat} (hdg : decode cc pc = .ok (.if_icmp .le off, 3)) (ht : (pc : Int) + off = (tgt : Int))
    (kt : X ≤ Y → W p l e R s m args below meth c H locs cells slots Q (F0 m tgt ls rest)) (kf : Y < X → W p l e R s m args below meth c H locs cells slots Q (F0 m (pc + 3) ls rest)) : W p l e R s m args below meth c H locs cells slots Q (F0 m pc ls (.int y :: .int x :: rest)) :=
  lv_icmp_le hx hb hdg ht (fun h => kt (by rw [← h1, ← h2]; exact Int32.le_iff_toInt_le.mp h)) (fun h => kf (by rw [← h1, ← h2]; rw [Int32.le_iff_toInt_le] at h; omega))
theorem sIeq (hx : p.tables.exec = Jvm.exec) (hb : c.code = cc) {x y : Int32} {X Y : Int} (h1 : x.toInt = X) (h2 : y.toInt = Y) {off : Int} {tgt : Nat} (hdg : decode cc pc = .ok (.if_icmp .eq off, 3)) (ht : (pc : Int) + off = (tgt : Int))
    (kt : X = Y → W p l e R s m args below meth c H locs cells slots Q (F0 m tgt ls rest)) (kf : X ≠ Y → W p l e R s m args below meth c H locs cells slots Q (F0 m (pc + 3) ls rest)) : W p l e R s m args below meth c H locs cells slots Q (F0 m pc ls (.int y :: .int x :: rest)) :=
  lv_icmp_eq hx hb hdg ht (fun h => kt (by rw [← h1, ← h2, h])) (fun h => kf (by rw [← h1, ← h2]; exact fun z => h (Int32.toInt_inj.mp z)))
theorem sIne (hx : p.tables.exec = Jvm.exec) (hb : c.code = cc) {x y : Int32} {X Y : Int} (h1 : x.toInt = X) (h2 : y.toInt = Y) {off : Int} {tgt : Nat} (hdg : decode cc pc = .ok (.if_icmp .ne off, 3)) (ht : (pc : Int) + off = (tgt : Int))
    (kt : X ≠ Y → W p l e R s m args below meth c H locs cells slots Q (F0 m tgt ls rest)) (kf : X = Y → W p l e R s m args below meth c H locs cells slots Q (F0 m (pc + 3) ls rest)) : W p l e R s m args below meth c H locs cells slots Q (F0 m pc ls (.int y :: .int x :: rest)) :=
  lv_icmp_ne hx hb hdg ht (fun h => kt (by rw [← h1, ← h2]; exact fun z => h (Int32.toInt_inj.mp z))) (fun h => kf (by rw [← h1, ← h2]; exact congrArg Int32.toInt h))
theorem sZlt (hx : p.tables.exec = Jvm.exec) (hb : c.code = cc) {x : Int32} {X : Int} (h1 : x.toInt = X) {off : Int} {tgt : Nat} (hdg : decode cc pc = .ok (.ifCond .lt off, 3)) (ht : (pc : Int) + off = (tgt : Int))
    (kt : X < 0 → W p l e R s m args below meth c H locs cells slots Q (F0 m tgt ls rest)) (kf : 0 ≤ X → W p l e R s m args below meth c H locs cells slots Q (F0 m (pc + 3) ls rest)) : W p l e R s m args below meth c H locs cells slots Q (F0 m pc ls (.int x :: rest)) :=
  lv_if_lt hx hb hdg ht (fun h => kt (by rw [← h1]; rw [Int32.lt_iff_toInt_lt, Int32.toInt_zero] at h; exact h)) (fun h => kf (by rw [← h1]; rw [Int32.lt_iff_toInt_lt, Int32.toInt_zero] at h; omega))
theorem sZge (hx : p.tables.exec = Jvm.exec) (hb : c.code = cc) {x : Int32} {X : Int} (h1 : x.toInt = X) {off : Int} {tgt : Nat} (hdg : decode cc pc = .ok (.ifCond .ge off, 3)) (ht : (pc : Int) + off = (tgt : Int))
    (kt : 0 ≤ X → W p l e R s m args below meth c H locs cells slots Q (F0 m tgt ls rest)) (kf : X < 0 → W p l e R s m args below meth c H locs cells slots Q (F0 m (pc + 3) ls rest)) : W p l e R s m args below meth c H locs cells slots Q (F0 m pc ls (.int x :: rest)) :=
  lv_if_ge hx hb hdg ht (fun h => kt (by rw [← h1]; rw [Int32.le_iff_toInt_le, Int32.toInt_zero] at h; exact h)) (fun h => kf (by rw [← h1]; rw [Int32.le_iff_toInt_le, Int32.toInt_zero] at h; omega))
theorem sZgt (hx : p.tables.exec = Jvm.exec) (hb : c.code = cc) {x : Int32} {X : Int} (h1 : x.toInt = X) {off : Int} {tgt : Nat} (hdg : decode cc pc = .ok (.ifCond .gt off, 3)) (ht : (pc : Int) + off = (tgt : Int))
    (kt : 0 < X → W p l e R s m args below meth c H locs cells slots Q (F0 m tgt ls rest)) (kf : X ≤ 0 → W p l e R s m args below meth c H locs cells slots Q (F0 m (pc + 3) ls rest)) : W p l e R s m args below meth c H locs cells slots Q (F0 m pc ls (.int x :: rest)) :=
  lv_if_gt hx hb hdg ht (fun h => kt (by rw [← h1]; rw [Int32.lt_iff_toInt_lt, Int32.toInt_zero] at h; exact h)) (fun h => kf (by rw [← h1]; rw [Int32.lt_iff_toInt_lt, Int32.toInt_zero] at h; omega))
theorem sZle (hx : p.tables.exec = Jvm.exec) (hb : c.code = cc) {x : Int32} {X : Int} (h1 : x.toInt = X) {off : Int} {tgt : Nat} (hdg : decode cc pc = .ok (.ifCond .le off, 3)) (ht : (pc : Int) + off = (tgt : Int))
    (kt : X ≤ 0 → W p l e R s m args below meth c H locs cells slots Q (F0 m tgt ls rest)) (kf : 0 < X → W p l e R s m args below meth c H locs cells slots Q (F0 m (pc + 3) ls rest)) : W p l e R s m args below meth c H locs cells slots Q (F0 m pc ls (.int x :: rest)) :=
  lv_if_le hx hb hdg ht (fun h => kt (by rw [← h1]; rw [Int32.le_iff_toInt_le, Int32.toInt_zero] at h; exact h)) (fun h => kf (by rw [← h1]; rw [Int32.le_iff_toInt_le, Int32.toInt_zero] at h; omega))
theorem sZeq (hx : p.tables.exec = Jvm.exec) (hb : c.code = cc) {x : Int32} {X : Int} (h1 : x.toInt = X) {off : Int} {tgt : Nat} (hdg : decode cc pc = .ok (.ifCond .eq off, 3)) (ht : (pc : Int) + off = (tgt : Int))
    (kt : X = 0 → W p l e R s m args below meth c H locs cells slots Q (F0 m tgt ls rest)) (kf : X ≠ 0 → W p l e R s m args below meth c H locs cells slots Q (F0 m (pc + 3) ls rest)) : W p l e R s m args below meth c H locs cells slots Q (F0 m pc ls (.int x :: rest)) :=
  lv_if_eq hx hb hdg ht (fun h => kt (by rw [← h1, h]; rfl)) (fun h => kf (by rw [← h1]; exact fun z => h (Int32.toInt_inj.mp (z.trans Int32.toInt_zero.symm))))
theorem sZne (hx : p.tables.exec = Jvm.exec) (hb : c.code = cc) {x : Int32} {X : Int} (h1 : x.toInt = X) {off : Int} {tgt : Nat} (hdg : decode cc pc = .ok (.ifCond .ne off, 3)) (ht : (pc : Int) + off = (tgt : Int))
    (kt : X ≠ 0 → W p l e R s m args below meth c H locs cells slots Q (F0 m tgt ls rest)) (kf : X = 0 → W p l e R s m args below meth c H locs cells slots Q (F0 m (pc + 3) ls rest)) : W p l e R s m args below meth c H locs cells slots Q (F0 m pc ls (.int x :: rest)) :=
  lv_if_ne hx hb hdg ht (fun h => kt (by rw [← h1]; exact fun z => h (Int32.toInt_inj.mp (z.trans Int32.toInt_zero.symm)))) (fun h => kf (by rw [← h1, h]; rfl))
theorem sMax (hx : p.tables.exec = Jvm.exec) (hb : c.code = cc) {own : String} {idx nL d : Nat} {x y : Int32} (hml : c.maxLocals = nL) (hls : ls.size = nL) (hown : s.vm.findClass own = some m.cls) (hts : ∀ w ∈ wT, w.before args s = true) (hL : Cond.methodLink own idx Lib.Math.max.name ∈ wT) (hd : 1 ≤ d) (hW : (rest.map fun v => v.category).sum ≤ 8) (hdg : decode cc pc = .ok (.invokestatic idx, 3))
    (kk : ∀ z : Int32, z.toInt = max x.toInt y.toInt → W p l e (rmD d) s m args below meth c H locs 0 0 Q (F0 m (pc + 3) ls (.int z :: rest))) : W p l e (rmD d) s m args below meth c H locs 0 0 Q (F0 m pc ls (.int y :: .int x :: rest)) :=
  va_mmax hx hb (by rw [hml, hls]) hown (hts _ hL) (hts _ sMaxS) (hts _ sMathI) (hts _ sMaxC) hd (by show _ ≤ 32 * d; omega) (Nat.zero_le _) (Nat.zero_le _) hdg (kk _ (by
    by_cases h : x < y
    · rw [if_pos h]; rw [Int32.lt_iff_toInt_lt] at h; omega
    · rw [if_neg h]; rw [Int32.lt_iff_toInt_lt] at h; omega))
theorem sMin (hx : p.tables.exec = Jvm.exec) (hb : c.code = cc) {own : String} {idx nL d : Nat} {x y : Int32} (hml : c.maxLocals = nL) (hls : ls.size = nL) (hown : s.vm.findClass own = some m.cls) (hts : ∀ w ∈ wT, w.before args s = true) (hL : Cond.methodLink own idx Lib.Math.min.name ∈ wT) (hd : 1 ≤ d) (hW : (rest.map fun v => v.category).sum ≤ 8) (hdg : decode cc pc = .ok (.invokestatic idx, 3))
    (kk : ∀ z : Int32, z.toInt = min x.toInt y.toInt → W p l e (rmD d) s m args below meth c H locs 0 0 Q (F0 m (pc + 3) ls (.int z :: rest))) : W p l e (rmD d) s m args below meth c H locs 0 0 Q (F0 m pc ls (.int y :: .int x :: rest)) :=
  va_mmin hx hb (by rw [hml, hls]) hown (hts _ hL) (hts _ sMinS) (hts _ sMathI) (hts _ sMinC) hd (by show _ ≤ 32 * d; omega) (Nat.zero_le _) (Nat.zero_le _) hdg (kk _ (by
    by_cases h : y < x
    · rw [if_pos h]; rw [Int32.lt_iff_toInt_lt] at h; omega
    · rw [if_neg h]; rw [Int32.lt_iff_toInt_lt] at h; omega))
theorem sAbs (hx : p.tables.exec = Jvm.exec) (hb : c.code = cc) {own : String} {idx nL d : Nat} {x : Int32} (hml : c.maxLocals = nL) (hls : ls.size = nL) (hown : s.vm.findClass own = some m.cls) (hts : ∀ w ∈ wT, w.before args s = true) (hL : Cond.methodLink own idx Lib.Math.abs.name ∈ wT) (hd : 1 ≤ d) (hW : (rest.map fun v => v.category).sum ≤ 8) (hdg : decode cc pc = .ok (.invokestatic idx, 3))
    (kk : ∀ z : Int32, z = (if 0 ≤ x then x else 0 - x) → W p l e (rmD d) s m args below meth c H locs 0 0 Q (F0 m (pc + 3) ls (.int z :: rest))) : W p l e (rmD d) s m args below meth c H locs 0 0 Q (F0 m pc ls (.int x :: rest)) :=
  va_mabs hx hb (by rw [hml, hls]) hown (hts _ hL) (hts _ sAbsS) (hts _ sMathI) (hts _ sAbsC) hd (by show _ ≤ 32 * d; omega) (Nat.zero_le _) (Nat.zero_le _) hdg (kk _ rfl)
end ST
theorem i32_lo (x : Int32) : -2147483648 ≤ x.toInt := Int32.le_toInt x
theorem i32_hi (x : Int32) : x.toInt < 2147483648 := Int32.toInt_lt x
theorem i32_add {x y : Int32} (h1 : -2147483648 ≤ x.toInt + y.toInt) (h2 : x.toInt + y.toInt < 2147483648) : (x + y).toInt = x.toInt + y.toInt := by
  rw [Int32.toInt_add]; exact Int.bmod_eq_of_le (by omega) (by omega)
theorem i32_sub {x y : Int32} (h1 : -2147483648 ≤ x.toInt - y.toInt) (h2 : x.toInt - y.toInt < 2147483648) : (x - y).toInt = x.toInt - y.toInt := by
  rw [Int32.toInt_sub]; exact Int.bmod_eq_of_le (by omega) (by omega)
theorem i32_mul {x y : Int32} (h1 : -2147483648 ≤ x.toInt * y.toInt) (h2 : x.toInt * y.toInt < 2147483648) : (x * y).toInt = x.toInt * y.toInt := by
  rw [Int32.toInt_mul]; exact Int.bmod_eq_of_le (by omega) (by omega)
theorem i32_neg {x : Int32} (h1 : -2147483648 < x.toInt) : (-x).toInt = -x.toInt := by
  have h3 := i32_hi x
  rw [Int32.toInt_neg]; exact Int.bmod_eq_of_le (by omega) (by omega)
theorem i32_inc {x : Int32} {b : Int32} (h : x.toInt < b.toInt) : (x + 1).toInt = x.toInt + 1 := by
  have h2 := i32_hi b
  have h3 := i32_lo x
  exact i32_add (by show _ ≤ x.toInt + 1; omega) (by show x.toInt + 1 < _; omega)
theorem i32_cl {x : Int32} (h : 0 ≤ x.toInt) : (x.toNatClampNeg : Int) = x.toInt := by
  show ((x.toInt.toNat : Nat) : Int) = x.toInt
  omega
theorem i32_in {x : Int32} {n : Nat} (h1 : 0 ≤ x.toInt) (h2 : x.toInt < n) : vp_in x n := vp_in_iff.mpr ⟨h1, h2⟩
theorem rAt_in {n : Nat} {f : Nat → Int32} {i : Int32} (h1 : 0 ≤ i.toInt) (h2 : i.toInt < n) : rAt n f i = f i.toNatClampNeg := if_pos ⟨h1, h2⟩
theorem rAt_out {n : Nat} {f : Nat → Int32} {i : Int32} (h : i.toInt < 0 ∨ (n : Int) ≤ i.toInt) : rAt n f i = 0 := if_neg (by omega)
theorem rPut_in {n : Nat} {f : Nat → Int32} {i v : Int32} (h1 : 0 ≤ i.toInt) (h2 : i.toInt < n) : rPut n f i v = upd f i.toNatClampNeg v := if_pos ⟨h1, h2⟩
theorem rPut_out {n : Nat} {f : Nat → Int32} {i v : Int32} (h : i.toInt < 0 ∨ (n : Int) ≤ i.toInt) : rPut n f i v = f := if_neg (by omega)
end
section
def SX : List sSh := [.inr (8, [some 2, some 20, none, some 38, some 46, some 49, some 50, some 1]), .inl 7, .inr (6, [none, some 3, some 11, some 15, some 16, some 18]), .inr (2, [some 4, some 5, some 6, some 7, some 8, some 9, some 10, none]), .inl 10, .inl 10, .inl 10, .inl 10, .inl 10, .inl 10, .inl 10, .inr (7, [some 12, some 13, some 14, none]), .inl 4, .inl 4, .inl 4, .inr (0, [none, none, none, none]), .inr (4, [some 17, none]), .inl 80, .inr (4, [some 19, none]), .inl 10, .inr (6, [none, some 21, some 29, some 33, some 34, some 36]), .inr (2, [some 22, some 23, some 24, some 25, some 26, some 27, some 28, none]), .inl 10, .inl 10, .inl 10, .inl 10, .inl 10, .inl 10, .inl 10, .inr (7, [some 30, some 31, some 32, none]), .inl 4, .inl 4, .inl 4, .inr (0, [none, none, none, none]), .inr (4, [some 35, none]), .inl 80, .inr (4, [some 37, none]), .inl 10, .inr (1, [some 2, some 39, some 40, some 41, some 42, some 43, some 44, some 45]), .inl 10, .inl 10, .inl 10, .inl 10, .inl 6, .inl 6, .inl 1201, .inr (3, [some 2, some 47, none, none]), .inr (4, [some 48, none]), .inl 6, .inr (5, [none]), .inr (0, [none, none, none, none])]
theorem sUp_id {V : sV} {k : Nat} : sUp V k (V k) = V := by
  funext i
  by_cases h : i = k
  · subst h; exact sUp_s _ _ _
  · exact sUp_n _ _ h
theorem sUp_up {V : sV} {k : Nat} {f g : Nat → Int32} : sUp (sUp V k f) k g = sUp V k g := by
  funext i
  by_cases h : i = k
  · subst h; rw [sUp_s, sUp_s]
  · rw [sUp_n _ _ h, sUp_n _ _ h, sUp_n _ _ h]
theorem sNar {x : Int32} (h : x.toInt = 0 ∨ x.toInt = 1) : narrow .boolean (.int x) = .int x := by
  rcases h with h | h
  · have e : x = 0 := Int32.toInt_inj.mp h
    subst e; rfl
  · have e : x = 1 := Int32.toInt_inj.mp h
    subst e; rfl
theorem i32_i {x i : Int32} (e : x = i + 1) (h : i.toInt < 2147483647) : x.toInt = i.toInt + 1 := by
  have h3 := i32_lo i
  rw [e]
  exact i32_add (by show _ ≤ i.toInt + 1; omega) (by show i.toInt + 1 < _; omega)
theorem dJ6_compare_7cf53_0 : decode cJ6_compare_7cf53 0 = .ok (.iload_n 0, 1) := by decide +kernel
theorem dJ6_compare_7cf53_1 : decode cJ6_compare_7cf53 1 = .ok (.iload_n 1, 1) := by decide +kernel
theorem dJ6_compare_7cf53_2 : decode cJ6_compare_7cf53 2 = .ok (.if_icmp .ge 7, 3) := by decide +kernel
theorem dJ6_compare_7cf53_5 : decode cJ6_compare_7cf53 5 = .ok (.iconst (-1), 1) := by decide +kernel
theorem dJ6_compare_7cf53_6 : decode cJ6_compare_7cf53 6 = .ok (.goto 13, 3) := by decide +kernel
theorem dJ6_compare_7cf53_9 : decode cJ6_compare_7cf53 9 = .ok (.iload_n 0, 1) := by decide +kernel
theorem dJ6_compare_7cf53_10 : decode cJ6_compare_7cf53 10 = .ok (.iload_n 1, 1) := by decide +kernel
theorem dJ6_compare_7cf53_11 : decode cJ6_compare_7cf53 11 = .ok (.if_icmp .ne 7, 3) := by decide +kernel
theorem dJ6_compare_7cf53_14 : decode cJ6_compare_7cf53 14 = .ok (.iconst 0, 1) := by decide +kernel
theorem dJ6_compare_7cf53_15 : decode cJ6_compare_7cf53 15 = .ok (.goto 4, 3) := by decide +kernel
theorem dJ6_compare_7cf53_18 : decode cJ6_compare_7cf53 18 = .ok (.iconst 1, 1) := by decide +kernel
theorem dJ6_compare_7cf53_19 : decode cJ6_compare_7cf53 19 = .ok (.ireturn, 1) := by decide +kernel
theorem dJ6_bitCount_0f7a4_0 : decode cJ6_bitCount_0f7a4 0 = .ok (.iload_n 0, 1) := by decide +kernel
theorem dJ6_bitCount_0f7a4_1 : decode cJ6_bitCount_0f7a4 1 = .ok (.iload_n 0, 1) := by decide +kernel
theorem dJ6_bitCount_0f7a4_2 : decode cJ6_bitCount_0f7a4 2 = .ok (.iconst 1, 1) := by decide +kernel
theorem dJ6_bitCount_0f7a4_3 : decode cJ6_bitCount_0f7a4 3 = .ok (.iushr, 1) := by decide +kernel
theorem dJ6_bitCount_0f7a4_4 : decode cJ6_bitCount_0f7a4 4 = .ok (.ldc_w 265, 3) := by decide +kernel
theorem dJ6_bitCount_0f7a4_7 : decode cJ6_bitCount_0f7a4 7 = .ok (.iand, 1) := by decide +kernel
theorem dJ6_bitCount_0f7a4_8 : decode cJ6_bitCount_0f7a4 8 = .ok (.isub, 1) := by decide +kernel
theorem dJ6_bitCount_0f7a4_9 : decode cJ6_bitCount_0f7a4 9 = .ok (.istore_n 0, 1) := by decide +kernel
theorem dJ6_bitCount_0f7a4_10 : decode cJ6_bitCount_0f7a4 10 = .ok (.iload_n 0, 1) := by decide +kernel
theorem dJ6_bitCount_0f7a4_11 : decode cJ6_bitCount_0f7a4 11 = .ok (.ldc_w 266, 3) := by decide +kernel
theorem dJ6_bitCount_0f7a4_14 : decode cJ6_bitCount_0f7a4 14 = .ok (.iand, 1) := by decide +kernel
theorem dJ6_bitCount_0f7a4_15 : decode cJ6_bitCount_0f7a4 15 = .ok (.iload_n 0, 1) := by decide +kernel
theorem dJ6_bitCount_0f7a4_16 : decode cJ6_bitCount_0f7a4 16 = .ok (.iconst 2, 1) := by decide +kernel
theorem dJ6_bitCount_0f7a4_17 : decode cJ6_bitCount_0f7a4 17 = .ok (.iushr, 1) := by decide +kernel
theorem dJ6_bitCount_0f7a4_18 : decode cJ6_bitCount_0f7a4 18 = .ok (.ldc_w 266, 3) := by decide +kernel
theorem dJ6_bitCount_0f7a4_21 : decode cJ6_bitCount_0f7a4 21 = .ok (.iand, 1) := by decide +kernel
theorem dJ6_bitCount_0f7a4_22 : decode cJ6_bitCount_0f7a4 22 = .ok (.iadd, 1) := by decide +kernel
theorem dJ6_bitCount_0f7a4_23 : decode cJ6_bitCount_0f7a4 23 = .ok (.istore_n 0, 1) := by decide +kernel
theorem dJ6_bitCount_0f7a4_24 : decode cJ6_bitCount_0f7a4 24 = .ok (.iload_n 0, 1) := by decide +kernel
theorem dJ6_bitCount_0f7a4_25 : decode cJ6_bitCount_0f7a4 25 = .ok (.iload_n 0, 1) := by decide +kernel
theorem dJ6_bitCount_0f7a4_26 : decode cJ6_bitCount_0f7a4 26 = .ok (.iconst 4, 1) := by decide +kernel
theorem dJ6_bitCount_0f7a4_27 : decode cJ6_bitCount_0f7a4 27 = .ok (.iushr, 1) := by decide +kernel
theorem dJ6_bitCount_0f7a4_28 : decode cJ6_bitCount_0f7a4 28 = .ok (.iadd, 1) := by decide +kernel
theorem dJ6_bitCount_0f7a4_29 : decode cJ6_bitCount_0f7a4 29 = .ok (.ldc_w 267, 3) := by decide +kernel
theorem dJ6_bitCount_0f7a4_32 : decode cJ6_bitCount_0f7a4 32 = .ok (.iand, 1) := by decide +kernel
theorem dJ6_bitCount_0f7a4_33 : decode cJ6_bitCount_0f7a4 33 = .ok (.istore_n 0, 1) := by decide +kernel
theorem dJ6_bitCount_0f7a4_34 : decode cJ6_bitCount_0f7a4 34 = .ok (.iload_n 0, 1) := by decide +kernel
theorem dJ6_bitCount_0f7a4_35 : decode cJ6_bitCount_0f7a4 35 = .ok (.iload_n 0, 1) := by decide +kernel
theorem dJ6_bitCount_0f7a4_36 : decode cJ6_bitCount_0f7a4 36 = .ok (.bipush 8, 2) := by decide +kernel
theorem dJ6_bitCount_0f7a4_38 : decode cJ6_bitCount_0f7a4 38 = .ok (.iushr, 1) := by decide +kernel
theorem dJ6_bitCount_0f7a4_39 : decode cJ6_bitCount_0f7a4 39 = .ok (.iadd, 1) := by decide +kernel
theorem dJ6_bitCount_0f7a4_40 : decode cJ6_bitCount_0f7a4 40 = .ok (.istore_n 0, 1) := by decide +kernel
theorem dJ6_bitCount_0f7a4_41 : decode cJ6_bitCount_0f7a4 41 = .ok (.iload_n 0, 1) := by decide +kernel
theorem dJ6_bitCount_0f7a4_42 : decode cJ6_bitCount_0f7a4 42 = .ok (.iload_n 0, 1) := by decide +kernel
theorem dJ6_bitCount_0f7a4_43 : decode cJ6_bitCount_0f7a4 43 = .ok (.bipush 16, 2) := by decide +kernel
theorem dJ6_bitCount_0f7a4_45 : decode cJ6_bitCount_0f7a4 45 = .ok (.iushr, 1) := by decide +kernel
theorem dJ6_bitCount_0f7a4_46 : decode cJ6_bitCount_0f7a4 46 = .ok (.iadd, 1) := by decide +kernel
theorem dJ6_bitCount_0f7a4_47 : decode cJ6_bitCount_0f7a4 47 = .ok (.istore_n 0, 1) := by decide +kernel
theorem dJ6_bitCount_0f7a4_48 : decode cJ6_bitCount_0f7a4 48 = .ok (.iload_n 0, 1) := by decide +kernel
theorem dJ6_bitCount_0f7a4_49 : decode cJ6_bitCount_0f7a4 49 = .ok (.bipush 63, 2) := by decide +kernel
theorem dJ6_bitCount_0f7a4_51 : decode cJ6_bitCount_0f7a4 51 = .ok (.iand, 1) := by decide +kernel
theorem dJ6_bitCount_0f7a4_52 : decode cJ6_bitCount_0f7a4 52 = .ok (.ireturn, 1) := by decide +kernel
def q_at (V : sV) (k n : Nat) (i : Int32) : Int32 → sV → Prop := fun r V1 => r = rAt n (V k) i ∧ V1 = V
set_option maxRecDepth 100000 in
set_option maxHeartbeats 4000000 in
theorem k_at {l : Launch} {D : va_G} {cI : ClassId} {a : Nat → Nat} (ha : sInj SX a) (V : sV) (k n : Nat) (hk : SX[k]? = some (.inl n)) (hn : n < 2147483648) (i : Int32) : sMI l D cI SX a V yX5_at cX5_at 2 .int 0 [.ref (a k), .int i] (q_at V k n i) := by
  refine sMIof ha (by decide +kernel) (Nat.le_of_ble_eq_true rfl) ?_
  intro p e s m below meth c ls G X hl
  obtain ⟨hx, hb, hml, hown, hts, hlocks, hr, hK⟩ := id G
  have hl : lv_has ls 2 [(0, .ref (a k)), (1, .int i)] := hl
  refine lv_iload_n hx hb dX5_at_0 rfl (lv_at hl 1 rfl) ?_
  refine sZlt (tgt := 16) hx hb (rfl : Int32.toInt i = _) dX5_at_1 (by decide) (fun c1 => ?_) (fun c1 => ?_)
  · skip
    refine lv_iconst (v := 0) hx hb dX5_at_16 (by decide) ?_
    exact srI G X (rfl) dX5_at_17 (by first | exact ⟨by rw [e12, rAt_in c1 c7], rfl⟩ | exact ⟨(rAt_out (Or.inr c7)).symm, rfl⟩ | exact ⟨(rAt_out (Or.inl c1)).symm, rfl⟩)
  · skip
    refine lv_iload_n hx hb dX5_at_4 rfl (lv_at hl 1 rfl) ?_
    refine lv_aload_n hx hb dX5_at_5 rfl (lv_at hl 0 rfl) ?_
    refine sln G X k hk dX5_at_6 ?_
    refine sIge (tgt := 16) hx hb (rfl : Int32.toInt i = _) (rfl : Int32.toInt (nI n) = _) dX5_at_7 (by decide) (fun c7 => ?_) (fun c7 => ?_)
    · skip
      rw [nI_toInt hn] at c7
      refine lv_iconst (v := 0) hx hb dX5_at_16 (by decide) ?_
      exact srI G X (rfl) dX5_at_17 (by first | exact ⟨by rw [e12, rAt_in c1 c7], rfl⟩ | exact ⟨(rAt_out (Or.inr c7)).symm, rfl⟩ | exact ⟨(rAt_out (Or.inl c1)).symm, rfl⟩)
    · skip
      rw [nI_toInt hn] at c7
      refine lv_aload_n hx hb dX5_at_10 rfl (lv_at hl 0 rfl) ?_
      refine lv_iload_n hx hb dX5_at_11 rfl (lv_at hl 1 rfl) ?_
      refine sld G X k hk (i32_in c1 c7) dX5_at_12 ?_
      refine lv_topi (fun x12 e12 => ?_)
      refine lv_goto (tgt := 17) hx hb dX5_at_13 (by decide) ?_
      exact srI G X (rfl) dX5_at_17 (by first | exact ⟨by rw [e12, rAt_in c1 c7], rfl⟩ | exact ⟨(rAt_out (Or.inr c7)).symm, rfl⟩ | exact ⟨(rAt_out (Or.inl c1)).symm, rfl⟩)
def q_put (V : sV) (k n : Nat) (i v : Int32) : sV → Prop := fun V1 => V1 = sUp V k (rPut n (V k) i v)
set_option maxRecDepth 100000 in
set_option maxHeartbeats 4000000 in
theorem k_put {l : Launch} {D : va_G} {cI : ClassId} {a : Nat → Nat} (ha : sInj SX a) (V : sV) (k n : Nat) (hk : SX[k]? = some (.inl n)) (hn : n < 2147483648) (i v : Int32) : sMV l D cI SX a V yX5_put cX5_put 3 0 [.ref (a k), .int i, .int v] (q_put V k n i v) := by
  refine sMVof ha (by decide +kernel) (Nat.le_of_ble_eq_true rfl) ?_
  intro p e s m below meth c ls G X hl
  obtain ⟨hx, hb, hml, hown, hts, hlocks, hr, hK⟩ := id G
  have hl : lv_has ls 3 [(0, .ref (a k)), (1, .int i), (2, .int v)] := hl
  refine lv_iload_n hx hb dX5_put_0 rfl (lv_at hl 1 rfl) ?_
  refine sZlt (tgt := 14) hx hb (rfl : Int32.toInt i = _) dX5_put_1 (by decide) (fun c1 => ?_) (fun c1 => ?_)
  · skip
    exact srV G X dX5_put_14 (by first | exact (by show _ = _; rw [rPut_in c1 c7]) | exact (by show _ = _; rw [rPut_out (Or.inr c7), sUp_id]) | exact (by show _ = _; rw [rPut_out (Or.inl c1), sUp_id]))
  · skip
    refine lv_iload_n hx hb dX5_put_4 rfl (lv_at hl 1 rfl) ?_
    refine lv_aload_n hx hb dX5_put_5 rfl (lv_at hl 0 rfl) ?_
    refine sln G X k hk dX5_put_6 ?_
    refine sIge (tgt := 14) hx hb (rfl : Int32.toInt i = _) (rfl : Int32.toInt (nI n) = _) dX5_put_7 (by decide) (fun c7 => ?_) (fun c7 => ?_)
    · skip
      rw [nI_toInt hn] at c7
      exact srV G X dX5_put_14 (by first | exact (by show _ = _; rw [rPut_in c1 c7]) | exact (by show _ = _; rw [rPut_out (Or.inr c7), sUp_id]) | exact (by show _ = _; rw [rPut_out (Or.inl c1), sUp_id]))
    · skip
      rw [nI_toInt hn] at c7
      refine lv_aload_n hx hb dX5_put_10 rfl (lv_at hl 0 rfl) ?_
      refine lv_iload_n hx hb dX5_put_11 rfl (lv_at hl 1 rfl) ?_
      refine lv_iload_n hx hb dX5_put_12 rfl (lv_at hl 2 rfl) ?_
      refine sst G X k hk (i32_in c1 c7) dX5_put_13 (fun H locs X => ?_)
      exact srV G X dX5_put_14 (by first | exact (by show _ = _; rw [rPut_in c1 c7]) | exact (by show _ = _; rw [rPut_out (Or.inr c7), sUp_id]) | exact (by show _ = _; rw [rPut_out (Or.inl c1), sUp_id]))
def q_copy (V : sV) (k t n : Nat) : sV → Prop := fun V1 => ∃ f : Nat → Int32, V1 = sUp V t f ∧ ∀ j, j < n → f j = V k j
set_option maxRecDepth 100000 in
set_option maxHeartbeats 4000000 in
theorem k_copy {l : Launch} {D : va_G} {cI : ClassId} {a : Nat → Nat} (ha : sInj SX a) (V : sV) (k t n : Nat) (hk : SX[k]? = some (.inl n)) (ht : SX[t]? = some (.inl n)) (hn : n < 2147483648) (hkt : k ≠ t) : sMV l D cI SX a V yX5_copy cX5_copy 3 0 [.ref (a k), .ref (a t)] (q_copy V k t n) := by
  refine sMVof ha (by decide +kernel) (Nat.le_of_ble_eq_true rfl) ?_
  intro p e s m below meth c ls G X hl
  obtain ⟨hx, hb, hml, hown, hts, hlocks, hr, hK⟩ := id G
  have hl : lv_has ls 3 [(0, .ref (a k)), (1, .ref (a t))] := hl
  refine lv_iconst (v := 0) hx hb dX5_copy_0 (by decide) ?_
  refine lv_istore_n (lv' := [(2, .int 0), (0, .ref (a k)), (1, .ref (a t))]) hx hb dX5_copy_1 rfl hl (by decide) rfl (fun ls hl => ?_)
  have L2 : ∀ (fu : Nat) (i : Int32) (f : Nat → Int32) (H : Heap) (locs : List Loc) (ls : Array Slot), (0 ≤ i.toInt) → (i.toInt ≤ n) → (∀ j : Nat, (j : Int) < i.toInt → f j = V k j) → (((n : Int) - i.toInt).toNat) < fu → sWS D cI SX a (sUp V t f) s.heap H locs → lv_has ls 3 [(2, .int i), (0, .ref (a k)), (1, .ref (a t))] → W p l e (rmD 0) s m ([.ref (a k), .ref (a t)] : List Value).toArray below meth c H locs 0 0 (MQ below (va_Qv (q_copy V k t n) (fun V1 t => va_P D vwCl (sWd cI SX a V1) t.heap) (sA SX a s.heap.size)) ([.ref (a k), .ref (a t)] : List Value).toArray s 0 0 (sA SX a s.heap.size)) (F0 m 2 ls []) := by
    intro fu
    induction fu with
    | zero => intro i f H locs ls h1 h2 h3 hm; exact absurd hm (Nat.not_lt_zero _)
    | succ fu ih2 =>
      intro i f H locs ls h1 h2 h3 hm X hl
      refine lv_iload_n hx hb dX5_copy_2 rfl (lv_at hl 0 rfl) ?_
      refine lv_aload_n hx hb dX5_copy_3 rfl (lv_at hl 1 rfl) ?_
      refine sln G X k hk dX5_copy_4 ?_
      refine sIge (tgt := 26) hx hb (rfl : Int32.toInt i = _) (rfl : Int32.toInt (nI n) = _) dX5_copy_5 (by decide) (fun c5 => ?_) (fun c5 => ?_)
      · skip
        rw [nI_toInt hn] at c5
        exact srV G X dX5_copy_26 (by exact ⟨f, rfl, fun j hj => h3 j (by omega)⟩)
      · skip
        rw [nI_toInt hn] at c5
        refine lv_iload_n hx hb dX5_copy_8 rfl (lv_at hl 0 rfl) ?_
        refine lv_aload_n hx hb dX5_copy_9 rfl (lv_at hl 2 rfl) ?_
        refine sln G X t ht dX5_copy_10 ?_
        refine sIge (tgt := 26) hx hb (rfl : Int32.toInt i = _) (rfl : Int32.toInt (nI n) = _) dX5_copy_11 (by decide) (fun c11 => ?_) (fun c11 => ?_)
        · skip
          rw [nI_toInt hn] at c11
          exact srV G X dX5_copy_26 (by exact ⟨f, rfl, fun j hj => h3 j (by omega)⟩)
        · skip
          rw [nI_toInt hn] at c11
          refine lv_aload_n hx hb dX5_copy_14 rfl (lv_at hl 2 rfl) ?_
          refine lv_iload_n hx hb dX5_copy_15 rfl (lv_at hl 0 rfl) ?_
          refine lv_aload_n hx hb dX5_copy_16 rfl (lv_at hl 1 rfl) ?_
          refine lv_iload_n hx hb dX5_copy_17 rfl (lv_at hl 0 rfl) ?_
          refine sld G X k hk (i32_in h1 c5) dX5_copy_18 ?_
          refine lv_topi (fun x18 e18 => ?_)
          refine sst G X t ht (i32_in h1 c5) dX5_copy_19 (fun H locs X => ?_)
          obtain ⟨x20, e20⟩ : ∃ y : Int32, y = i + (1) := ⟨_, rfl⟩
          refine lv_iinc (v := x20) (lv' := [(2, .int x20), (0, .ref (a k)), (1, .ref (a t))]) hx hb dX5_copy_20 hl (k := 0) rfl (by rw [e20]; rfl) (by decide) rfl (fun ls hl => ?_)
          have ei := i32_inc (x := i) (b := nI n) (by rw [nI_toInt hn]; exact c5)
          rw [show i + (1) = i + 1 from rfl] at e20
          refine lv_goto (tgt := 2) hx hb dX5_copy_23 (by decide) ?_
          exact ih2 x20 (upd f i.toNatClampNeg x18) _ _ _ (by rw [e20, ei]; omega) (by rw [e20, ei]; omega) (fun j hj => by
          have hj : (j : Int) < i.toInt + 1 := by rw [e20, ei] at hj; exact hj
          show (if j = i.toNatClampNeg then x18 else f j) = V k j
          by_cases hji : j = i.toNatClampNeg
          · rw [if_pos hji, e18, sUp_n _ _ hkt, hji]
          · rw [if_neg hji]; exact h3 j (by have := i32_cl h1; omega)) (by rw [e20, ei]; omega) (by rw [sUp_s, sUp_up] at X; exact X) (lv_sub hl [0, 1, 2] rfl)
  exact L2 _ 0 (V t) _ _ _ (by decide) (by show (0 : Int) ≤ n; omega) (fun j hj => absurd hj (by show ¬ ((j : Int) < 0); omega)) (Nat.lt_succ_self _) (by rw [sUp_id]; exact X) (lv_sub hl [0, 1, 2] rfl)
def q_compare (V : sV) (i j : Int32) : Int32 → sV → Prop := fun x V1 => (i.toInt = j.toInt → x = 0) ∧ V1 = V
set_option maxRecDepth 100000 in
set_option maxHeartbeats 4000000 in
theorem k_compare {l : Launch} {D : va_G} {cI : ClassId} {S : List sSh} {a : Nat → Nat} (ha : sInj S a) (V : sV) (i j : Int32) : sMI l D cI S a V yJ6_compare_7cf53 cJ6_compare_7cf53 2 .int 0 [.int i, .int j] (q_compare V i j) := by
  refine sMIof ha (by decide +kernel) (Nat.le_of_ble_eq_true rfl) ?_
  intro p e s m below meth c ls G X hl
  obtain ⟨hx, hb, hml, hown, hts, hlocks, hr, hK⟩ := id G
  have hl : lv_has ls 2 [(0, .int i), (1, .int j)] := hl
  refine lv_iload_n hx hb dJ6_compare_7cf53_0 rfl (lv_at hl 0 rfl) ?_
  refine lv_iload_n hx hb dJ6_compare_7cf53_1 rfl (lv_at hl 1 rfl) ?_
  refine sIge (tgt := 9) hx hb (rfl : Int32.toInt i = _) (rfl : Int32.toInt j = _) dJ6_compare_7cf53_2 (by decide) (fun c2 => ?_) (fun c2 => ?_)
  · skip
    refine lv_iload_n hx hb dJ6_compare_7cf53_9 rfl (lv_at hl 0 rfl) ?_
    refine lv_iload_n hx hb dJ6_compare_7cf53_10 rfl (lv_at hl 1 rfl) ?_
    refine sIne (tgt := 18) hx hb (rfl : Int32.toInt i = _) (rfl : Int32.toInt j = _) dJ6_compare_7cf53_11 (by decide) (fun c11 => ?_) (fun c11 => ?_)
    · skip
      refine lv_iconst (v := 1) hx hb dJ6_compare_7cf53_18 (by decide) ?_
      exact srI G X (rfl) dJ6_compare_7cf53_19 (by exact ⟨fun h => by first | rfl | (exfalso; omega), rfl⟩)
    · skip
      refine lv_iconst (v := 0) hx hb dJ6_compare_7cf53_14 (by decide) ?_
      refine lv_goto (tgt := 19) hx hb dJ6_compare_7cf53_15 (by decide) ?_
      exact srI G X (rfl) dJ6_compare_7cf53_19 (by exact ⟨fun h => by first | rfl | (exfalso; omega), rfl⟩)
  · skip
    refine lv_iconst (v := (-1)) hx hb dJ6_compare_7cf53_5 (by decide) ?_
    refine lv_goto (tgt := 19) hx hb dJ6_compare_7cf53_6 (by decide) ?_
    exact srI G X (rfl) dJ6_compare_7cf53_19 (by exact ⟨fun h => by first | rfl | (exfalso; omega), rfl⟩)
def q_bitCount (V : sV) (i : Int32) : Int32 → sV → Prop := fun x V1 => (i = 0 → x = 0) ∧ V1 = V
set_option maxRecDepth 100000 in
set_option maxHeartbeats 4000000 in
theorem k_bitCount {l : Launch} {D : va_G} {cI : ClassId} {S : List sSh} {a : Nat → Nat} (ha : sInj S a) (V : sV) (i : Int32) : sMI l D cI S a V yJ6_bitCount_0f7a4 cJ6_bitCount_0f7a4 1 .int 0 [.int i] (q_bitCount V i) := by
  refine sMIof ha (by decide +kernel) (Nat.le_of_ble_eq_true rfl) ?_
  intro p e s m below meth c ls G X hl
  obtain ⟨hx, hb, hml, hown, hts, hlocks, hr, hK⟩ := id G
  have hl : lv_has ls 1 [(0, .int i)] := hl
  refine lv_iload_n hx hb dJ6_bitCount_0f7a4_0 rfl (lv_at hl 0 rfl) ?_
  refine lv_iload_n hx hb dJ6_bitCount_0f7a4_1 rfl (lv_at hl 0 rfl) ?_
  refine lv_iconst (v := 1) hx hb dJ6_bitCount_0f7a4_2 (by decide) ?_
  refine lv_iushr hx hb dJ6_bitCount_0f7a4_3 rfl ?_
  refine lv_topi (fun x3 e3 => ?_)
  refine lv_ldcw hx hb hown (hts _ kc_J6_265) dJ6_bitCount_0f7a4_4 ?_
  refine lv_iand hx hb dJ6_bitCount_0f7a4_7 ?_
  refine lv_topi (fun x7 e7 => ?_)
  refine lv_isub hx hb dJ6_bitCount_0f7a4_8 ?_
  refine lv_topi (fun x8 e8 => ?_)
  refine lv_istore_n (lv' := [(0, .int x8)]) hx hb dJ6_bitCount_0f7a4_9 rfl hl (by decide) rfl (fun ls hl => ?_)
  refine lv_iload_n hx hb dJ6_bitCount_0f7a4_10 rfl (lv_at hl 0 rfl) ?_
  refine lv_ldcw hx hb hown (hts _ kc_J6_266) dJ6_bitCount_0f7a4_11 ?_
  refine lv_iand hx hb dJ6_bitCount_0f7a4_14 ?_
  refine lv_topi (fun x14 e14 => ?_)
  refine lv_iload_n hx hb dJ6_bitCount_0f7a4_15 rfl (lv_at hl 0 rfl) ?_
  refine lv_iconst (v := 2) hx hb dJ6_bitCount_0f7a4_16 (by decide) ?_
  refine lv_iushr hx hb dJ6_bitCount_0f7a4_17 rfl ?_
  refine lv_topi (fun x17 e17 => ?_)
  refine lv_ldcw hx hb hown (hts _ kc_J6_266) dJ6_bitCount_0f7a4_18 ?_
  refine lv_iand hx hb dJ6_bitCount_0f7a4_21 ?_
  refine lv_topi (fun x21 e21 => ?_)
  refine lv_iadd hx hb dJ6_bitCount_0f7a4_22 ?_
  refine lv_topi (fun x22 e22 => ?_)
  refine lv_istore_n (lv' := [(0, .int x22)]) hx hb dJ6_bitCount_0f7a4_23 rfl hl (by decide) rfl (fun ls hl => ?_)
  refine lv_iload_n hx hb dJ6_bitCount_0f7a4_24 rfl (lv_at hl 0 rfl) ?_
  refine lv_iload_n hx hb dJ6_bitCount_0f7a4_25 rfl (lv_at hl 0 rfl) ?_
  refine lv_iconst (v := 4) hx hb dJ6_bitCount_0f7a4_26 (by decide) ?_
  refine lv_iushr hx hb dJ6_bitCount_0f7a4_27 rfl ?_
  refine lv_topi (fun x27 e27 => ?_)
  refine lv_iadd hx hb dJ6_bitCount_0f7a4_28 ?_
  refine lv_topi (fun x28 e28 => ?_)
  refine lv_ldcw hx hb hown (hts _ kc_J6_267) dJ6_bitCount_0f7a4_29 ?_
  refine lv_iand hx hb dJ6_bitCount_0f7a4_32 ?_
  refine lv_topi (fun x32 e32 => ?_)
  refine lv_istore_n (lv' := [(0, .int x32)]) hx hb dJ6_bitCount_0f7a4_33 rfl hl (by decide) rfl (fun ls hl => ?_)
  refine lv_iload_n hx hb dJ6_bitCount_0f7a4_34 rfl (lv_at hl 0 rfl) ?_
  refine lv_iload_n hx hb dJ6_bitCount_0f7a4_35 rfl (lv_at hl 0 rfl) ?_
  refine lv_bipush (v := 8) hx hb dJ6_bitCount_0f7a4_36 (by decide) ?_
  refine lv_iushr hx hb dJ6_bitCount_0f7a4_38 rfl ?_
  refine lv_topi (fun x38 e38 => ?_)
  refine lv_iadd hx hb dJ6_bitCount_0f7a4_39 ?_
  refine lv_topi (fun x39 e39 => ?_)
  refine lv_istore_n (lv' := [(0, .int x39)]) hx hb dJ6_bitCount_0f7a4_40 rfl hl (by decide) rfl (fun ls hl => ?_)
  refine lv_iload_n hx hb dJ6_bitCount_0f7a4_41 rfl (lv_at hl 0 rfl) ?_
  refine lv_iload_n hx hb dJ6_bitCount_0f7a4_42 rfl (lv_at hl 0 rfl) ?_
  refine lv_bipush (v := 16) hx hb dJ6_bitCount_0f7a4_43 (by decide) ?_
  refine lv_iushr hx hb dJ6_bitCount_0f7a4_45 rfl ?_
  refine lv_topi (fun x45 e45 => ?_)
  refine lv_iadd hx hb dJ6_bitCount_0f7a4_46 ?_
  refine lv_topi (fun x46 e46 => ?_)
  refine lv_istore_n (lv' := [(0, .int x46)]) hx hb dJ6_bitCount_0f7a4_47 rfl hl (by decide) rfl (fun ls hl => ?_)
  refine lv_iload_n hx hb dJ6_bitCount_0f7a4_48 rfl (lv_at hl 0 rfl) ?_
  refine lv_bipush (v := 63) hx hb dJ6_bitCount_0f7a4_49 (by decide) ?_
  refine lv_iand hx hb dJ6_bitCount_0f7a4_51 ?_
  refine lv_topi (fun x51 e51 => ?_)
  exact srI G X (rfl) dJ6_bitCount_0f7a4_52 (by exact ⟨fun h => by subst h; simp only [*]; decide, rfl⟩)
def q_rowFull (V : sV) (r n : Nat) : Int32 → sV → Prop := fun x V1 => ((x.toInt = 1 ∧ (n : Int) ≤ (V r 1).toInt) ∨ (x.toInt = 0 ∧ (V r 1).toInt < n)) ∧ V1 = V
set_option maxRecDepth 100000 in
set_option maxHeartbeats 4000000 in
theorem k_rowFull {l : Launch} {D : va_G} {cI : ClassId} {a : Nat → Nat} (ha : sInj SX a) (V : sV) (r r1 n : Nat) (hr0 : SX[r]? = some (.inr (4, [some r1, none]))) (h1 : SX[r1]? = some (.inl n)) (hn : n < 2147483648) (hrr : r ≠ r1) : sMI l D cI SX a V yX4_isFull cX4_isFull 1 .boolean 0 [.ref (a r)] (q_rowFull V r n) := by
  refine sMIof ha (by decide +kernel) (Nat.le_of_ble_eq_true rfl) ?_
  intro p e s m below meth c ls G X hl
  obtain ⟨hx, hb, hml, hown, hts, hlocks, hr, hK⟩ := id G
  have hl : lv_has ls 1 [(0, .ref (a r))] := hl
  refine lv_aload_n hx hb dX4_isFull_0 rfl (lv_at hl 0 rfl) ?_
  refine sgI G X r 1 hr0 rfl fl_X4_19 dX4_isFull_1 ?_
  refine lv_aload_n hx hb dX4_isFull_4 rfl (lv_at hl 0 rfl) ?_
  refine sgR G X r 0 hr0 rfl fl_X4_13 dX4_isFull_5 ?_
  refine sln G X r1 h1 dX4_isFull_8 ?_
  refine sIlt (tgt := 16) hx hb (rfl : Int32.toInt (V r 1) = _) (rfl : Int32.toInt (nI n) = _) dX4_isFull_9 (by decide) (fun c9 => ?_) (fun c9 => ?_)
  · skip
    rw [nI_toInt hn] at c9
    refine lv_iconst (v := 0) hx hb dX4_isFull_16 (by decide) ?_
    exact srI G X (rfl) dX4_isFull_17 (by first | exact ⟨Or.inl ⟨rfl, c9⟩, rfl⟩ | exact ⟨Or.inr ⟨rfl, c9⟩, rfl⟩)
  · skip
    rw [nI_toInt hn] at c9
    refine lv_iconst (v := 1) hx hb dX4_isFull_12 (by decide) ?_
    refine lv_goto (tgt := 17) hx hb dX4_isFull_13 (by decide) ?_
    exact srI G X (rfl) dX4_isFull_17 (by first | exact ⟨Or.inl ⟨rfl, c9⟩, rfl⟩ | exact ⟨Or.inr ⟨rfl, c9⟩, rfl⟩)
def q_rowAdd (V : sV) (r r1 n : Nat) : sV → Prop := fun V1 => sAg [r, r1] V V1 ∧ ((V r 1).toInt < n → V1 r 1 = V r 1 + 1)
set_option maxRecDepth 100000 in
set_option maxHeartbeats 4000000 in
theorem k_rowAdd {l : Launch} {D : va_G} {cI : ClassId} {a : Nat → Nat} (ha : sInj SX a) (V : sV) (r r1 n : Nat) (hr0 : SX[r]? = some (.inr (4, [some r1, none]))) (h1 : SX[r1]? = some (.inl n)) (hn : n < 2147483648) (hrr : r ≠ r1) (v : Int32) : sMV l D cI SX a V yX4_add cX4_add 2 1 [.ref (a r), .int v] (q_rowAdd V r r1 n) := by
  refine sMVof ha (by decide +kernel) (Nat.le_of_ble_eq_true rfl) ?_
  intro p e s m below meth c ls G X hl
  obtain ⟨hx, hb, hml, hown, hts, hlocks, hr, hK⟩ := id G
  have hl : lv_has ls 2 [(0, .ref (a r)), (1, .int v)] := hl
  refine lv_aload_n hx hb dX4_add_0 rfl (lv_at hl 0 rfl) ?_
  refine scI (ci := 4) (As := []) (rest := []) G X (k_rowFull ha V r r1 n hr0 h1 (by first | decide | assumption) (by first | decide | assumption)) iy_X4_isFull ml_X4_23 rfl hr0 rfl rfl hl.1 (by decide) (by decide) (Nat.le_of_ble_eq_true rfl) dX4_add_1 (fun y1 V1 H locs p1 X => ?_)
  obtain ⟨p1, z1⟩ := p1
  subst V1
  refine sZne (tgt := 29) hx hb (rfl : Int32.toInt y1 = _) dX4_add_4 (by decide) (fun c4 => ?_) (fun c4 => ?_)
  · skip
    exact srV G X dX4_add_29 (by first | exact ⟨sAg.rf, fun h => by omega⟩ | exact ⟨by rw [show V16 = _ from p16]; exact (sAg.rf.up (by simp)).up (by simp), fun h => by rw [sUp_s, er]; show x25 = _; rw [e25, er]⟩)
  · skip
    refine lv_aload_n hx hb dX4_add_7 rfl (lv_at hl 0 rfl) ?_
    refine sgR G X r 0 hr0 rfl fl_X4_13 dX4_add_8 ?_
    refine lv_aload_n hx hb dX4_add_11 rfl (lv_at hl 0 rfl) ?_
    refine sgI G X r 1 hr0 rfl fl_X4_19 dX4_add_12 ?_
    refine lv_iload_n hx hb dX4_add_15 rfl (lv_at hl 1 rfl) ?_
    refine scSV (As := [.ref (a r1), .int (V r 1), .int v]) (rest := []) G X (k_put ha V r1 n h1 (by first | decide | assumption) (V r 1) v) iy_X5_put ml_X4_27 rfl rfl hl.1 (by decide) (by decide) (Nat.le_of_ble_eq_true rfl) dX4_add_16 (fun V16 H locs p16 X => ?_)
    have er : V16 r = V r := by rw [p16]; exact sUp_n _ _ hrr
    refine lv_aload_n hx hb dX4_add_19 rfl (lv_at hl 0 rfl) ?_
    refine lv_dup hx hb dX4_add_20 rfl ?_
    refine sgI G X r 1 hr0 rfl fl_X4_19 dX4_add_21 ?_
    refine lv_iconst (v := 1) hx hb dX4_add_24 (by decide) ?_
    refine lv_iadd hx hb dX4_add_25 ?_
    refine lv_topi (fun x25 e25 => ?_)
    refine spI G X r 1 hr0 rfl fp_X4_19 dX4_add_26 (fun H locs X => ?_)
    exact srV G X dX4_add_29 (by first | exact ⟨sAg.rf, fun h => by omega⟩ | exact ⟨by rw [show V16 = _ from p16]; exact (sAg.rf.up (by simp)).up (by simp), fun h => by rw [sUp_s, er]; show x25 = _; rw [e25, er]⟩)
def q_rowGet (V : sV) (r r1 n : Nat) (i : Int32) : Int32 → sV → Prop := fun x V1 => ((i.toInt < (V r 1).toInt → x = rAt n (V r1) i) ∧ ((V r 1).toInt ≤ i.toInt → x = -1)) ∧ V1 = V
set_option maxRecDepth 100000 in
set_option maxHeartbeats 4000000 in
theorem k_rowGet {l : Launch} {D : va_G} {cI : ClassId} {a : Nat → Nat} (ha : sInj SX a) (V : sV) (r r1 n : Nat) (hr0 : SX[r]? = some (.inr (4, [some r1, none]))) (h1 : SX[r1]? = some (.inl n)) (hn : n < 2147483648) (hrr : r ≠ r1) (i : Int32) : sMI l D cI SX a V yX4_get cX4_get 2 .int 1 [.ref (a r), .int i] (q_rowGet V r r1 n i) := by
  refine sMIof ha (by decide +kernel) (Nat.le_of_ble_eq_true rfl) ?_
  intro p e s m below meth c ls G X hl
  obtain ⟨hx, hb, hml, hown, hts, hlocks, hr, hK⟩ := id G
  have hl : lv_has ls 2 [(0, .ref (a r)), (1, .int i)] := hl
  refine lv_iload_n hx hb dX4_get_0 rfl (lv_at hl 1 rfl) ?_
  refine lv_aload_n hx hb dX4_get_1 rfl (lv_at hl 0 rfl) ?_
  refine sgI G X r 1 hr0 rfl fl_X4_19 dX4_get_2 ?_
  refine sIge (tgt := 19) hx hb (rfl : Int32.toInt i = _) (rfl : Int32.toInt (V r 1) = _) dX4_get_5 (by decide) (fun c5 => ?_) (fun c5 => ?_)
  · skip
    refine lv_iconst (v := (-1)) hx hb dX4_get_19 (by decide) ?_
    exact srI G X (rfl) dX4_get_20 (by first | exact ⟨⟨fun _ => p13, fun h => by omega⟩, rfl⟩ | exact ⟨⟨fun h => by omega, fun _ => rfl⟩, rfl⟩)
  · skip
    refine lv_aload_n hx hb dX4_get_8 rfl (lv_at hl 0 rfl) ?_
    refine sgR G X r 0 hr0 rfl fl_X4_13 dX4_get_9 ?_
    refine lv_iload_n hx hb dX4_get_12 rfl (lv_at hl 1 rfl) ?_
    refine scSI (As := [.ref (a r1), .int i]) (rest := []) G X (k_at ha V r1 n h1 (by first | decide | assumption) i) iy_X5_at ml_X4_33 rfl rfl hl.1 (by decide) (by decide) (Nat.le_of_ble_eq_true rfl) dX4_get_13 (fun y13 V13 H locs p13 X => ?_)
    obtain ⟨p13, z13⟩ := p13
    subst V13
    refine lv_goto (tgt := 20) hx hb dX4_get_16 (by decide) ?_
    exact srI G X (rfl) dX4_get_20 (by first | exact ⟨⟨fun _ => p13, fun h => by omega⟩, rfl⟩ | exact ⟨⟨fun h => by omega, fun _ => rfl⟩, rfl⟩)
def q_rowClear (V : sV) (r : Nat) : sV → Prop := fun V1 => V1 = sUp V r (upd (V r) 1 0)
set_option maxRecDepth 100000 in
set_option maxHeartbeats 4000000 in
theorem k_rowClear {l : Launch} {D : va_G} {cI : ClassId} {a : Nat → Nat} (ha : sInj SX a) (V : sV) (r r1 n : Nat) (hr0 : SX[r]? = some (.inr (4, [some r1, none]))) (h1 : SX[r1]? = some (.inl n)) (hn : n < 2147483648) (hrr : r ≠ r1) : sMV l D cI SX a V yX4_clear cX4_clear 1 0 [.ref (a r)] (q_rowClear V r) := by
  refine sMVof ha (by decide +kernel) (Nat.le_of_ble_eq_true rfl) ?_
  intro p e s m below meth c ls G X hl
  obtain ⟨hx, hb, hml, hown, hts, hlocks, hr, hK⟩ := id G
  have hl : lv_has ls 1 [(0, .ref (a r))] := hl
  refine lv_aload_n hx hb dX4_clear_0 rfl (lv_at hl 0 rfl) ?_
  refine lv_iconst (v := 0) hx hb dX4_clear_1 (by decide) ?_
  refine spI G X r 1 hr0 rfl fp_X4_19 dX4_clear_2 (fun H locs X => ?_)
  exact srV G X dX4_clear_5 (by rfl)
def q_rowBecome (V : sV) (r r1 : Nat) : sV → Prop := fun V1 => sAg [r, r1] V V1
set_option maxRecDepth 100000 in
set_option maxHeartbeats 4000000 in
theorem k_rowBecome {l : Launch} {D : va_G} {cI : ClassId} {a : Nat → Nat} (ha : sInj SX a) (V : sV) (r r1 n : Nat) (hr0 : SX[r]? = some (.inr (4, [some r1, none]))) (h1 : SX[r1]? = some (.inl n)) (hn : n < 2147483648) (hrr : r ≠ r1) (o o1 : Nat) (ho : SX[o]? = some (.inr (4, [some o1, none]))) (ho1 : SX[o1]? = some (.inl n)) (hoo : o1 ≠ r1) : sMV l D cI SX a V yX4_become cX4_become 2 1 [.ref (a r), .ref (a o)] (q_rowBecome V r r1) := by
  refine sMVof ha (by decide +kernel) (Nat.le_of_ble_eq_true rfl) ?_
  intro p e s m below meth c ls G X hl
  obtain ⟨hx, hb, hml, hown, hts, hlocks, hr, hK⟩ := id G
  have hl : lv_has ls 2 [(0, .ref (a r)), (1, .ref (a o))] := hl
  refine lv_aload_n hx hb dX4_become_0 rfl (lv_at hl 1 rfl) ?_
  refine sgR G X o 0 ho rfl fl_X4_13 dX4_become_1 ?_
  refine lv_aload_n hx hb dX4_become_4 rfl (lv_at hl 0 rfl) ?_
  refine sgR G X r 0 hr0 rfl fl_X4_13 dX4_become_5 ?_
  refine scSV (As := [.ref (a o1), .ref (a r1)]) (rest := []) G X (k_copy ha V o1 r1 n ho1 h1 (by first | decide | assumption) (by first | decide | assumption)) iy_X5_copy ml_X4_37 rfl rfl hl.1 (by decide) (by decide) (Nat.le_of_ble_eq_true rfl) dX4_become_8 (fun V8 H locs p8 X => ?_)
  refine lv_aload_n hx hb dX4_become_11 rfl (lv_at hl 0 rfl) ?_
  refine lv_aload_n hx hb dX4_become_12 rfl (lv_at hl 1 rfl) ?_
  refine sgI G X o 1 ho rfl fl_X4_19 dX4_become_13 ?_
  refine spI G X r 1 hr0 rfl fp_X4_19 dX4_become_16 (fun H locs X => ?_)
  exact srV G X dX4_become_19 (by obtain ⟨f, e8, -⟩ := p8; rw [e8]; exact (sAg.rf.up (by simp)).up (by simp))
def q_airBecome (V : sV) (r : Nat) (i1 i2 i3 i4 : Int32) : sV → Prop := fun V1 => sAg [r] V V1 ∧ V1 r 0 = i1 ∧ V1 r 1 = i2 ∧ V1 r 2 = i3 ∧ V1 r 3 = i4
set_option maxRecDepth 100000 in
set_option maxHeartbeats 4000000 in
theorem k_airBecome {l : Launch} {D : va_G} {cI : ClassId} {a : Nat → Nat} (ha : sInj SX a) (V : sV) (r : Nat) (hr0 : SX[r]? = some (.inr (0, [none, none, none, none]))) (i1 i2 i3 i4 : Int32) : sMV l D cI SX a V yX0_become cX0_become 5 0 [.ref (a r), .int i1, .int i2, .int i3, .int i4] (q_airBecome V r i1 i2 i3 i4) := by
  refine sMVof ha (by decide +kernel) (Nat.le_of_ble_eq_true rfl) ?_
  intro p e s m below meth c ls G X hl
  obtain ⟨hx, hb, hml, hown, hts, hlocks, hr, hK⟩ := id G
  have hl : lv_has ls 5 [(0, .ref (a r)), (1, .int i1), (2, .int i2), (3, .int i3), (4, .int i4)] := hl
  refine lv_aload_n hx hb dX0_become_0 rfl (lv_at hl 0 rfl) ?_
  refine lv_iload_n hx hb dX0_become_1 rfl (lv_at hl 1 rfl) ?_
  refine spI G X r 0 hr0 rfl fp_X0_7 dX0_become_2 (fun H locs X => ?_)
  refine lv_aload_n hx hb dX0_become_5 rfl (lv_at hl 0 rfl) ?_
  refine lv_iload_n hx hb dX0_become_6 rfl (lv_at hl 2 rfl) ?_
  refine spI G X r 1 hr0 rfl fp_X0_13 dX0_become_7 (fun H locs X => ?_)
  refine lv_aload_n hx hb dX0_become_10 rfl (lv_at hl 0 rfl) ?_
  refine lv_iload_n hx hb dX0_become_11 rfl (lv_at hl 3 rfl) ?_
  refine spI G X r 2 hr0 rfl fp_X0_16 dX0_become_12 (fun H locs X => ?_)
  refine lv_aload_n hx hb dX0_become_15 rfl (lv_at hl 0 rfl) ?_
  refine lv_iload hx hb dX0_become_16 (lv_at hl 4 rfl) ?_
  refine spI G X r 3 hr0 rfl fp_X0_19 dX0_become_18 (fun H locs X => ?_)
  exact srV G X dX0_become_21 (by exact ⟨(((sAg.rf.up (by simp)).up (by simp)).up (by simp)).up (by simp), by simp [sUp_s, upd], by simp [sUp_s, upd], by simp [sUp_s, upd], by simp [sUp_s, upd]⟩)
def q_windAt (V : sV) (r : Nat) : Int32 → sV → Prop := fun x V1 => (V r 1 = 0 → x = 0) ∧ V1 = V
set_option maxRecDepth 100000 in
set_option maxHeartbeats 4000000 in
theorem k_windAt {l : Launch} {D : va_G} {cI : ClassId} {a : Nat → Nat} (ha : sInj SX a) (V : sV) (r : Nat) (hr0 : SX[r]? = some (.inr (0, [none, none, none, none]))) (i : Int32) : sMI l D cI SX a V yX0_windAt cX0_windAt 2 .int 0 [.ref (a r), .int i] (q_windAt V r) := by
  refine sMIof ha (by decide +kernel) (Nat.le_of_ble_eq_true rfl) ?_
  intro p e s m below meth c ls G X hl
  obtain ⟨hx, hb, hml, hown, hts, hlocks, hr, hK⟩ := id G
  have hl : lv_has ls 2 [(0, .ref (a r)), (1, .int i)] := hl
  refine lv_iload_n hx hb dX0_windAt_0 rfl (lv_at hl 1 rfl) ?_
  refine lv_aload_n hx hb dX0_windAt_1 rfl (lv_at hl 0 rfl) ?_
  refine sgI G X r 2 hr0 rfl fl_X0_16 dX0_windAt_2 ?_
  refine sIne (tgt := 18) hx hb (rfl : Int32.toInt i = _) (rfl : Int32.toInt (V r 2) = _) dX0_windAt_5 (by decide) (fun c5 => ?_) (fun c5 => ?_)
  · skip
    refine lv_iload_n hx hb dX0_windAt_18 rfl (lv_at hl 1 rfl) ?_
    refine lv_aload_n hx hb dX0_windAt_19 rfl (lv_at hl 0 rfl) ?_
    refine sgI G X r 2 hr0 rfl fl_X0_16 dX0_windAt_20 ?_
    refine lv_iconst (v := 2) hx hb dX0_windAt_23 (by decide) ?_
    refine lv_iadd hx hb dX0_windAt_24 ?_
    refine lv_topi (fun x24 e24 => ?_)
    refine lv_iconst (v := 3) hx hb dX0_windAt_25 (by decide) ?_
    refine lv_iand hx hb dX0_windAt_26 ?_
    refine lv_topi (fun x26 e26 => ?_)
    refine sIne (tgt := 45) hx hb (rfl : Int32.toInt i = _) (rfl : Int32.toInt x26 = _) dX0_windAt_27 (by decide) (fun c27 => ?_) (fun c27 => ?_)
    · skip
      refine lv_iconst (v := 0) hx hb dX0_windAt_45 (by decide) ?_
      exact srI G X (rfl) dX0_windAt_46 (by exact ⟨fun h => by first | rfl | (rw [e16, h]; rfl) | (rw [e41, e40, e38, h]; decide), rfl⟩)
    · skip
      refine lv_aload_n hx hb dX0_windAt_30 rfl (lv_at hl 0 rfl) ?_
      refine sgI G X r 1 hr0 rfl fl_X0_13 dX0_windAt_31 ?_
      refine lv_aload_n hx hb dX0_windAt_34 rfl (lv_at hl 0 rfl) ?_
      refine sgI G X r 1 hr0 rfl fl_X0_13 dX0_windAt_35 ?_
      refine lv_imul hx hb dX0_windAt_38 ?_
      refine lv_topi (fun x38 e38 => ?_)
      refine lv_iconst (v := 2) hx hb dX0_windAt_39 (by decide) ?_
      refine lv_idiv hx hb dX0_windAt_40 (by decide) ?_
      refine lv_topi (fun x40 e40 => ?_)
      refine lv_ineg hx hb dX0_windAt_41 ?_
      refine lv_topi (fun x41 e41 => ?_)
      refine lv_goto (tgt := 46) hx hb dX0_windAt_42 (by decide) ?_
      exact srI G X (rfl) dX0_windAt_46 (by exact ⟨fun h => by first | rfl | (rw [e16, h]; rfl) | (rw [e41, e40, e38, h]; decide), rfl⟩)
  · skip
    refine lv_aload_n hx hb dX0_windAt_8 rfl (lv_at hl 0 rfl) ?_
    refine sgI G X r 1 hr0 rfl fl_X0_13 dX0_windAt_9 ?_
    refine lv_aload_n hx hb dX0_windAt_12 rfl (lv_at hl 0 rfl) ?_
    refine sgI G X r 1 hr0 rfl fl_X0_13 dX0_windAt_13 ?_
    refine lv_imul hx hb dX0_windAt_16 ?_
    refine lv_topi (fun x16 e16 => ?_)
    exact srI G X (rfl) dX0_windAt_17 (by exact ⟨fun h => by first | rfl | (rw [e16, h]; rfl) | (rw [e41, e40, e38, h]; decide), rfl⟩)
def q_wFull (V : sV) (r : Nat) : Int32 → sV → Prop := fun x V1 => ((x.toInt = 1 ∧ 4 ≤ (V r 3).toInt) ∨ (x.toInt = 0 ∧ (V r 3).toInt < 4)) ∧ V1 = V
set_option maxRecDepth 100000 in
set_option maxHeartbeats 4000000 in
theorem k_wFull {l : Launch} {D : va_G} {cI : ClassId} {a : Nat → Nat} (ha : sInj SX a) (V : sV) (r r1 r2 r3 : Nat) (hr0 : SX[r]? = some (.inr (7, [some r1, some r2, some r3, none]))) (h1 : SX[r1]? = some (.inl 4)) (h2 : SX[r2]? = some (.inl 4)) (h3 : SX[r3]? = some (.inl 4)) : sMI l D cI SX a V yX8_isFull cX8_isFull 1 .boolean 0 [.ref (a r)] (q_wFull V r) := by
  refine sMIof ha (by decide +kernel) (Nat.le_of_ble_eq_true rfl) ?_
  intro p e s m below meth c ls G X hl
  obtain ⟨hx, hb, hml, hown, hts, hlocks, hr, hK⟩ := id G
  have hl : lv_has ls 1 [(0, .ref (a r))] := hl
  refine lv_aload_n hx hb dX8_isFull_0 rfl (lv_at hl 0 rfl) ?_
  refine sgI G X r 3 hr0 rfl fl_X8_21 dX8_isFull_1 ?_
  refine lv_iconst (v := 4) hx hb dX8_isFull_4 (by decide) ?_
  refine sIlt (tgt := 12) hx hb (rfl : Int32.toInt (V r 3) = _) (by decide : (4 : Int32).toInt = 4) dX8_isFull_5 (by decide) (fun c5 => ?_) (fun c5 => ?_)
  · skip
    refine lv_iconst (v := 0) hx hb dX8_isFull_12 (by decide) ?_
    exact srI G X (rfl) dX8_isFull_13 (by first | exact ⟨Or.inl ⟨rfl, c5⟩, rfl⟩ | exact ⟨Or.inr ⟨rfl, c5⟩, rfl⟩)
  · skip
    refine lv_iconst (v := 1) hx hb dX8_isFull_8 (by decide) ?_
    refine lv_goto (tgt := 13) hx hb dX8_isFull_9 (by decide) ?_
    exact srI G X (rfl) dX8_isFull_13 (by first | exact ⟨Or.inl ⟨rfl, c5⟩, rfl⟩ | exact ⟨Or.inr ⟨rfl, c5⟩, rfl⟩)
def q_wAdd (V : sV) (r r1 r2 r3 : Nat) : sV → Prop := fun V1 => sAg [r, r1, r2, r3] V V1
set_option maxRecDepth 100000 in
set_option maxHeartbeats 4000000 in
theorem k_wAdd {l : Launch} {D : va_G} {cI : ClassId} {a : Nat → Nat} (ha : sInj SX a) (V : sV) (r r1 r2 r3 : Nat) (hr0 : SX[r]? = some (.inr (7, [some r1, some r2, some r3, none]))) (h1 : SX[r1]? = some (.inl 4)) (h2 : SX[r2]? = some (.inl 4)) (h3 : SX[r3]? = some (.inl 4)) (i1 i2 i3 : Int32) : sMV l D cI SX a V yX8_add cX8_add 4 1 [.ref (a r), .int i1, .int i2, .int i3] (q_wAdd V r r1 r2 r3) := by
  refine sMVof ha (by decide +kernel) (Nat.le_of_ble_eq_true rfl) ?_
  intro p e s m below meth c ls G X hl
  obtain ⟨hx, hb, hml, hown, hts, hlocks, hr, hK⟩ := id G
  have hl : lv_has ls 4 [(0, .ref (a r)), (1, .int i1), (2, .int i2), (3, .int i3)] := hl
  refine lv_aload_n hx hb dX8_add_0 rfl (lv_at hl 0 rfl) ?_
  refine scI (ci := 7) (As := []) (rest := []) G X (k_wFull ha V r r1 r2 r3 hr0 h1 h2 h3) iy_X8_isFull ml_X8_25 rfl hr0 rfl rfl hl.1 (by decide) (by decide) (Nat.le_of_ble_eq_true rfl) dX8_add_1 (fun y1 V1 H locs p1 X => ?_)
  obtain ⟨p1, z1⟩ := p1
  subst V1
  refine sZne (tgt := 53) hx hb (rfl : Int32.toInt y1 = _) dX8_add_4 (by decide) (fun c4 => ?_) (fun c4 => ?_)
  · skip
    exact srV G X dX8_add_53 (by first | exact sAg.rf | (rw [show V40 = _ from p40, show V28 = _ from p28, show V16 = _ from p16]; exact (((sAg.rf.up (by simp)).up (by simp)).up (by simp)).up (by simp)))
  · skip
    refine lv_aload_n hx hb dX8_add_7 rfl (lv_at hl 0 rfl) ?_
    refine sgR G X r 0 hr0 rfl fl_X8_9 dX8_add_8 ?_
    refine lv_aload_n hx hb dX8_add_11 rfl (lv_at hl 0 rfl) ?_
    refine sgI G X r 3 hr0 rfl fl_X8_21 dX8_add_12 ?_
    refine lv_iload_n hx hb dX8_add_15 rfl (lv_at hl 1 rfl) ?_
    refine scSV (As := [.ref (a r1), .int (V r 3), .int i1]) (rest := []) G X (k_put ha V r1 4 h1 (by first | decide | assumption) (V r 3) i1) iy_X5_put ml_X8_29 rfl rfl hl.1 (by decide) (by decide) (Nat.le_of_ble_eq_true rfl) dX8_add_16 (fun V16 H locs p16 X => ?_)
    refine lv_aload_n hx hb dX8_add_19 rfl (lv_at hl 0 rfl) ?_
    refine sgR G X r 1 hr0 rfl fl_X8_15 dX8_add_20 ?_
    refine lv_aload_n hx hb dX8_add_23 rfl (lv_at hl 0 rfl) ?_
    refine sgI G X r 3 hr0 rfl fl_X8_21 dX8_add_24 ?_
    refine lv_iload_n hx hb dX8_add_27 rfl (lv_at hl 2 rfl) ?_
    refine scSV (As := [.ref (a r2), .int (V16 r 3), .int i2]) (rest := []) G X (k_put ha V16 r2 4 h2 (by first | decide | assumption) (V16 r 3) i2) iy_X5_put ml_X8_29 rfl rfl hl.1 (by decide) (by decide) (Nat.le_of_ble_eq_true rfl) dX8_add_28 (fun V28 H locs p28 X => ?_)
    refine lv_aload_n hx hb dX8_add_31 rfl (lv_at hl 0 rfl) ?_
    refine sgR G X r 2 hr0 rfl fl_X8_18 dX8_add_32 ?_
    refine lv_aload_n hx hb dX8_add_35 rfl (lv_at hl 0 rfl) ?_
    refine sgI G X r 3 hr0 rfl fl_X8_21 dX8_add_36 ?_
    refine lv_iload_n hx hb dX8_add_39 rfl (lv_at hl 3 rfl) ?_
    refine scSV (As := [.ref (a r3), .int (V28 r 3), .int i3]) (rest := []) G X (k_put ha V28 r3 4 h3 (by first | decide | assumption) (V28 r 3) i3) iy_X5_put ml_X8_29 rfl rfl hl.1 (by decide) (by decide) (Nat.le_of_ble_eq_true rfl) dX8_add_40 (fun V40 H locs p40 X => ?_)
    refine lv_aload_n hx hb dX8_add_43 rfl (lv_at hl 0 rfl) ?_
    refine lv_dup hx hb dX8_add_44 rfl ?_
    refine sgI G X r 3 hr0 rfl fl_X8_21 dX8_add_45 ?_
    refine lv_iconst (v := 1) hx hb dX8_add_48 (by decide) ?_
    refine lv_iadd hx hb dX8_add_49 ?_
    refine lv_topi (fun x49 e49 => ?_)
    refine spI G X r 3 hr0 rfl fp_X8_21 dX8_add_50 (fun H locs X => ?_)
    exact srV G X dX8_add_53 (by first | exact sAg.rf | (rw [show V40 = _ from p40, show V28 = _ from p28, show V16 = _ from p16]; exact (((sAg.rf.up (by simp)).up (by simp)).up (by simp)).up (by simp)))
def q_wBecome (V : sV) (r r1 r2 r3 : Nat) : sV → Prop := fun V1 => sAg [r, r1, r2, r3] V V1
set_option maxRecDepth 100000 in
set_option maxHeartbeats 4000000 in
theorem k_wBecome {l : Launch} {D : va_G} {cI : ClassId} {a : Nat → Nat} (ha : sInj SX a) (V : sV) (r r1 r2 r3 : Nat) (hr0 : SX[r]? = some (.inr (7, [some r1, some r2, some r3, none]))) (h1 : SX[r1]? = some (.inl 4)) (h2 : SX[r2]? = some (.inl 4)) (h3 : SX[r3]? = some (.inl 4)) (o o1 o2 o3 : Nat) (ho0 : SX[o]? = some (.inr (7, [some o1, some o2, some o3, none]))) (ho1 : SX[o1]? = some (.inl 4)) (ho2 : SX[o2]? = some (.inl 4)) (ho3 : SX[o3]? = some (.inl 4)) (n1 : o1 ≠ r1) (n2 : o2 ≠ r2) (n3 : o3 ≠ r3) : sMV l D cI SX a V yX8_become cX8_become 2 1 [.ref (a r), .ref (a o)] (q_wBecome V r r1 r2 r3) := by
  refine sMVof ha (by decide +kernel) (Nat.le_of_ble_eq_true rfl) ?_
  intro p e s m below meth c ls G X hl
  obtain ⟨hx, hb, hml, hown, hts, hlocks, hr, hK⟩ := id G
  have hl : lv_has ls 2 [(0, .ref (a r)), (1, .ref (a o))] := hl
  refine lv_aload_n hx hb dX8_become_0 rfl (lv_at hl 1 rfl) ?_
  refine sgR G X o 0 ho0 rfl fl_X8_9 dX8_become_1 ?_
  refine lv_aload_n hx hb dX8_become_4 rfl (lv_at hl 0 rfl) ?_
  refine sgR G X r 0 hr0 rfl fl_X8_9 dX8_become_5 ?_
  refine scSV (As := [.ref (a o1), .ref (a r1)]) (rest := []) G X (k_copy ha V o1 r1 4 ho1 h1 (by first | decide | assumption) (by first | decide | assumption)) iy_X5_copy ml_X8_35 rfl rfl hl.1 (by decide) (by decide) (Nat.le_of_ble_eq_true rfl) dX8_become_8 (fun V8 H locs p8 X => ?_)
  refine lv_aload_n hx hb dX8_become_11 rfl (lv_at hl 1 rfl) ?_
  refine sgR G X o 1 ho0 rfl fl_X8_15 dX8_become_12 ?_
  refine lv_aload_n hx hb dX8_become_15 rfl (lv_at hl 0 rfl) ?_
  refine sgR G X r 1 hr0 rfl fl_X8_15 dX8_become_16 ?_
  refine scSV (As := [.ref (a o2), .ref (a r2)]) (rest := []) G X (k_copy ha V8 o2 r2 4 ho2 h2 (by first | decide | assumption) (by first | decide | assumption)) iy_X5_copy ml_X8_35 rfl rfl hl.1 (by decide) (by decide) (Nat.le_of_ble_eq_true rfl) dX8_become_19 (fun V19 H locs p19 X => ?_)
  refine lv_aload_n hx hb dX8_become_22 rfl (lv_at hl 1 rfl) ?_
  refine sgR G X o 2 ho0 rfl fl_X8_18 dX8_become_23 ?_
  refine lv_aload_n hx hb dX8_become_26 rfl (lv_at hl 0 rfl) ?_
  refine sgR G X r 2 hr0 rfl fl_X8_18 dX8_become_27 ?_
  refine scSV (As := [.ref (a o3), .ref (a r3)]) (rest := []) G X (k_copy ha V19 o3 r3 4 ho3 h3 (by first | decide | assumption) (by first | decide | assumption)) iy_X5_copy ml_X8_35 rfl rfl hl.1 (by decide) (by decide) (Nat.le_of_ble_eq_true rfl) dX8_become_30 (fun V30 H locs p30 X => ?_)
  refine lv_aload_n hx hb dX8_become_33 rfl (lv_at hl 0 rfl) ?_
  refine lv_aload_n hx hb dX8_become_34 rfl (lv_at hl 1 rfl) ?_
  refine sgI G X o 3 ho0 rfl fl_X8_21 dX8_become_35 ?_
  refine spI G X r 3 hr0 rfl fp_X8_21 dX8_become_38 (fun H locs X => ?_)
  exact srV G X dX8_become_41 (by obtain ⟨f8, e8, -⟩ := p8; obtain ⟨f19, e19, -⟩ := p19; obtain ⟨f30, e30, -⟩ := p30; rw [e30, e19, e8]; exact (((sAg.rf.up (by simp)).up (by simp)).up (by simp)).up (by simp))
end
section
def q_has (V : sV) (i : Int32) : Int32 → sV → Prop := fun x V1 => ((x.toInt = 1 ∧ 0 ≤ i.toInt ∧ i.toInt < (V 3 7).toInt) ∨ (x.toInt = 0 ∧ (i.toInt < 0 ∨ (V 3 7).toInt ≤ i.toInt))) ∧ V1 = V
set_option maxRecDepth 100000 in
set_option maxHeartbeats 4000000 in
theorem k_has {l : Launch} {D : va_G} {cI : ClassId} {a : Nat → Nat} (ha : sInj SX a) (V : sV) (i : Int32) : sMI l D cI SX a V yX2_has cX2_has 2 .boolean 0 [.ref (a 3), .int i] (q_has V i) := by
  refine sMIof ha (by decide +kernel) (Nat.le_of_ble_eq_true rfl) ?_
  intro p e s m below meth c ls G X hl
  obtain ⟨hx, hb, hml, hown, hts, hlocks, hr, hK⟩ := id G
  have hl : lv_has ls 2 [(0, .ref (a 3)), (1, .int i)] := hl
  refine lv_iload_n hx hb dX2_has_0 rfl (lv_at hl 1 rfl) ?_
  refine sZlt (tgt := 16) hx hb (rfl : Int32.toInt i = _) dX2_has_1 (by decide) (fun c1 => ?_) (fun c1 => ?_)
  · skip
    refine lv_iconst (v := 0) hx hb dX2_has_16 (by decide) ?_
    exact srI G X (rfl) dX2_has_17 (by first | exact ⟨Or.inl ⟨rfl, c1, c9⟩, rfl⟩ | exact ⟨Or.inr ⟨rfl, Or.inr c9⟩, rfl⟩ | exact ⟨Or.inr ⟨rfl, Or.inl c1⟩, rfl⟩)
  · skip
    refine lv_iload_n hx hb dX2_has_4 rfl (lv_at hl 1 rfl) ?_
    refine lv_aload_n hx hb dX2_has_5 rfl (lv_at hl 0 rfl) ?_
    refine sgI G X 3 7 rfl rfl fl_X2_33 dX2_has_6 ?_
    refine sIge (tgt := 16) hx hb (rfl : Int32.toInt i = _) (rfl : Int32.toInt (V 3 7) = _) dX2_has_9 (by decide) (fun c9 => ?_) (fun c9 => ?_)
    · skip
      refine lv_iconst (v := 0) hx hb dX2_has_16 (by decide) ?_
      exact srI G X (rfl) dX2_has_17 (by first | exact ⟨Or.inl ⟨rfl, c1, c9⟩, rfl⟩ | exact ⟨Or.inr ⟨rfl, Or.inr c9⟩, rfl⟩ | exact ⟨Or.inr ⟨rfl, Or.inl c1⟩, rfl⟩)
    · skip
      refine lv_iconst (v := 1) hx hb dX2_has_12 (by decide) ?_
      refine lv_goto (tgt := 17) hx hb dX2_has_13 (by decide) ?_
      exact srI G X (rfl) dX2_has_17 (by first | exact ⟨Or.inl ⟨rfl, c1, c9⟩, rfl⟩ | exact ⟨Or.inr ⟨rfl, Or.inr c9⟩, rfl⟩ | exact ⟨Or.inr ⟨rfl, Or.inl c1⟩, rfl⟩)
def q_oFull (V : sV) : Int32 → sV → Prop := fun x V1 => ((x.toInt = 1 ∧ 10 ≤ (V 3 7).toInt) ∨ (x.toInt = 0 ∧ (V 3 7).toInt < 10)) ∧ V1 = V
set_option maxRecDepth 100000 in
set_option maxHeartbeats 4000000 in
theorem k_oFull {l : Launch} {D : va_G} {cI : ClassId} {a : Nat → Nat} (ha : sInj SX a) (V : sV)  : sMI l D cI SX a V yX2_isFull cX2_isFull 1 .boolean 0 [.ref (a 3)] (q_oFull V) := by
  refine sMIof ha (by decide +kernel) (Nat.le_of_ble_eq_true rfl) ?_
  intro p e s m below meth c ls G X hl
  obtain ⟨hx, hb, hml, hown, hts, hlocks, hr, hK⟩ := id G
  have hl : lv_has ls 1 [(0, .ref (a 3))] := hl
  refine lv_aload_n hx hb dX2_isFull_0 rfl (lv_at hl 0 rfl) ?_
  refine sgI G X 3 7 rfl rfl fl_X2_33 dX2_isFull_1 ?_
  refine lv_bipush (v := 10) hx hb dX2_isFull_4 (by decide) ?_
  refine sIlt (tgt := 13) hx hb (rfl : Int32.toInt (V 3 7) = _) (by decide : (10 : Int32).toInt = 10) dX2_isFull_6 (by decide) (fun c6 => ?_) (fun c6 => ?_)
  · skip
    refine lv_iconst (v := 0) hx hb dX2_isFull_13 (by decide) ?_
    exact srI G X (rfl) dX2_isFull_14 (by first | exact ⟨Or.inl ⟨rfl, c6⟩, rfl⟩ | exact ⟨Or.inr ⟨rfl, c6⟩, rfl⟩)
  · skip
    refine lv_iconst (v := 1) hx hb dX2_isFull_9 (by decide) ?_
    refine lv_goto (tgt := 14) hx hb dX2_isFull_10 (by decide) ?_
    exact srI G X (rfl) dX2_isFull_14 (by first | exact ⟨Or.inl ⟨rfl, c6⟩, rfl⟩ | exact ⟨Or.inr ⟨rfl, c6⟩, rfl⟩)
def q_isDoor (V : sV) (i : Int32) : Int32 → sV → Prop := fun x V1 => ((x.toInt = 1 ∧ (rAt 10 (V 6) i).toInt = 7) ∨ (x.toInt = 0 ∧ (rAt 10 (V 6) i).toInt ≠ 7)) ∧ V1 = V
set_option maxRecDepth 100000 in
set_option maxHeartbeats 4000000 in
theorem k_isDoor {l : Launch} {D : va_G} {cI : ClassId} {a : Nat → Nat} (ha : sInj SX a) (V : sV) (i : Int32) : sMI l D cI SX a V yX2_isDoor cX2_isDoor 2 .boolean 1 [.ref (a 3), .int i] (q_isDoor V i) := by
  refine sMIof ha (by decide +kernel) (Nat.le_of_ble_eq_true rfl) ?_
  intro p e s m below meth c ls G X hl
  obtain ⟨hx, hb, hml, hown, hts, hlocks, hr, hK⟩ := id G
  have hl : lv_has ls 2 [(0, .ref (a 3)), (1, .int i)] := hl
  refine lv_aload_n hx hb dX2_isDoor_0 rfl (lv_at hl 0 rfl) ?_
  refine sgR G X 3 2 rfl rfl fl_X2_18 dX2_isDoor_1 ?_
  refine lv_iload_n hx hb dX2_isDoor_4 rfl (lv_at hl 1 rfl) ?_
  refine scSI (As := [.ref (a 6), .int i]) (rest := []) G X (k_at ha V 6 10 rfl (by first | decide | assumption) i) iy_X5_at ml_X2_37 rfl rfl hl.1 (by decide) (by decide) (Nat.le_of_ble_eq_true rfl) dX2_isDoor_5 (fun y5 V5 H locs p5 X => ?_)
  obtain ⟨p5, z5⟩ := p5
  subst V5
  refine lv_bipush (v := 7) hx hb dX2_isDoor_8 (by decide) ?_
  refine sIne (tgt := 17) hx hb (rfl : Int32.toInt y5 = _) (by decide : (7 : Int32).toInt = 7) dX2_isDoor_10 (by decide) (fun c10 => ?_) (fun c10 => ?_)
  · skip
    refine lv_iconst (v := 0) hx hb dX2_isDoor_17 (by decide) ?_
    exact srI G X (rfl) dX2_isDoor_18 (by rw [p5] at c10; first | exact ⟨Or.inl ⟨rfl, c10⟩, rfl⟩ | exact ⟨Or.inr ⟨rfl, c10⟩, rfl⟩)
  · skip
    refine lv_iconst (v := 1) hx hb dX2_isDoor_13 (by decide) ?_
    refine lv_goto (tgt := 18) hx hb dX2_isDoor_14 (by decide) ?_
    exact srI G X (rfl) dX2_isDoor_18 (by rw [p5] at c10; first | exact ⟨Or.inl ⟨rfl, c10⟩, rfl⟩ | exact ⟨Or.inr ⟨rfl, c10⟩, rfl⟩)
def q_oAdd (V : sV) (i1 i2 i3 i4 i5 i6 i7 : Int32) : sV → Prop := fun V1 => sAg [3, 4, 5, 6, 7, 8, 9, 10] V V1 ∧ ((V 3 7).toInt < 10 → V1 3 7 = V 3 7 + 1 ∧ V1 4 = rPut 10 (V 4) (V 3 7) i1 ∧ V1 5 = rPut 10 (V 5) (V 3 7) i2 ∧ V1 6 = rPut 10 (V 6) (V 3 7) i3 ∧ V1 7 = rPut 10 (V 7) (V 3 7) i4 ∧ V1 8 = rPut 10 (V 8) (V 3 7) i5 ∧ V1 9 = rPut 10 (V 9) (V 3 7) i6 ∧ V1 10 = rPut 10 (V 10) (V 3 7) i7)
set_option maxRecDepth 100000 in
set_option maxHeartbeats 4000000 in
theorem k_oAdd {l : Launch} {D : va_G} {cI : ClassId} {a : Nat → Nat} (ha : sInj SX a) (V : sV) (i1 i2 i3 i4 i5 i6 i7 : Int32) : sMV l D cI SX a V yX2_add cX2_add 8 1 [.ref (a 3), .int i1, .int i2, .int i3, .int i4, .int i5, .int i6, .int i7] (q_oAdd V i1 i2 i3 i4 i5 i6 i7) := by
  refine sMVof ha (by decide +kernel) (Nat.le_of_ble_eq_true rfl) ?_
  intro p e s m below meth c ls G X hl
  obtain ⟨hx, hb, hml, hown, hts, hlocks, hr, hK⟩ := id G
  have hl : lv_has ls 8 [(0, .ref (a 3)), (1, .int i1), (2, .int i2), (3, .int i3), (4, .int i4), (5, .int i5), (6, .int i6), (7, .int i7)] := hl
  refine lv_aload_n hx hb dX2_add_0 rfl (lv_at hl 0 rfl) ?_
  refine scI (ci := 2) (As := []) (rest := []) G X (k_oFull ha V ) iy_X2_isFull ml_X2_43 rfl rfl rfl rfl hl.1 (by decide) (by decide) (Nat.le_of_ble_eq_true rfl) dX2_add_1 (fun y1 V1 H locs p1 X => ?_)
  obtain ⟨p1, z1⟩ := p1
  subst V1
  refine sZne (tgt := 105) hx hb (rfl : Int32.toInt y1 = _) dX2_add_4 (by decide) (fun c4 => ?_) (fun c4 => ?_)
  · skip
    exact srV G X dX2_add_105 (by first | exact ⟨sAg.rf, fun h => by omega⟩ | (have q16 : V16 = _ := p16; have q28 : V28 = _ := p28; have q40 : V40 = _ := p40; have q53 : V53 = _ := p53; have q66 : V66 = _ := p66; have q79 : V79 = _ := p79; have q92 : V92 = _ := p92; subst q16 q28 q40 q53 q66 q79 q92 e101; exact ⟨(((((((sAg.rf.up (by simp)).up (by simp)).up (by simp)).up (by simp)).up (by simp)).up (by simp)).up (by simp)).up (by simp), fun _ => ⟨rfl, rfl, rfl, rfl, rfl, rfl, rfl, rfl⟩⟩))
  · skip
    refine lv_aload_n hx hb dX2_add_7 rfl (lv_at hl 0 rfl) ?_
    refine sgR G X 3 0 rfl rfl fl_X2_9 dX2_add_8 ?_
    refine lv_aload_n hx hb dX2_add_11 rfl (lv_at hl 0 rfl) ?_
    refine sgI G X 3 7 rfl rfl fl_X2_33 dX2_add_12 ?_
    refine lv_iload_n hx hb dX2_add_15 rfl (lv_at hl 1 rfl) ?_
    refine scSV (As := [.ref (a 4), .int (V 3 7), .int i1]) (rest := []) G X (k_put ha V 4 10 rfl (by first | decide | assumption) (V 3 7) i1) iy_X5_put ml_X2_47 rfl rfl hl.1 (by decide) (by decide) (Nat.le_of_ble_eq_true rfl) dX2_add_16 (fun V16 H locs p16 X => ?_)
    refine lv_aload_n hx hb dX2_add_19 rfl (lv_at hl 0 rfl) ?_
    refine sgR G X 3 1 rfl rfl fl_X2_15 dX2_add_20 ?_
    refine lv_aload_n hx hb dX2_add_23 rfl (lv_at hl 0 rfl) ?_
    refine sgI G X 3 7 rfl rfl fl_X2_33 dX2_add_24 ?_
    refine lv_iload_n hx hb dX2_add_27 rfl (lv_at hl 2 rfl) ?_
    refine scSV (As := [.ref (a 5), .int (V16 3 7), .int i2]) (rest := []) G X (k_put ha V16 5 10 rfl (by first | decide | assumption) (V16 3 7) i2) iy_X5_put ml_X2_47 rfl rfl hl.1 (by decide) (by decide) (Nat.le_of_ble_eq_true rfl) dX2_add_28 (fun V28 H locs p28 X => ?_)
    refine lv_aload_n hx hb dX2_add_31 rfl (lv_at hl 0 rfl) ?_
    refine sgR G X 3 2 rfl rfl fl_X2_18 dX2_add_32 ?_
    refine lv_aload_n hx hb dX2_add_35 rfl (lv_at hl 0 rfl) ?_
    refine sgI G X 3 7 rfl rfl fl_X2_33 dX2_add_36 ?_
    refine lv_iload_n hx hb dX2_add_39 rfl (lv_at hl 3 rfl) ?_
    refine scSV (As := [.ref (a 6), .int (V28 3 7), .int i3]) (rest := []) G X (k_put ha V28 6 10 rfl (by first | decide | assumption) (V28 3 7) i3) iy_X5_put ml_X2_47 rfl rfl hl.1 (by decide) (by decide) (Nat.le_of_ble_eq_true rfl) dX2_add_40 (fun V40 H locs p40 X => ?_)
    refine lv_aload_n hx hb dX2_add_43 rfl (lv_at hl 0 rfl) ?_
    refine sgR G X 3 3 rfl rfl fl_X2_21 dX2_add_44 ?_
    refine lv_aload_n hx hb dX2_add_47 rfl (lv_at hl 0 rfl) ?_
    refine sgI G X 3 7 rfl rfl fl_X2_33 dX2_add_48 ?_
    refine lv_iload hx hb dX2_add_51 (lv_at hl 4 rfl) ?_
    refine scSV (As := [.ref (a 7), .int (V40 3 7), .int i4]) (rest := []) G X (k_put ha V40 7 10 rfl (by first | decide | assumption) (V40 3 7) i4) iy_X5_put ml_X2_47 rfl rfl hl.1 (by decide) (by decide) (Nat.le_of_ble_eq_true rfl) dX2_add_53 (fun V53 H locs p53 X => ?_)
    refine lv_aload_n hx hb dX2_add_56 rfl (lv_at hl 0 rfl) ?_
    refine sgR G X 3 4 rfl rfl fl_X2_24 dX2_add_57 ?_
    refine lv_aload_n hx hb dX2_add_60 rfl (lv_at hl 0 rfl) ?_
    refine sgI G X 3 7 rfl rfl fl_X2_33 dX2_add_61 ?_
    refine lv_iload hx hb dX2_add_64 (lv_at hl 5 rfl) ?_
    refine scSV (As := [.ref (a 8), .int (V53 3 7), .int i5]) (rest := []) G X (k_put ha V53 8 10 rfl (by first | decide | assumption) (V53 3 7) i5) iy_X5_put ml_X2_47 rfl rfl hl.1 (by decide) (by decide) (Nat.le_of_ble_eq_true rfl) dX2_add_66 (fun V66 H locs p66 X => ?_)
    refine lv_aload_n hx hb dX2_add_69 rfl (lv_at hl 0 rfl) ?_
    refine sgR G X 3 5 rfl rfl fl_X2_27 dX2_add_70 ?_
    refine lv_aload_n hx hb dX2_add_73 rfl (lv_at hl 0 rfl) ?_
    refine sgI G X 3 7 rfl rfl fl_X2_33 dX2_add_74 ?_
    refine lv_iload hx hb dX2_add_77 (lv_at hl 6 rfl) ?_
    refine scSV (As := [.ref (a 9), .int (V66 3 7), .int i6]) (rest := []) G X (k_put ha V66 9 10 rfl (by first | decide | assumption) (V66 3 7) i6) iy_X5_put ml_X2_47 rfl rfl hl.1 (by decide) (by decide) (Nat.le_of_ble_eq_true rfl) dX2_add_79 (fun V79 H locs p79 X => ?_)
    refine lv_aload_n hx hb dX2_add_82 rfl (lv_at hl 0 rfl) ?_
    refine sgR G X 3 6 rfl rfl fl_X2_30 dX2_add_83 ?_
    refine lv_aload_n hx hb dX2_add_86 rfl (lv_at hl 0 rfl) ?_
    refine sgI G X 3 7 rfl rfl fl_X2_33 dX2_add_87 ?_
    refine lv_iload hx hb dX2_add_90 (lv_at hl 7 rfl) ?_
    refine scSV (As := [.ref (a 10), .int (V79 3 7), .int i7]) (rest := []) G X (k_put ha V79 10 10 rfl (by first | decide | assumption) (V79 3 7) i7) iy_X5_put ml_X2_47 rfl rfl hl.1 (by decide) (by decide) (Nat.le_of_ble_eq_true rfl) dX2_add_92 (fun V92 H locs p92 X => ?_)
    refine lv_aload_n hx hb dX2_add_95 rfl (lv_at hl 0 rfl) ?_
    refine lv_dup hx hb dX2_add_96 rfl ?_
    refine sgI G X 3 7 rfl rfl fl_X2_33 dX2_add_97 ?_
    refine lv_iconst (v := 1) hx hb dX2_add_100 (by decide) ?_
    refine lv_iadd hx hb dX2_add_101 ?_
    refine lv_topi (fun x101 e101 => ?_)
    refine spI G X 3 7 rfl rfl fp_X2_33 dX2_add_102 (fun H locs X => ?_)
    exact srV G X dX2_add_105 (by first | exact ⟨sAg.rf, fun h => by omega⟩ | (have q16 : V16 = _ := p16; have q28 : V28 = _ := p28; have q40 : V40 = _ := p40; have q53 : V53 = _ := p53; have q66 : V66 = _ := p66; have q79 : V79 = _ := p79; have q92 : V92 = _ := p92; subst q16 q28 q40 q53 q66 q79 q92 e101; exact ⟨(((((((sAg.rf.up (by simp)).up (by simp)).up (by simp)).up (by simp)).up (by simp)).up (by simp)).up (by simp)).up (by simp), fun _ => ⟨rfl, rfl, rfl, rfl, rfl, rfl, rfl, rfl⟩⟩))
def q_dropLast (V : sV) : sV → Prop := fun V1 => ∃ z : Int32, V1 = sUp V 3 (upd (V 3) 7 z) ∧ z.toInt = max (V 3 7 - 1).toInt 0
set_option maxRecDepth 100000 in
set_option maxHeartbeats 4000000 in
theorem k_dropLast {l : Launch} {D : va_G} {cI : ClassId} {a : Nat → Nat} (ha : sInj SX a) (V : sV)  : sMV l D cI SX a V yX2_dropLast cX2_dropLast 1 1 [.ref (a 3)] (q_dropLast V) := by
  refine sMVof ha (by decide +kernel) (Nat.le_of_ble_eq_true rfl) ?_
  intro p e s m below meth c ls G X hl
  obtain ⟨hx, hb, hml, hown, hts, hlocks, hr, hK⟩ := id G
  have hl : lv_has ls 1 [(0, .ref (a 3))] := hl
  refine lv_aload_n hx hb dX2_dropLast_0 rfl (lv_at hl 0 rfl) ?_
  refine lv_aload_n hx hb dX2_dropLast_1 rfl (lv_at hl 0 rfl) ?_
  refine sgI G X 3 7 rfl rfl fl_X2_33 dX2_dropLast_2 ?_
  refine lv_iconst (v := 1) hx hb dX2_dropLast_5 (by decide) ?_
  refine lv_isub hx hb dX2_dropLast_6 ?_
  refine lv_topi (fun x6 e6 => ?_)
  refine lv_iconst (v := 0) hx hb dX2_dropLast_7 (by decide) ?_
  refine sMax hx hb hml hl.1 hown hts mm_X2_51 (by decide) (Nat.le_of_ble_eq_true rfl) dX2_dropLast_8 (fun x8 e8 => ?_)
  refine spI G X 3 7 rfl rfl fp_X2_33 dX2_dropLast_11 (fun H locs X => ?_)
  exact srV G X dX2_dropLast_14 (by exact ⟨x8, rfl, by rw [e8, e6]; rfl⟩)
def q_roomsToldOf (V : sV) : Int32 → sV → Prop := fun x V1 => True ∧ V1 = V
set_option maxRecDepth 100000 in
set_option maxHeartbeats 4000000 in
theorem k_roomsToldOf {l : Launch} {D : va_G} {cI : ClassId} {a : Nat → Nat} (ha : sInj SX a) (V : sV)  : sMI l D cI SX a V yX2_roomsToldOf cX2_roomsToldOf 3 .int 1 [.ref (a 3)] (q_roomsToldOf V) := by
  refine sMIof ha (by decide +kernel) (Nat.le_of_ble_eq_true rfl) ?_
  intro p e s m below meth c ls G X hl
  obtain ⟨hx, hb, hml, hown, hts, hlocks, hr, hK⟩ := id G
  have hl : lv_has ls 3 [(0, .ref (a 3))] := hl
  refine lv_iconst (v := 0) hx hb dX2_roomsToldOf_0 (by decide) ?_
  refine lv_istore_n (lv' := [(1, .int 0), (0, .ref (a 3))]) hx hb dX2_roomsToldOf_1 rfl hl (by decide) rfl (fun ls hl => ?_)
  refine lv_iconst (v := 0) hx hb dX2_roomsToldOf_2 (by decide) ?_
  refine lv_istore_n (lv' := [(2, .int 0), (1, .int 0), (0, .ref (a 3))]) hx hb dX2_roomsToldOf_3 rfl hl (by decide) rfl (fun ls hl => ?_)
  have L4 : ∀ (fu : Nat) (i : Int32) (z : Int32) (H : Heap) (locs : List Loc) (ls : Array Slot), (0 ≤ i.toInt) → (((V 3 7).toInt - i.toInt).toNat) < fu → sWS D cI SX a V s.heap H locs → lv_has ls 3 [(2, .int i), (1, .int z), (0, .ref (a 3))] → W p l e (rmD 1) s m ([.ref (a 3)] : List Value).toArray below meth c H locs 0 0 (MQ below (va_Qi (q_roomsToldOf V) (fun V1 t => va_P D vwCl (sWd cI SX a V1) t.heap) (sA SX a s.heap.size)) ([.ref (a 3)] : List Value).toArray s 0 0 (sA SX a s.heap.size)) (F0 m 4 ls []) := by
    intro fu
    induction fu with
    | zero => intro i z H locs ls hi hm; exact absurd hm (Nat.not_lt_zero _)
    | succ fu ih4 =>
      intro i z H locs ls hi hm X hl
      refine lv_iload_n hx hb dX2_roomsToldOf_4 rfl (lv_at hl 0 rfl) ?_
      refine lv_aload_n hx hb dX2_roomsToldOf_5 rfl (lv_at hl 2 rfl) ?_
      refine sgI G X 3 7 rfl rfl fl_X2_33 dX2_roomsToldOf_6 ?_
      refine sIge (tgt := 44) hx hb (rfl : Int32.toInt i = _) (rfl : Int32.toInt (V 3 7) = _) dX2_roomsToldOf_9 (by decide) (fun c9 => ?_) (fun c9 => ?_)
      · skip
        refine lv_iload_n hx hb dX2_roomsToldOf_44 rfl (lv_at hl 1 rfl) ?_
        exact srI G X (rfl) dX2_roomsToldOf_45 (by exact ⟨trivial, rfl⟩)
      · skip
        refine lv_iload_n hx hb dX2_roomsToldOf_12 rfl (lv_at hl 1 rfl) ?_
        refine lv_aload_n hx hb dX2_roomsToldOf_13 rfl (lv_at hl 2 rfl) ?_
        refine sgR G X 3 0 rfl rfl fl_X2_9 dX2_roomsToldOf_14 ?_
        refine lv_iload_n hx hb dX2_roomsToldOf_17 rfl (lv_at hl 0 rfl) ?_
        refine scSI (As := [.ref (a 4), .int i]) (rest := [.int z]) G X (k_at ha V 4 10 rfl (by first | decide | assumption) i) iy_X5_at ml_X2_37 rfl rfl hl.1 (by decide) (by decide) (Nat.le_of_ble_eq_true rfl) dX2_roomsToldOf_18 (fun y18 V18 H locs p18 X => ?_)
        obtain ⟨p18, z18⟩ := p18
        subst V18
        refine lv_aload_n hx hb dX2_roomsToldOf_21 rfl (lv_at hl 2 rfl) ?_
        refine sgR G X 3 1 rfl rfl fl_X2_15 dX2_roomsToldOf_22 ?_
        refine lv_iload_n hx hb dX2_roomsToldOf_25 rfl (lv_at hl 0 rfl) ?_
        refine scSI (As := [.ref (a 5), .int i]) (rest := [.int y18, .int z]) G X (k_at ha V 5 10 rfl (by first | decide | assumption) i) iy_X5_at ml_X2_37 rfl rfl hl.1 (by decide) (by decide) (Nat.le_of_ble_eq_true rfl) dX2_roomsToldOf_26 (fun y26 V26 H locs p26 X => ?_)
        obtain ⟨p26, z26⟩ := p26
        subst V26
        refine sMax hx hb hml hl.1 hown hts mm_X2_51 (by decide) (Nat.le_of_ble_eq_true rfl) dX2_roomsToldOf_29 (fun x29 e29 => ?_)
        refine lv_iconst (v := 1) hx hb dX2_roomsToldOf_32 (by decide) ?_
        refine lv_iadd hx hb dX2_roomsToldOf_33 ?_
        refine lv_topi (fun x33 e33 => ?_)
        refine sMax hx hb hml hl.1 hown hts mm_X2_51 (by decide) (Nat.le_of_ble_eq_true rfl) dX2_roomsToldOf_34 (fun x34 e34 => ?_)
        refine lv_istore_n (lv' := [(1, .int x34), (2, .int i), (0, .ref (a 3))]) hx hb dX2_roomsToldOf_37 rfl hl (by decide) rfl (fun ls hl => ?_)
        obtain ⟨x38, e38⟩ : ∃ y : Int32, y = i + (1) := ⟨_, rfl⟩
        refine lv_iinc (v := x38) (lv' := [(2, .int x38), (1, .int x34), (0, .ref (a 3))]) hx hb dX2_roomsToldOf_38 hl (k := 1) rfl (by rw [e38]; rfl) (by decide) rfl (fun ls hl => ?_)
        refine lv_goto (tgt := 4) hx hb dX2_roomsToldOf_41 (by decide) ?_
        exact ih4 x38 x34 _ _ _ (by rw [i32_i e38 (by have := i32_hi (V 3 7); omega)]; omega) (by rw [i32_i e38 (by have := i32_hi (V 3 7); omega)]; omega) X (lv_sub hl [0, 1, 2] rfl)
  exact L4 _ 0 0 _ _ _ (by decide) (Nat.lt_succ_self _) X (lv_sub hl [0, 1, 2] rfl)
def q_doors (V : sV) : Int32 → sV → Prop := fun x V1 => ((V 3 7).toInt ≤ 0 → x = 0) ∧ V1 = V
set_option maxRecDepth 100000 in
set_option maxHeartbeats 4000000 in
theorem k_doors {l : Launch} {D : va_G} {cI : ClassId} {a : Nat → Nat} (ha : sInj SX a) (V : sV)  : sMI l D cI SX a V yX2_doors cX2_doors 3 .int 2 [.ref (a 3)] (q_doors V) := by
  refine sMIof ha (by decide +kernel) (Nat.le_of_ble_eq_true rfl) ?_
  intro p e s m below meth c ls G X hl
  obtain ⟨hx, hb, hml, hown, hts, hlocks, hr, hK⟩ := id G
  have hl : lv_has ls 3 [(0, .ref (a 3))] := hl
  refine lv_iconst (v := 0) hx hb dX2_doors_0 (by decide) ?_
  refine lv_istore_n (lv' := [(1, .int 0), (0, .ref (a 3))]) hx hb dX2_doors_1 rfl hl (by decide) rfl (fun ls hl => ?_)
  refine lv_iconst (v := 0) hx hb dX2_doors_2 (by decide) ?_
  refine lv_istore_n (lv' := [(2, .int 0), (1, .int 0), (0, .ref (a 3))]) hx hb dX2_doors_3 rfl hl (by decide) rfl (fun ls hl => ?_)
  have L4 : ∀ (fu : Nat) (i : Int32) (z : Int32) (H : Heap) (locs : List Loc) (ls : Array Slot), (0 ≤ i.toInt) → ((V 3 7).toInt ≤ 0 → z = 0) → (((V 3 7).toInt - i.toInt).toNat) < fu → sWS D cI SX a V s.heap H locs → lv_has ls 3 [(2, .int i), (1, .int z), (0, .ref (a 3))] → W p l e (rmD 2) s m ([.ref (a 3)] : List Value).toArray below meth c H locs 0 0 (MQ below (va_Qi (q_doors V) (fun V1 t => va_P D vwCl (sWd cI SX a V1) t.heap) (sA SX a s.heap.size)) ([.ref (a 3)] : List Value).toArray s 0 0 (sA SX a s.heap.size)) (F0 m 4 ls []) := by
    intro fu
    induction fu with
    | zero => intro i z H locs ls hi hz hm; exact absurd hm (Nat.not_lt_zero _)
    | succ fu ih4 =>
      intro i z H locs ls hi hz hm X hl
      refine lv_iload_n hx hb dX2_doors_4 rfl (lv_at hl 0 rfl) ?_
      refine lv_aload_n hx hb dX2_doors_5 rfl (lv_at hl 2 rfl) ?_
      refine sgI G X 3 7 rfl rfl fl_X2_33 dX2_doors_6 ?_
      refine sIge (tgt := 34) hx hb (rfl : Int32.toInt i = _) (rfl : Int32.toInt (V 3 7) = _) dX2_doors_9 (by decide) (fun c9 => ?_) (fun c9 => ?_)
      · skip
        refine lv_iload_n hx hb dX2_doors_34 rfl (lv_at hl 1 rfl) ?_
        exact srI G X (rfl) dX2_doors_35 (by exact ⟨hz, rfl⟩)
      · skip
        refine lv_iload_n hx hb dX2_doors_12 rfl (lv_at hl 1 rfl) ?_
        refine lv_aload_n hx hb dX2_doors_13 rfl (lv_at hl 2 rfl) ?_
        refine lv_iload_n hx hb dX2_doors_14 rfl (lv_at hl 0 rfl) ?_
        refine scI (ci := 2) (As := [.int i]) (rest := [.int z]) G X (k_isDoor ha V i) iy_X2_isDoor ml_X2_61 rfl rfl rfl rfl hl.1 (by decide) (by decide) (Nat.le_of_ble_eq_true rfl) dX2_doors_15 (fun y15 V15 H locs p15 X => ?_)
        obtain ⟨p15, z15⟩ := p15
        subst V15
        refine sZeq (tgt := 25) hx hb (rfl : Int32.toInt y15 = _) dX2_doors_18 (by decide) (fun c18 => ?_) (fun c18 => ?_)
        · skip
          refine lv_iconst (v := 0) hx hb dX2_doors_25 (by decide) ?_
          refine lv_iadd hx hb dX2_doors_26 ?_
          refine lv_topi (fun x26 e26 => ?_)
          refine lv_istore_n (lv' := [(1, .int x26), (2, .int i), (0, .ref (a 3))]) hx hb dX2_doors_27 rfl hl (by decide) rfl (fun ls hl => ?_)
          obtain ⟨x28, e28⟩ : ∃ y : Int32, y = i + (1) := ⟨_, rfl⟩
          refine lv_iinc (v := x28) (lv' := [(2, .int x28), (1, .int x26), (0, .ref (a 3))]) hx hb dX2_doors_28 hl (k := 1) rfl (by rw [e28]; rfl) (by decide) rfl (fun ls hl => ?_)
          refine lv_goto (tgt := 4) hx hb dX2_doors_31 (by decide) ?_
          exact ih4 x28 x26 _ _ _ (by rw [i32_i e28 (by have := i32_hi (V 3 7); omega)]; omega) (fun h => by omega) (by rw [i32_i e28 (by have := i32_hi (V 3 7); omega)]; omega) X (lv_sub hl [0, 1, 2] rfl)
        · skip
          refine lv_iconst (v := 1) hx hb dX2_doors_21 (by decide) ?_
          refine lv_goto (tgt := 26) hx hb dX2_doors_22 (by decide) ?_
          refine lv_iadd hx hb dX2_doors_26 ?_
          refine lv_topi (fun x26 e26 => ?_)
          refine lv_istore_n (lv' := [(1, .int x26), (2, .int i), (0, .ref (a 3))]) hx hb dX2_doors_27 rfl hl (by decide) rfl (fun ls hl => ?_)
          obtain ⟨x28, e28⟩ : ∃ y : Int32, y = i + (1) := ⟨_, rfl⟩
          refine lv_iinc (v := x28) (lv' := [(2, .int x28), (1, .int x26), (0, .ref (a 3))]) hx hb dX2_doors_28 hl (k := 1) rfl (by rw [e28]; rfl) (by decide) rfl (fun ls hl => ?_)
          refine lv_goto (tgt := 4) hx hb dX2_doors_31 (by decide) ?_
          exact ih4 x28 x26 _ _ _ (by rw [i32_i e28 (by have := i32_hi (V 3 7); omega)]; omega) (fun h => by omega) (by rw [i32_i e28 (by have := i32_hi (V 3 7); omega)]; omega) X (lv_sub hl [0, 1, 2] rfl)
  exact L4 _ 0 0 _ _ _ (by decide) (fun _ => rfl) (Nat.lt_succ_self _) X (lv_sub hl [0, 1, 2] rfl)
def q_allSizes (V : sV) : Int32 → sV → Prop := fun x V1 => ((V 3 7).toInt ≤ 0 → x = 0) ∧ V1 = V
set_option maxRecDepth 100000 in
set_option maxHeartbeats 4000000 in
theorem k_allSizes {l : Launch} {D : va_G} {cI : ClassId} {a : Nat → Nat} (ha : sInj SX a) (V : sV)  : sMI l D cI SX a V yX2_allSizes cX2_allSizes 3 .int 1 [.ref (a 3)] (q_allSizes V) := by
  refine sMIof ha (by decide +kernel) (Nat.le_of_ble_eq_true rfl) ?_
  intro p e s m below meth c ls G X hl
  obtain ⟨hx, hb, hml, hown, hts, hlocks, hr, hK⟩ := id G
  have hl : lv_has ls 3 [(0, .ref (a 3))] := hl
  refine lv_iconst (v := 0) hx hb dX2_allSizes_0 (by decide) ?_
  refine lv_istore_n (lv' := [(1, .int 0), (0, .ref (a 3))]) hx hb dX2_allSizes_1 rfl hl (by decide) rfl (fun ls hl => ?_)
  refine lv_iconst (v := 0) hx hb dX2_allSizes_2 (by decide) ?_
  refine lv_istore_n (lv' := [(2, .int 0), (1, .int 0), (0, .ref (a 3))]) hx hb dX2_allSizes_3 rfl hl (by decide) rfl (fun ls hl => ?_)
  have L4 : ∀ (fu : Nat) (i : Int32) (z : Int32) (H : Heap) (locs : List Loc) (ls : Array Slot), (0 ≤ i.toInt) → ((V 3 7).toInt ≤ 0 → z = 0) → (((V 3 7).toInt - i.toInt).toNat) < fu → sWS D cI SX a V s.heap H locs → lv_has ls 3 [(2, .int i), (1, .int z), (0, .ref (a 3))] → W p l e (rmD 1) s m ([.ref (a 3)] : List Value).toArray below meth c H locs 0 0 (MQ below (va_Qi (q_allSizes V) (fun V1 t => va_P D vwCl (sWd cI SX a V1) t.heap) (sA SX a s.heap.size)) ([.ref (a 3)] : List Value).toArray s 0 0 (sA SX a s.heap.size)) (F0 m 4 ls []) := by
    intro fu
    induction fu with
    | zero => intro i z H locs ls hi hz hm; exact absurd hm (Nat.not_lt_zero _)
    | succ fu ih4 =>
      intro i z H locs ls hi hz hm X hl
      refine lv_iload_n hx hb dX2_allSizes_4 rfl (lv_at hl 0 rfl) ?_
      refine lv_aload_n hx hb dX2_allSizes_5 rfl (lv_at hl 2 rfl) ?_
      refine sgI G X 3 7 rfl rfl fl_X2_33 dX2_allSizes_6 ?_
      refine sIge (tgt := 29) hx hb (rfl : Int32.toInt i = _) (rfl : Int32.toInt (V 3 7) = _) dX2_allSizes_9 (by decide) (fun c9 => ?_) (fun c9 => ?_)
      · skip
        refine lv_iload_n hx hb dX2_allSizes_29 rfl (lv_at hl 1 rfl) ?_
        exact srI G X (rfl) dX2_allSizes_30 (by exact ⟨hz, rfl⟩)
      · skip
        refine lv_iload_n hx hb dX2_allSizes_12 rfl (lv_at hl 1 rfl) ?_
        refine lv_aload_n hx hb dX2_allSizes_13 rfl (lv_at hl 2 rfl) ?_
        refine sgR G X 3 3 rfl rfl fl_X2_21 dX2_allSizes_14 ?_
        refine lv_iload_n hx hb dX2_allSizes_17 rfl (lv_at hl 0 rfl) ?_
        refine scSI (As := [.ref (a 7), .int i]) (rest := [.int z]) G X (k_at ha V 7 10 rfl (by first | decide | assumption) i) iy_X5_at ml_X2_37 rfl rfl hl.1 (by decide) (by decide) (Nat.le_of_ble_eq_true rfl) dX2_allSizes_18 (fun y18 V18 H locs p18 X => ?_)
        obtain ⟨p18, z18⟩ := p18
        subst V18
        refine lv_iadd hx hb dX2_allSizes_21 ?_
        refine lv_topi (fun x21 e21 => ?_)
        refine lv_istore_n (lv' := [(1, .int x21), (2, .int i), (0, .ref (a 3))]) hx hb dX2_allSizes_22 rfl hl (by decide) rfl (fun ls hl => ?_)
        obtain ⟨x23, e23⟩ : ∃ y : Int32, y = i + (1) := ⟨_, rfl⟩
        refine lv_iinc (v := x23) (lv' := [(2, .int x23), (1, .int x21), (0, .ref (a 3))]) hx hb dX2_allSizes_23 hl (k := 1) rfl (by rw [e23]; rfl) (by decide) rfl (fun ls hl => ?_)
        refine lv_goto (tgt := 4) hx hb dX2_allSizes_26 (by decide) ?_
        exact ih4 x23 x21 _ _ _ (by rw [i32_i e23 (by have := i32_hi (V 3 7); omega)]; omega) (fun h => by omega) (by rw [i32_i e23 (by have := i32_hi (V 3 7); omega)]; omega) X (lv_sub hl [0, 1, 2] rfl)
  exact L4 _ 0 0 _ _ _ (by decide) (fun _ => rfl) (Nat.lt_succ_self _) X (lv_sub hl [0, 1, 2] rfl)
def q_canBeStopped (V : sV) (i1 i2 : Int32) : Int32 → sV → Prop := fun x V1 => ((x.toInt = 0 ∨ x.toInt = 1) ∧ ((V 3 7).toInt ≤ 0 → i1 = 0 → 0 ≤ i2.toInt → x.toInt = 1)) ∧ V1 = V
set_option maxRecDepth 100000 in
set_option maxHeartbeats 4000000 in
theorem k_canBeStopped {l : Launch} {D : va_G} {cI : ClassId} {a : Nat → Nat} (ha : sInj SX a) (V : sV) (i1 i2 : Int32) : sMI l D cI SX a V yX2_canBeStopped cX2_canBeStopped 5 .boolean 2 [.ref (a 3), .int i1, .int i2] (q_canBeStopped V i1 i2) := by
  refine sMIof ha (by decide +kernel) (Nat.le_of_ble_eq_true rfl) ?_
  intro p e s m below meth c ls G X hl
  obtain ⟨hx, hb, hml, hown, hts, hlocks, hr, hK⟩ := id G
  have hl : lv_has ls 5 [(0, .ref (a 3)), (1, .int i1), (2, .int i2)] := hl
  refine lv_iconst (v := 0) hx hb dX2_canBeStopped_0 (by decide) ?_
  refine lv_istore_n (lv' := [(3, .int 0), (0, .ref (a 3)), (1, .int i1), (2, .int i2)]) hx hb dX2_canBeStopped_1 rfl hl (by decide) rfl (fun ls hl => ?_)
  refine lv_iconst (v := 0) hx hb dX2_canBeStopped_2 (by decide) ?_
  refine lv_istore (lv' := [(4, .int 0), (3, .int 0), (0, .ref (a 3)), (1, .int i1), (2, .int i2)]) hx hb dX2_canBeStopped_3 hl (by decide) rfl (fun ls hl => ?_)
  have L5 : ∀ (fu : Nat) (i : Int32) (z : Int32) (H : Heap) (locs : List Loc) (ls : Array Slot), (0 ≤ i.toInt) → ((V 3 7).toInt ≤ 0 → z = 0) → (((V 3 7).toInt - i.toInt).toNat) < fu → sWS D cI SX a V s.heap H locs → lv_has ls 5 [(4, .int i), (3, .int z), (0, .ref (a 3)), (1, .int i1), (2, .int i2)] → W p l e (rmD 2) s m ([.ref (a 3), .int i1, .int i2] : List Value).toArray below meth c H locs 0 0 (MQ below (va_Qi (q_canBeStopped V i1 i2) (fun V1 t => va_P D vwCl (sWd cI SX a V1) t.heap) (sA SX a s.heap.size)) ([.ref (a 3), .int i1, .int i2] : List Value).toArray s 0 0 (sA SX a s.heap.size)) (F0 m 5 ls []) := by
    intro fu
    induction fu with
    | zero => intro i z H locs ls hi hz hm; exact absurd hm (Nat.not_lt_zero _)
    | succ fu ih5 =>
      intro i z H locs ls hi hz hm X hl
      refine lv_iload hx hb dX2_canBeStopped_5 (lv_at hl 0 rfl) ?_
      refine lv_aload_n hx hb dX2_canBeStopped_7 rfl (lv_at hl 2 rfl) ?_
      refine sgI G X 3 7 rfl rfl fl_X2_33 dX2_canBeStopped_8 ?_
      refine sIge (tgt := 53) hx hb (rfl : Int32.toInt i = _) (rfl : Int32.toInt (V 3 7) = _) dX2_canBeStopped_11 (by decide) (fun c11 => ?_) (fun c11 => ?_)
      · skip
        refine lv_iload_n hx hb dX2_canBeStopped_53 rfl (lv_at hl 3 rfl) ?_
        refine scSI (As := [.int i1]) (rest := []) G X (k_bitCount ha V i1) iy_J6_bitCount_0f7a4 ml_X2_65 rfl rfl hl.1 (by decide) (by decide) (Nat.le_of_ble_eq_true rfl) dX2_canBeStopped_54 (fun y54 V54 H locs p54 X => ?_)
        obtain ⟨p54, z54⟩ := p54
        subst V54
        refine lv_iconst (v := 3) hx hb dX2_canBeStopped_57 (by decide) ?_
        refine sIgt (tgt := 70) hx hb (rfl : Int32.toInt y54 = _) (by decide : (3 : Int32).toInt = 3) dX2_canBeStopped_58 (by decide) (fun c58 => ?_) (fun c58 => ?_)
        · skip
          refine lv_iconst (v := 0) hx hb dX2_canBeStopped_70 (by decide) ?_
          exact srI G X (rfl) dX2_canBeStopped_71 (by first | exact ⟨⟨Or.inr rfl, fun _ _ _ => rfl⟩, rfl⟩ | exact ⟨⟨Or.inl rfl, fun h h2 h3 => by exfalso; have := hz h; subst this; rw [Int32.toInt_zero] at c63; omega⟩, rfl⟩ | exact ⟨⟨Or.inl rfl, fun h h2 h3 => by exfalso; rw [p54 h2, Int32.toInt_zero] at c58; omega⟩, rfl⟩)
        · skip
          refine lv_iload_n hx hb dX2_canBeStopped_61 rfl (lv_at hl 1 rfl) ?_
          refine lv_iload_n hx hb dX2_canBeStopped_62 rfl (lv_at hl 4 rfl) ?_
          refine sIgt (tgt := 70) hx hb (rfl : Int32.toInt z = _) (rfl : Int32.toInt i2 = _) dX2_canBeStopped_63 (by decide) (fun c63 => ?_) (fun c63 => ?_)
          · skip
            refine lv_iconst (v := 0) hx hb dX2_canBeStopped_70 (by decide) ?_
            exact srI G X (rfl) dX2_canBeStopped_71 (by first | exact ⟨⟨Or.inr rfl, fun _ _ _ => rfl⟩, rfl⟩ | exact ⟨⟨Or.inl rfl, fun h h2 h3 => by exfalso; have := hz h; subst this; rw [Int32.toInt_zero] at c63; omega⟩, rfl⟩ | exact ⟨⟨Or.inl rfl, fun h h2 h3 => by exfalso; rw [p54 h2, Int32.toInt_zero] at c58; omega⟩, rfl⟩)
          · skip
            refine lv_iconst (v := 1) hx hb dX2_canBeStopped_66 (by decide) ?_
            refine lv_goto (tgt := 71) hx hb dX2_canBeStopped_67 (by decide) ?_
            exact srI G X (rfl) dX2_canBeStopped_71 (by first | exact ⟨⟨Or.inr rfl, fun _ _ _ => rfl⟩, rfl⟩ | exact ⟨⟨Or.inl rfl, fun h h2 h3 => by exfalso; have := hz h; subst this; rw [Int32.toInt_zero] at c63; omega⟩, rfl⟩ | exact ⟨⟨Or.inl rfl, fun h h2 h3 => by exfalso; rw [p54 h2, Int32.toInt_zero] at c58; omega⟩, rfl⟩)
      · skip
        refine lv_iload_n hx hb dX2_canBeStopped_14 rfl (lv_at hl 3 rfl) ?_
        refine lv_iload hx hb dX2_canBeStopped_15 (lv_at hl 0 rfl) ?_
        refine lv_ishr hx hb dX2_canBeStopped_17 ?_
        refine lv_topi (fun x17 e17 => ?_)
        refine lv_iconst (v := 1) hx hb dX2_canBeStopped_18 (by decide) ?_
        refine lv_iand hx hb dX2_canBeStopped_19 ?_
        refine lv_topi (fun x19 e19 => ?_)
        refine lv_iconst (v := 1) hx hb dX2_canBeStopped_20 (by decide) ?_
        refine sIne (tgt := 47) hx hb (rfl : Int32.toInt x19 = _) (by decide : (1 : Int32).toInt = 1) dX2_canBeStopped_21 (by decide) (fun c21 => ?_) (fun c21 => ?_)
        · skip
          obtain ⟨x47, e47⟩ : ∃ y : Int32, y = i + (1) := ⟨_, rfl⟩
          refine lv_iinc (v := x47) (lv' := [(4, .int x47), (3, .int z), (0, .ref (a 3)), (1, .int i1), (2, .int i2)]) hx hb dX2_canBeStopped_47 hl (k := 0) rfl (by rw [e47]; rfl) (by decide) rfl (fun ls hl => ?_)
          refine lv_goto (tgt := 5) hx hb dX2_canBeStopped_50 (by decide) ?_
          exact ih5 x47 z _ _ _ (by rw [i32_i e47 (by have := i32_hi (V 3 7); omega)]; omega) (fun h => by omega) (by rw [i32_i e47 (by have := i32_hi (V 3 7); omega)]; omega) X (lv_sub hl [0, 1, 2, 3, 4] rfl)
        · skip
          refine lv_aload_n hx hb dX2_canBeStopped_24 rfl (lv_at hl 2 rfl) ?_
          refine lv_iload hx hb dX2_canBeStopped_25 (lv_at hl 0 rfl) ?_
          refine scI (ci := 2) (As := [.int i]) (rest := []) G X (k_isDoor ha V i) iy_X2_isDoor ml_X2_61 rfl rfl rfl rfl hl.1 (by decide) (by decide) (Nat.le_of_ble_eq_true rfl) dX2_canBeStopped_27 (fun y27 V27 H locs p27 X => ?_)
          obtain ⟨p27, z27⟩ := p27
          subst V27
          refine sZeq (tgt := 35) hx hb (rfl : Int32.toInt y27 = _) dX2_canBeStopped_30 (by decide) (fun c30 => ?_) (fun c30 => ?_)
          · skip
            refine lv_iload_n hx hb dX2_canBeStopped_35 rfl (lv_at hl 1 rfl) ?_
            refine lv_aload_n hx hb dX2_canBeStopped_36 rfl (lv_at hl 2 rfl) ?_
            refine sgR G X 3 6 rfl rfl fl_X2_30 dX2_canBeStopped_37 ?_
            refine lv_iload hx hb dX2_canBeStopped_40 (lv_at hl 0 rfl) ?_
            refine scSI (As := [.ref (a 10), .int i]) (rest := [.int z]) G X (k_at ha V 10 10 rfl (by first | decide | assumption) i) iy_X5_at ml_X2_37 rfl rfl hl.1 (by decide) (by decide) (Nat.le_of_ble_eq_true rfl) dX2_canBeStopped_42 (fun y42 V42 H locs p42 X => ?_)
            obtain ⟨p42, z42⟩ := p42
            subst V42
            refine lv_iadd hx hb dX2_canBeStopped_45 ?_
            refine lv_topi (fun x45 e45 => ?_)
            refine lv_istore_n (lv' := [(3, .int x45), (4, .int i), (0, .ref (a 3)), (1, .int i1), (2, .int i2)]) hx hb dX2_canBeStopped_46 rfl hl (by decide) rfl (fun ls hl => ?_)
            obtain ⟨x47, e47⟩ : ∃ y : Int32, y = i + (1) := ⟨_, rfl⟩
            refine lv_iinc (v := x47) (lv' := [(4, .int x47), (3, .int x45), (0, .ref (a 3)), (1, .int i1), (2, .int i2)]) hx hb dX2_canBeStopped_47 hl (k := 1) rfl (by rw [e47]; rfl) (by decide) rfl (fun ls hl => ?_)
            refine lv_goto (tgt := 5) hx hb dX2_canBeStopped_50 (by decide) ?_
            exact ih5 x47 x45 _ _ _ (by rw [i32_i e47 (by have := i32_hi (V 3 7); omega)]; omega) (fun h => by omega) (by rw [i32_i e47 (by have := i32_hi (V 3 7); omega)]; omega) X (lv_sub hl [0, 1, 2, 3, 4] rfl)
          · skip
            refine lv_iconst (v := 0) hx hb dX2_canBeStopped_33 (by decide) ?_
            exact srI G X (rfl) dX2_canBeStopped_34 (by exact ⟨⟨Or.inl rfl, fun h => by omega⟩, rfl⟩)
  exact L5 _ 0 0 _ _ _ (by decide) (fun _ => rfl) (Nat.lt_succ_self _) X (lv_sub hl [0, 1, 2, 3, 4] rfl)
def q_outsidePush (V : sV) (i : Int32) (r : Nat) : Int32 → sV → Prop := fun x V1 => (V r 1 = 0 → rAt 10 (V 6) i = 0 → rAt 10 (V 8) i = 5 → x = 0) ∧ V1 = V
set_option maxRecDepth 100000 in
set_option maxHeartbeats 4000000 in
theorem k_outsidePush {l : Launch} {D : va_G} {cI : ClassId} {a : Nat → Nat} (ha : sInj SX a) (V : sV) (i : Int32) (r : Nat) (hr0 : SX[r]? = some (.inr (0, [none, none, none, none]))) : sMI l D cI SX a V yX2_outsidePush cX2_outsidePush 7 .int 1 [.ref (a 3), .int i, .ref (a r)] (q_outsidePush V i r) := by
  refine sMIof ha (by decide +kernel) (Nat.le_of_ble_eq_true rfl) ?_
  intro p e s m below meth c ls G X hl
  obtain ⟨hx, hb, hml, hown, hts, hlocks, hr, hK⟩ := id G
  have hl : lv_has ls 7 [(0, .ref (a 3)), (1, .int i), (2, .ref (a r))] := hl
  refine lv_aload_n hx hb dX2_outsidePush_0 rfl (lv_at hl 2 rfl) ?_
  refine lv_aload_n hx hb dX2_outsidePush_1 rfl (lv_at hl 0 rfl) ?_
  refine sgR G X 3 5 rfl rfl fl_X2_27 dX2_outsidePush_2 ?_
  refine lv_iload_n hx hb dX2_outsidePush_5 rfl (lv_at hl 1 rfl) ?_
  refine scSI (As := [.ref (a 9), .int i]) (rest := [.ref (a r)]) G X (k_at ha V 9 10 rfl (by first | decide | assumption) i) iy_X5_at ml_X2_37 rfl rfl hl.1 (by decide) (by decide) (Nat.le_of_ble_eq_true rfl) dX2_outsidePush_6 (fun y6 V6 H locs p6 X => ?_)
  obtain ⟨p6, z6⟩ := p6
  subst V6
  refine scI (ci := 0) (As := [.int y6]) (rest := []) G X (k_windAt ha V r hr0 y6) iy_X0_windAt ml_X2_71 rfl hr0 rfl rfl hl.1 (by decide) (by decide) (Nat.le_of_ble_eq_true rfl) dX2_outsidePush_9 (fun y9 V9 H locs p9 X => ?_)
  obtain ⟨p9, z9⟩ := p9
  subst V9
  refine lv_istore_n (lv' := [(3, .int y9), (0, .ref (a 3)), (1, .int i), (2, .ref (a r))]) hx hb dX2_outsidePush_12 rfl hl (by decide) rfl (fun ls hl => ?_)
  refine lv_aload_n hx hb dX2_outsidePush_13 rfl (lv_at hl 3 rfl) ?_
  refine sgI G X r 0 hr0 rfl fl_X2_76 dX2_outsidePush_14 ?_
  refine lv_iconst (v := 5) hx hb dX2_outsidePush_17 (by decide) ?_
  refine lv_aload_n hx hb dX2_outsidePush_18 rfl (lv_at hl 1 rfl) ?_
  refine sgR G X 3 4 rfl rfl fl_X2_24 dX2_outsidePush_19 ?_
  refine lv_iload_n hx hb dX2_outsidePush_22 rfl (lv_at hl 2 rfl) ?_
  refine scSI (As := [.ref (a 8), .int i]) (rest := [.int 5, .int (V r 0)]) G X (k_at ha V 8 10 rfl (by first | decide | assumption) i) iy_X5_at ml_X2_37 rfl rfl hl.1 (by decide) (by decide) (Nat.le_of_ble_eq_true rfl) dX2_outsidePush_23 (fun y23 V23 H locs p23 X => ?_)
  obtain ⟨p23, z23⟩ := p23
  subst V23
  refine lv_isub hx hb dX2_outsidePush_26 ?_
  refine lv_topi (fun x26 e26 => ?_)
  refine lv_imul hx hb dX2_outsidePush_27 ?_
  refine lv_topi (fun x27 e27 => ?_)
  refine lv_iload_n hx hb dX2_outsidePush_28 rfl (lv_at hl 0 rfl) ?_
  refine lv_iadd hx hb dX2_outsidePush_29 ?_
  refine lv_topi (fun x29 e29 => ?_)
  refine lv_istore (lv' := [(4, .int x29), (3, .int y9), (0, .ref (a 3)), (1, .int i), (2, .ref (a r))]) hx hb dX2_outsidePush_30 hl (by decide) rfl (fun ls hl => ?_)
  refine lv_iload hx hb dX2_outsidePush_32 (lv_at hl 0 rfl) ?_
  refine lv_aload_n hx hb dX2_outsidePush_34 rfl (lv_at hl 4 rfl) ?_
  refine sgI G X r 0 hr0 rfl fl_X2_76 dX2_outsidePush_35 ?_
  refine lv_isub hx hb dX2_outsidePush_38 ?_
  refine lv_topi (fun x38 e38 => ?_)
  refine lv_istore (lv' := [(5, .int x38), (4, .int x29), (3, .int y9), (0, .ref (a 3)), (1, .int i), (2, .ref (a r))]) hx hb dX2_outsidePush_39 hl (by decide) rfl (fun ls hl => ?_)
  refine lv_iload hx hb dX2_outsidePush_41 (lv_at hl 0 rfl) ?_
  refine lv_iconst (v := 3) hx hb dX2_outsidePush_43 (by decide) ?_
  refine lv_aload_n hx hb dX2_outsidePush_44 rfl (lv_at hl 5 rfl) ?_
  refine sgI G X r 0 hr0 rfl fl_X2_76 dX2_outsidePush_45 ?_
  refine lv_imul hx hb dX2_outsidePush_48 ?_
  refine lv_topi (fun x48 e48 => ?_)
  refine lv_isub hx hb dX2_outsidePush_49 ?_
  refine lv_topi (fun x49 e49 => ?_)
  refine lv_iconst (v := 2) hx hb dX2_outsidePush_50 (by decide) ?_
  refine lv_aload_n hx hb dX2_outsidePush_51 rfl (lv_at hl 5 rfl) ?_
  refine sgI G X r 1 hr0 rfl fl_X2_79 dX2_outsidePush_52 ?_
  refine lv_imul hx hb dX2_outsidePush_55 ?_
  refine lv_topi (fun x55 e55 => ?_)
  refine lv_isub hx hb dX2_outsidePush_56 ?_
  refine lv_topi (fun x56 e56 => ?_)
  refine lv_istore (lv' := [(6, .int x56), (5, .int x38), (4, .int x29), (3, .int y9), (0, .ref (a 3)), (1, .int i), (2, .ref (a r))]) hx hb dX2_outsidePush_57 hl (by decide) rfl (fun ls hl => ?_)
  refine lv_aload_n hx hb dX2_outsidePush_59 rfl (lv_at hl 4 rfl) ?_
  refine sgR G X 3 2 rfl rfl fl_X2_18 dX2_outsidePush_60 ?_
  refine lv_iload_n hx hb dX2_outsidePush_63 rfl (lv_at hl 5 rfl) ?_
  refine scSI (As := [.ref (a 6), .int i]) (rest := []) G X (k_at ha V 6 10 rfl (by first | decide | assumption) i) iy_X5_at ml_X2_37 rfl rfl hl.1 (by decide) (by decide) (Nat.le_of_ble_eq_true rfl) dX2_outsidePush_64 (fun y64 V64 H locs p64 X => ?_)
  obtain ⟨p64, z64⟩ := p64
  subst V64
  by_cases hs67 : Int32.toInt y64 < 1 ∨ 6 < Int32.toInt y64
  · refine lv_tableOut (tgt := 137) hx hb dX2_outsidePush_67 hs67 (by decide) ?_
    refine lv_iload hx hb dX2_outsidePush_137 (lv_at hl 2 rfl) ?_
    exact srI G X (rfl) dX2_outsidePush_139 (by exact ⟨fun h1 h2 h3 => by rw [e29, e27, e26, p23, h3, p9 h1]; simp, rfl⟩)
  by_cases hs67_0 : Int32.toInt y64 = 1
  · refine lv_tableIn (tgt := 104) (off := 37) hx hb dX2_outsidePush_67 (by rw [hs67_0]; decide) (by rw [hs67_0]; decide) (by rw [hs67_0]; rfl) (by decide) ?_
    refine lv_iload hx hb dX2_outsidePush_104 (lv_at hl 2 rfl) ?_
    refine lv_aload_n hx hb dX2_outsidePush_106 rfl (lv_at hl 6 rfl) ?_
    refine sgI G X r 0 hr0 rfl fl_X2_76 dX2_outsidePush_107 ?_
    refine lv_iadd hx hb dX2_outsidePush_110 ?_
    refine lv_topi (fun x110 e110 => ?_)
    exact srI G X (rfl) dX2_outsidePush_111 (by exact ⟨fun h1 h2 h3 => by exfalso; have h5 : y64.toInt = 0 := (by rw [p64, h2]; rfl); omega, rfl⟩)
  by_cases hs67_1 : Int32.toInt y64 = 2
  · refine lv_tableIn (tgt := 112) (off := 45) hx hb dX2_outsidePush_67 (by rw [hs67_1]; decide) (by rw [hs67_1]; decide) (by rw [hs67_1]; rfl) (by decide) ?_
    refine lv_iload hx hb dX2_outsidePush_112 (lv_at hl 1 rfl) ?_
    exact srI G X (rfl) dX2_outsidePush_114 (by exact ⟨fun h1 h2 h3 => by exfalso; have h5 : y64.toInt = 0 := (by rw [p64, h2]; rfl); omega, rfl⟩)
  by_cases hs67_2 : Int32.toInt y64 = 3
  · refine lv_tableIn (tgt := 115) (off := 48) hx hb dX2_outsidePush_67 (by rw [hs67_2]; decide) (by rw [hs67_2]; decide) (by rw [hs67_2]; rfl) (by decide) ?_
    refine lv_iload hx hb dX2_outsidePush_115 (lv_at hl 2 rfl) ?_
    refine lv_iload_n hx hb dX2_outsidePush_117 rfl (lv_at hl 3 rfl) ?_
    refine lv_iadd hx hb dX2_outsidePush_118 ?_
    refine lv_topi (fun x118 e118 => ?_)
    exact srI G X (rfl) dX2_outsidePush_119 (by exact ⟨fun h1 h2 h3 => by exfalso; have h5 : y64.toInt = 0 := (by rw [p64, h2]; rfl); omega, rfl⟩)
  by_cases hs67_3 : Int32.toInt y64 = 4
  · refine lv_tableIn (tgt := 120) (off := 53) hx hb dX2_outsidePush_67 (by rw [hs67_3]; decide) (by rw [hs67_3]; decide) (by rw [hs67_3]; rfl) (by decide) ?_
    refine lv_iload hx hb dX2_outsidePush_120 (lv_at hl 0 rfl) ?_
    exact srI G X (rfl) dX2_outsidePush_122 (by exact ⟨fun h1 h2 h3 => by exfalso; have h5 : y64.toInt = 0 := (by rw [p64, h2]; rfl); omega, rfl⟩)
  by_cases hs67_4 : Int32.toInt y64 = 5
  · refine lv_tableIn (tgt := 123) (off := 56) hx hb dX2_outsidePush_67 (by rw [hs67_4]; decide) (by rw [hs67_4]; decide) (by rw [hs67_4]; rfl) (by decide) ?_
    refine lv_iload hx hb dX2_outsidePush_123 (lv_at hl 2 rfl) ?_
    refine lv_aload_n hx hb dX2_outsidePush_125 rfl (lv_at hl 6 rfl) ?_
    refine sgI G X r 3 hr0 rfl fl_X2_82 dX2_outsidePush_126 ?_
    refine lv_iadd hx hb dX2_outsidePush_129 ?_
    refine lv_topi (fun x129 e129 => ?_)
    exact srI G X (rfl) dX2_outsidePush_130 (by exact ⟨fun h1 h2 h3 => by exfalso; have h5 : y64.toInt = 0 := (by rw [p64, h2]; rfl); omega, rfl⟩)
  by_cases hs67_5 : Int32.toInt y64 = 6
  · refine lv_tableIn (tgt := 131) (off := 64) hx hb dX2_outsidePush_67 (by rw [hs67_5]; decide) (by rw [hs67_5]; decide) (by rw [hs67_5]; rfl) (by decide) ?_
    refine lv_iload hx hb dX2_outsidePush_131 (lv_at hl 0 rfl) ?_
    refine lv_bipush (v := 20) hx hb dX2_outsidePush_133 (by decide) ?_
    refine lv_isub hx hb dX2_outsidePush_135 ?_
    refine lv_topi (fun x135 e135 => ?_)
    exact srI G X (rfl) dX2_outsidePush_136 (by exact ⟨fun h1 h2 h3 => by exfalso; have h5 : y64.toInt = 0 := (by rw [p64, h2]; rfl); omega, rfl⟩)
  exact absurd hs67 (by omega)
def q_oBecome (V : sV) (r r1 r2 r3 r4 r5 r6 r7 : Nat) : sV → Prop := fun V1 => sAg [r, r1, r2, r3, r4, r5, r6, r7] V V1
set_option maxRecDepth 100000 in
set_option maxHeartbeats 4000000 in
theorem k_oBecome {l : Launch} {D : va_G} {cI : ClassId} {a : Nat → Nat} (ha : sInj SX a) (V : sV) (r r1 r2 r3 r4 r5 r6 r7 : Nat) (hr0 : SX[r]? = some (.inr (2, [some r1, some r2, some r3, some r4, some r5, some r6, some r7, none]))) (h1 : SX[r1]? = some (.inl 10)) (h2 : SX[r2]? = some (.inl 10)) (h3 : SX[r3]? = some (.inl 10)) (h4 : SX[r4]? = some (.inl 10)) (h5 : SX[r5]? = some (.inl 10)) (h6 : SX[r6]? = some (.inl 10)) (h7 : SX[r7]? = some (.inl 10)) (o o1 o2 o3 o4 o5 o6 o7 : Nat) (ho0 : SX[o]? = some (.inr (2, [some o1, some o2, some o3, some o4, some o5, some o6, some o7, none]))) (g1 : SX[o1]? = some (.inl 10)) (g2 : SX[o2]? = some (.inl 10)) (g3 : SX[o3]? = some (.inl 10)) (g4 : SX[o4]? = some (.inl 10)) (g5 : SX[o5]? = some (.inl 10)) (g6 : SX[o6]? = some (.inl 10)) (g7 : SX[o7]? = some (.inl 10)) (n1 : o1 ≠ r1) (n2 : o2 ≠ r2) (n3 : o3 ≠ r3) (n4 : o4 ≠ r4) (n5 : o5 ≠ r5) (n6 : o6 ≠ r6) (n7 : o7 ≠ r7) : sMV l D cI SX a V yX2_become cX2_become 2 1 [.ref (a r), .ref (a o)] (q_oBecome V r r1 r2 r3 r4 r5 r6 r7) := by
  refine sMVof ha (by decide +kernel) (Nat.le_of_ble_eq_true rfl) ?_
  intro p e s m below meth c ls G X hl
  obtain ⟨hx, hb, hml, hown, hts, hlocks, hr, hK⟩ := id G
  have hl : lv_has ls 2 [(0, .ref (a r)), (1, .ref (a o))] := hl
  refine lv_aload_n hx hb dX2_become_0 rfl (lv_at hl 1 rfl) ?_
  refine sgR G X o 0 ho0 rfl fl_X2_9 dX2_become_1 ?_
  refine lv_aload_n hx hb dX2_become_4 rfl (lv_at hl 0 rfl) ?_
  refine sgR G X r 0 hr0 rfl fl_X2_9 dX2_become_5 ?_
  refine scSV (As := [.ref (a o1), .ref (a r1)]) (rest := []) G X (k_copy ha V o1 r1 10 g1 h1 (by first | decide | assumption) (by first | decide | assumption)) iy_X5_copy ml_X2_57 rfl rfl hl.1 (by decide) (by decide) (Nat.le_of_ble_eq_true rfl) dX2_become_8 (fun V8 H locs p8 X => ?_)
  refine lv_aload_n hx hb dX2_become_11 rfl (lv_at hl 1 rfl) ?_
  refine sgR G X o 1 ho0 rfl fl_X2_15 dX2_become_12 ?_
  refine lv_aload_n hx hb dX2_become_15 rfl (lv_at hl 0 rfl) ?_
  refine sgR G X r 1 hr0 rfl fl_X2_15 dX2_become_16 ?_
  refine scSV (As := [.ref (a o2), .ref (a r2)]) (rest := []) G X (k_copy ha V8 o2 r2 10 g2 h2 (by first | decide | assumption) (by first | decide | assumption)) iy_X5_copy ml_X2_57 rfl rfl hl.1 (by decide) (by decide) (Nat.le_of_ble_eq_true rfl) dX2_become_19 (fun V19 H locs p19 X => ?_)
  refine lv_aload_n hx hb dX2_become_22 rfl (lv_at hl 1 rfl) ?_
  refine sgR G X o 2 ho0 rfl fl_X2_18 dX2_become_23 ?_
  refine lv_aload_n hx hb dX2_become_26 rfl (lv_at hl 0 rfl) ?_
  refine sgR G X r 2 hr0 rfl fl_X2_18 dX2_become_27 ?_
  refine scSV (As := [.ref (a o3), .ref (a r3)]) (rest := []) G X (k_copy ha V19 o3 r3 10 g3 h3 (by first | decide | assumption) (by first | decide | assumption)) iy_X5_copy ml_X2_57 rfl rfl hl.1 (by decide) (by decide) (Nat.le_of_ble_eq_true rfl) dX2_become_30 (fun V30 H locs p30 X => ?_)
  refine lv_aload_n hx hb dX2_become_33 rfl (lv_at hl 1 rfl) ?_
  refine sgR G X o 3 ho0 rfl fl_X2_21 dX2_become_34 ?_
  refine lv_aload_n hx hb dX2_become_37 rfl (lv_at hl 0 rfl) ?_
  refine sgR G X r 3 hr0 rfl fl_X2_21 dX2_become_38 ?_
  refine scSV (As := [.ref (a o4), .ref (a r4)]) (rest := []) G X (k_copy ha V30 o4 r4 10 g4 h4 (by first | decide | assumption) (by first | decide | assumption)) iy_X5_copy ml_X2_57 rfl rfl hl.1 (by decide) (by decide) (Nat.le_of_ble_eq_true rfl) dX2_become_41 (fun V41 H locs p41 X => ?_)
  refine lv_aload_n hx hb dX2_become_44 rfl (lv_at hl 1 rfl) ?_
  refine sgR G X o 4 ho0 rfl fl_X2_24 dX2_become_45 ?_
  refine lv_aload_n hx hb dX2_become_48 rfl (lv_at hl 0 rfl) ?_
  refine sgR G X r 4 hr0 rfl fl_X2_24 dX2_become_49 ?_
  refine scSV (As := [.ref (a o5), .ref (a r5)]) (rest := []) G X (k_copy ha V41 o5 r5 10 g5 h5 (by first | decide | assumption) (by first | decide | assumption)) iy_X5_copy ml_X2_57 rfl rfl hl.1 (by decide) (by decide) (Nat.le_of_ble_eq_true rfl) dX2_become_52 (fun V52 H locs p52 X => ?_)
  refine lv_aload_n hx hb dX2_become_55 rfl (lv_at hl 1 rfl) ?_
  refine sgR G X o 5 ho0 rfl fl_X2_27 dX2_become_56 ?_
  refine lv_aload_n hx hb dX2_become_59 rfl (lv_at hl 0 rfl) ?_
  refine sgR G X r 5 hr0 rfl fl_X2_27 dX2_become_60 ?_
  refine scSV (As := [.ref (a o6), .ref (a r6)]) (rest := []) G X (k_copy ha V52 o6 r6 10 g6 h6 (by first | decide | assumption) (by first | decide | assumption)) iy_X5_copy ml_X2_57 rfl rfl hl.1 (by decide) (by decide) (Nat.le_of_ble_eq_true rfl) dX2_become_63 (fun V63 H locs p63 X => ?_)
  refine lv_aload_n hx hb dX2_become_66 rfl (lv_at hl 1 rfl) ?_
  refine sgR G X o 6 ho0 rfl fl_X2_30 dX2_become_67 ?_
  refine lv_aload_n hx hb dX2_become_70 rfl (lv_at hl 0 rfl) ?_
  refine sgR G X r 6 hr0 rfl fl_X2_30 dX2_become_71 ?_
  refine scSV (As := [.ref (a o7), .ref (a r7)]) (rest := []) G X (k_copy ha V63 o7 r7 10 g7 h7 (by first | decide | assumption) (by first | decide | assumption)) iy_X5_copy ml_X2_57 rfl rfl hl.1 (by decide) (by decide) (Nat.le_of_ble_eq_true rfl) dX2_become_74 (fun V74 H locs p74 X => ?_)
  refine lv_aload_n hx hb dX2_become_77 rfl (lv_at hl 0 rfl) ?_
  refine lv_aload_n hx hb dX2_become_78 rfl (lv_at hl 1 rfl) ?_
  refine sgI G X o 7 ho0 rfl fl_X2_33 dX2_become_79 ?_
  refine spI G X r 7 hr0 rfl fp_X2_33 dX2_become_82 (fun H locs X => ?_)
  exact srV G X dX2_become_85 (by obtain ⟨f8, e8, -⟩ := p8; obtain ⟨f19, e19, -⟩ := p19; obtain ⟨f30, e30, -⟩ := p30; obtain ⟨f41, e41, -⟩ := p41; obtain ⟨f52, e52, -⟩ := p52; obtain ⟨f63, e63, -⟩ := p63; obtain ⟨f74, e74, -⟩ := p74; rw [e74, e63, e52, e41, e30, e19, e8]; exact (((((((sAg.rf.up (by simp)).up (by simp)).up (by simp)).up (by simp)).up (by simp)).up (by simp)).up (by simp)).up (by simp))
end
section
theorem rAt_put_s {n : Nat} {f : Nat → Int32} {i v : Int32} (h1 : 0 ≤ i.toInt) (h2 : i.toInt < n) : rAt n (rPut n f i v) i = v := by
  rw [rAt_in h1 h2, rPut_in h1 h2]
  exact if_pos rfl
theorem rAt_put_n {n : Nat} {f : Nat → Int32} {i j v : Int32} (h : j.toInt ≠ i.toInt) : rAt n (rPut n f i v) j = rAt n f j := by
  by_cases hi : 0 ≤ i.toInt ∧ i.toInt < n
  · rw [rPut_in hi.1 hi.2]
    by_cases hj : 0 ≤ j.toInt ∧ j.toInt < n
    · rw [rAt_in hj.1 hj.2, rAt_in hj.1 hj.2]
      have h1 := i32_cl hi.1
      have h2 := i32_cl hj.1
      exact if_neg (by omega)
    · rw [rAt_out (by omega), rAt_out (by omega)]
  · rw [rPut_out (by omega)]
theorem rAt_zero {n : Nat} {f : Nat → Int32} (h : ∀ j, j < n → f j = 0) (i : Int32) : rAt n f i = 0 := by
  by_cases hi : 0 ≤ i.toInt ∧ i.toInt < n
  · rw [rAt_in hi.1 hi.2]
    have h1 := i32_cl hi.1
    exact h _ (by omega)
  · exact rAt_out (by omega)
/-- no wind, few holes, each plain and at height 5 -/
def sQuiet (V : sV) (r : Nat) : Prop := V r 1 = 0 ∧ (V 3 7).toInt ≤ 10 ∧ ∀ i : Int32, 0 ≤ i.toInt → i.toInt < (V 3 7).toInt → rAt 10 (V 6) i = 0 ∧ rAt 10 (V 8) i = 5
/-- nothing pushes -/
def sCalm (V : sV) : Prop := (∀ j : Int32, rAt 6 (V 43) j = 0) ∧ V 45 0 = 0 ∧ ∀ i : Int32, 0 ≤ i.toInt → i.toInt < (V 3 7).toInt → rAt 10 (V 42) i = 0 ∧ rAt 10 (V 40) i = -1
theorem sFlow0 {f : Nat → Int32} {p q x z w u t m : Int32} (hp : p = 0) (hq : q = 0) (e1 : x = p - q) (e2 : z = if 0 ≤ x then x else 0 - x) (e3 : w.toInt = min z.toInt (1200 : Int32).toInt) (hf : f 0 = 0) (e4 : u = rAt 1201 f w) (e5 : m = t * u) : m = 0 := by
  subst hp hq
  have h1 : x = 0 := by rw [e1]; rfl
  subst h1
  have h2 : z = 0 := by rw [e2]; rfl
  subst h2
  have h3 : w.toInt = 0 := by rw [e3]; rfl
  have h4 : w = 0 := Int32.toInt_inj.mp h3
  subst h4
  have h5 : rAt 1201 f 0 = f 0 := rAt_in (by decide) (by decide)
  rw [e5, e4, h5, hf]
  simp
theorem sMax0 {x y : Int32} (h : y = 0) (e : x.toInt = max y.toInt (0 : Int32).toInt) : x = 0 := by
  subst h
  exact Int32.toInt_inj.mp (by rw [e]; rfl)
def q_flow (V : sV) (i : Int32) : Int32 → sV → Prop := fun x V1 => (sCalm V → 0 ≤ i.toInt → i.toInt < (V 3 7).toInt → x = 0) ∧ V1 = V
set_option maxRecDepth 100000 in
set_option maxHeartbeats 4000000 in
theorem k_flow {l : Launch} {D : va_G} {cI : ClassId} {a : Nat → Nat} (ha : sInj SX a) (V : sV) (i : Int32) : sMI l D cI SX a V yX1_flowThrough cX1_flowThrough 6 .int 1 [.ref (a 38), .int i] (q_flow V i) := by
  refine sMIof ha (by decide +kernel) (Nat.le_of_ble_eq_true rfl) ?_
  intro p e s m below meth c ls G X hl
  obtain ⟨hx, hb, hml, hown, hts, hlocks, hr, hK⟩ := id G
  have hl : lv_has ls 6 [(0, .ref (a 38)), (1, .int i)] := hl
  refine lv_aload_n hx hb dX1_flowThrough_0 rfl (lv_at hl 0 rfl) ?_
  refine sgR G X 38 2 rfl rfl fl_X1_19 dX1_flowThrough_1 ?_
  refine lv_iload_n hx hb dX1_flowThrough_4 rfl (lv_at hl 1 rfl) ?_
  refine scSI (As := [.ref (a 40), .int i]) (rest := []) G X (k_at ha V 40 10 rfl (by first | decide | assumption) i) iy_X5_at ml_X1_52 rfl rfl hl.1 (by decide) (by decide) (Nat.le_of_ble_eq_true rfl) dX1_flowThrough_5 (fun y5 V5 H locs p5 X => ?_)
  obtain ⟨p5, z5⟩ := p5
  subst V5
  refine lv_istore_n (lv' := [(2, .int y5), (0, .ref (a 38)), (1, .int i)]) hx hb dX1_flowThrough_8 rfl hl (by decide) rfl (fun ls hl => ?_)
  refine lv_iload_n hx hb dX1_flowThrough_9 rfl (lv_at hl 0 rfl) ?_
  refine lv_iconst (v := (-1)) hx hb dX1_flowThrough_10 (by decide) ?_
  refine sIne (tgt := 25) hx hb (rfl : Int32.toInt y5 = _) (by decide : ((-1) : Int32).toInt = -1) dX1_flowThrough_11 (by decide) (fun c11 => ?_) (fun c11 => ?_)
  · skip
    refine lv_aload_n hx hb dX1_flowThrough_25 rfl (lv_at hl 1 rfl) ?_
    refine sgR G X 38 5 rfl rfl fl_X1_28 dX1_flowThrough_26 ?_
    refine lv_iload_n hx hb dX1_flowThrough_29 rfl (lv_at hl 0 rfl) ?_
    refine scSI (As := [.ref (a 43), .int y5]) (rest := []) G X (k_at ha V 43 6 rfl (by first | decide | assumption) y5) iy_X5_at ml_X1_52 rfl rfl hl.1 (by decide) (by decide) (Nat.le_of_ble_eq_true rfl) dX1_flowThrough_30 (fun y30 V30 H locs p30 X => ?_)
    obtain ⟨p30, z30⟩ := p30
    subst V30
    refine lv_istore_n (lv' := [(3, .int y30), (2, .int y5), (0, .ref (a 38)), (1, .int i)]) hx hb dX1_flowThrough_33 rfl hl (by decide) rfl (fun ls hl => ?_)
    refine lv_iload_n hx hb dX1_flowThrough_34 rfl (lv_at hl 0 rfl) ?_
    refine lv_aload_n hx hb dX1_flowThrough_35 rfl (lv_at hl 2 rfl) ?_
    refine sgR G X 38 5 rfl rfl fl_X1_28 dX1_flowThrough_36 ?_
    refine lv_aload_n hx hb dX1_flowThrough_39 rfl (lv_at hl 2 rfl) ?_
    refine sgR G X 38 3 rfl rfl fl_X1_22 dX1_flowThrough_40 ?_
    refine lv_iload_n hx hb dX1_flowThrough_43 rfl (lv_at hl 3 rfl) ?_
    refine scSI (As := [.ref (a 41), .int i]) (rest := [.ref (a 43), .int y30]) G X (k_at ha V 41 10 rfl (by first | decide | assumption) i) iy_X5_at ml_X1_52 rfl rfl hl.1 (by decide) (by decide) (Nat.le_of_ble_eq_true rfl) dX1_flowThrough_44 (fun y44 V44 H locs p44 X => ?_)
    obtain ⟨p44, z44⟩ := p44
    subst V44
    refine scSI (As := [.ref (a 43), .int y44]) (rest := [.int y30]) G X (k_at ha V 43 6 rfl (by first | decide | assumption) y44) iy_X5_at ml_X1_52 rfl rfl hl.1 (by decide) (by decide) (Nat.le_of_ble_eq_true rfl) dX1_flowThrough_47 (fun y47 V47 H locs p47 X => ?_)
    obtain ⟨p47, z47⟩ := p47
    subst V47
    refine lv_isub hx hb dX1_flowThrough_50 ?_
    refine lv_topi (fun x50 e50 => ?_)
    refine lv_istore (lv' := [(4, .int x50), (3, .int y30), (2, .int y5), (0, .ref (a 38)), (1, .int i)]) hx hb dX1_flowThrough_51 hl (by decide) rfl (fun ls hl => ?_)
    refine lv_aload_n hx hb dX1_flowThrough_53 rfl (lv_at hl 3 rfl) ?_
    refine sgR G X 38 1 rfl rfl fl_X1_15 dX1_flowThrough_54 ?_
    refine lv_iload_n hx hb dX1_flowThrough_57 rfl (lv_at hl 4 rfl) ?_
    refine scSI (As := [.ref (a 39), .int i]) (rest := []) G X (k_at ha V 39 10 rfl (by first | decide | assumption) i) iy_X5_at ml_X1_52 rfl rfl hl.1 (by decide) (by decide) (Nat.le_of_ble_eq_true rfl) dX1_flowThrough_58 (fun y58 V58 H locs p58 X => ?_)
    obtain ⟨p58, z58⟩ := p58
    subst V58
    refine lv_aload_n hx hb dX1_flowThrough_61 rfl (lv_at hl 3 rfl) ?_
    refine sgR G X 38 7 rfl rfl fl_X1_34 dX1_flowThrough_62 ?_
    refine lv_iload hx hb dX1_flowThrough_65 (lv_at hl 0 rfl) ?_
    refine sAbs hx hb hml hl.1 hown hts mm_X1_104 (by decide) (Nat.le_of_ble_eq_true rfl) dX1_flowThrough_67 (fun x67 e67 => ?_)
    refine lv_sipush (v := 1200) hx hb dX1_flowThrough_70 (by decide) ?_
    refine sMin hx hb hml hl.1 hown hts mm_X1_109 (by decide) (Nat.le_of_ble_eq_true rfl) dX1_flowThrough_73 (fun x73 e73 => ?_)
    refine scSI (As := [.ref (a 45), .int x73]) (rest := [.int y58]) G X (k_at ha V 45 1201 rfl (by first | decide | assumption) x73) iy_X5_at ml_X1_52 rfl rfl hl.1 (by decide) (by decide) (Nat.le_of_ble_eq_true rfl) dX1_flowThrough_76 (fun y76 V76 H locs p76 X => ?_)
    obtain ⟨p76, z76⟩ := p76
    subst V76
    refine lv_imul hx hb dX1_flowThrough_79 ?_
    refine lv_topi (fun x79 e79 => ?_)
    refine lv_istore (lv' := [(5, .int x79), (4, .int x50), (3, .int y30), (2, .int y5), (0, .ref (a 38)), (1, .int i)]) hx hb dX1_flowThrough_80 hl (by decide) rfl (fun ls hl => ?_)
    refine lv_iload hx hb dX1_flowThrough_82 (lv_at hl 1 rfl) ?_
    refine sZge (tgt := 93) hx hb (rfl : Int32.toInt x50 = _) dX1_flowThrough_84 (by decide) (fun c84 => ?_) (fun c84 => ?_)
    · skip
      refine lv_iload hx hb dX1_flowThrough_93 (lv_at hl 0 rfl) ?_
      exact srI G X (rfl) dX1_flowThrough_95 (by exact ⟨fun hc h1 h2 => by first | (exfalso; rw [p5, (hc.2.2 i h1 h2).2] at c11; exact c11 rfl) | (have h9 : x79 = 0 := sFlow0 (p19.trans (hc.2.2 i h1 h2).1) (p47.trans (hc.1 _)) e50 e67 e73 hc.2.1 p76 e79; first | exact h9 | (rw [e89, h9]; rfl)), rfl⟩)
    · skip
      refine lv_iload hx hb dX1_flowThrough_87 (lv_at hl 0 rfl) ?_
      refine lv_ineg hx hb dX1_flowThrough_89 ?_
      refine lv_topi (fun x89 e89 => ?_)
      refine lv_goto (tgt := 95) hx hb dX1_flowThrough_90 (by decide) ?_
      exact srI G X (rfl) dX1_flowThrough_95 (by exact ⟨fun hc h1 h2 => by first | (exfalso; rw [p5, (hc.2.2 i h1 h2).2] at c11; exact c11 rfl) | (have h9 : x79 = 0 := sFlow0 (p19.trans (hc.2.2 i h1 h2).1) (p47.trans (hc.1 _)) e50 e67 e73 hc.2.1 p76 e79; first | exact h9 | (rw [e89, h9]; rfl)), rfl⟩)
  · skip
    refine lv_aload_n hx hb dX1_flowThrough_14 rfl (lv_at hl 1 rfl) ?_
    refine sgR G X 38 4 rfl rfl fl_X1_25 dX1_flowThrough_15 ?_
    refine lv_iload_n hx hb dX1_flowThrough_18 rfl (lv_at hl 2 rfl) ?_
    refine scSI (As := [.ref (a 42), .int i]) (rest := []) G X (k_at ha V 42 10 rfl (by first | decide | assumption) i) iy_X5_at ml_X1_52 rfl rfl hl.1 (by decide) (by decide) (Nat.le_of_ble_eq_true rfl) dX1_flowThrough_19 (fun y19 V19 H locs p19 X => ?_)
    obtain ⟨p19, z19⟩ := p19
    subst V19
    refine lv_goto (tgt := 33) hx hb dX1_flowThrough_22 (by decide) ?_
    refine lv_istore_n (lv' := [(3, .int y19), (2, .int y5), (0, .ref (a 38)), (1, .int i)]) hx hb dX1_flowThrough_33 rfl hl (by decide) rfl (fun ls hl => ?_)
    refine lv_iload_n hx hb dX1_flowThrough_34 rfl (lv_at hl 0 rfl) ?_
    refine lv_aload_n hx hb dX1_flowThrough_35 rfl (lv_at hl 2 rfl) ?_
    refine sgR G X 38 5 rfl rfl fl_X1_28 dX1_flowThrough_36 ?_
    refine lv_aload_n hx hb dX1_flowThrough_39 rfl (lv_at hl 2 rfl) ?_
    refine sgR G X 38 3 rfl rfl fl_X1_22 dX1_flowThrough_40 ?_
    refine lv_iload_n hx hb dX1_flowThrough_43 rfl (lv_at hl 3 rfl) ?_
    refine scSI (As := [.ref (a 41), .int i]) (rest := [.ref (a 43), .int y19]) G X (k_at ha V 41 10 rfl (by first | decide | assumption) i) iy_X5_at ml_X1_52 rfl rfl hl.1 (by decide) (by decide) (Nat.le_of_ble_eq_true rfl) dX1_flowThrough_44 (fun y44 V44 H locs p44 X => ?_)
    obtain ⟨p44, z44⟩ := p44
    subst V44
    refine scSI (As := [.ref (a 43), .int y44]) (rest := [.int y19]) G X (k_at ha V 43 6 rfl (by first | decide | assumption) y44) iy_X5_at ml_X1_52 rfl rfl hl.1 (by decide) (by decide) (Nat.le_of_ble_eq_true rfl) dX1_flowThrough_47 (fun y47 V47 H locs p47 X => ?_)
    obtain ⟨p47, z47⟩ := p47
    subst V47
    refine lv_isub hx hb dX1_flowThrough_50 ?_
    refine lv_topi (fun x50 e50 => ?_)
    refine lv_istore (lv' := [(4, .int x50), (3, .int y19), (2, .int y5), (0, .ref (a 38)), (1, .int i)]) hx hb dX1_flowThrough_51 hl (by decide) rfl (fun ls hl => ?_)
    refine lv_aload_n hx hb dX1_flowThrough_53 rfl (lv_at hl 3 rfl) ?_
    refine sgR G X 38 1 rfl rfl fl_X1_15 dX1_flowThrough_54 ?_
    refine lv_iload_n hx hb dX1_flowThrough_57 rfl (lv_at hl 4 rfl) ?_
    refine scSI (As := [.ref (a 39), .int i]) (rest := []) G X (k_at ha V 39 10 rfl (by first | decide | assumption) i) iy_X5_at ml_X1_52 rfl rfl hl.1 (by decide) (by decide) (Nat.le_of_ble_eq_true rfl) dX1_flowThrough_58 (fun y58 V58 H locs p58 X => ?_)
    obtain ⟨p58, z58⟩ := p58
    subst V58
    refine lv_aload_n hx hb dX1_flowThrough_61 rfl (lv_at hl 3 rfl) ?_
    refine sgR G X 38 7 rfl rfl fl_X1_34 dX1_flowThrough_62 ?_
    refine lv_iload hx hb dX1_flowThrough_65 (lv_at hl 0 rfl) ?_
    refine sAbs hx hb hml hl.1 hown hts mm_X1_104 (by decide) (Nat.le_of_ble_eq_true rfl) dX1_flowThrough_67 (fun x67 e67 => ?_)
    refine lv_sipush (v := 1200) hx hb dX1_flowThrough_70 (by decide) ?_
    refine sMin hx hb hml hl.1 hown hts mm_X1_109 (by decide) (Nat.le_of_ble_eq_true rfl) dX1_flowThrough_73 (fun x73 e73 => ?_)
    refine scSI (As := [.ref (a 45), .int x73]) (rest := [.int y58]) G X (k_at ha V 45 1201 rfl (by first | decide | assumption) x73) iy_X5_at ml_X1_52 rfl rfl hl.1 (by decide) (by decide) (Nat.le_of_ble_eq_true rfl) dX1_flowThrough_76 (fun y76 V76 H locs p76 X => ?_)
    obtain ⟨p76, z76⟩ := p76
    subst V76
    refine lv_imul hx hb dX1_flowThrough_79 ?_
    refine lv_topi (fun x79 e79 => ?_)
    refine lv_istore (lv' := [(5, .int x79), (4, .int x50), (3, .int y19), (2, .int y5), (0, .ref (a 38)), (1, .int i)]) hx hb dX1_flowThrough_80 hl (by decide) rfl (fun ls hl => ?_)
    refine lv_iload hx hb dX1_flowThrough_82 (lv_at hl 1 rfl) ?_
    refine sZge (tgt := 93) hx hb (rfl : Int32.toInt x50 = _) dX1_flowThrough_84 (by decide) (fun c84 => ?_) (fun c84 => ?_)
    · skip
      refine lv_iload hx hb dX1_flowThrough_93 (lv_at hl 0 rfl) ?_
      exact srI G X (rfl) dX1_flowThrough_95 (by exact ⟨fun hc h1 h2 => by first | (exfalso; rw [p5, (hc.2.2 i h1 h2).2] at c11; exact c11 rfl) | (have h9 : x79 = 0 := sFlow0 (p19.trans (hc.2.2 i h1 h2).1) (p47.trans (hc.1 _)) e50 e67 e73 hc.2.1 p76 e79; first | exact h9 | (rw [e89, h9]; rfl)), rfl⟩)
    · skip
      refine lv_iload hx hb dX1_flowThrough_87 (lv_at hl 0 rfl) ?_
      refine lv_ineg hx hb dX1_flowThrough_89 ?_
      refine lv_topi (fun x89 e89 => ?_)
      refine lv_goto (tgt := 95) hx hb dX1_flowThrough_90 (by decide) ?_
      exact srI G X (rfl) dX1_flowThrough_95 (by exact ⟨fun hc h1 h2 => by first | (exfalso; rw [p5, (hc.2.2 i h1 h2).2] at c11; exact c11 rfl) | (have h9 : x79 = 0 := sFlow0 (p19.trans (hc.2.2 i h1 h2).1) (p47.trans (hc.1 _)) e50 e67 e73 hc.2.1 p76 e79; first | exact h9 | (rw [e89, h9]; rfl)), rfl⟩)
def q_takeSizes (V : sV) : sV → Prop := fun V1 => sAg [39] V V1
set_option maxRecDepth 100000 in
set_option maxHeartbeats 4000000 in
theorem k_takeSizes {l : Launch} {D : va_G} {cI : ClassId} {a : Nat → Nat} (ha : sInj SX a) (V : sV) (q : Int32) : sMV l D cI SX a V yX1_takeSizes cX1_takeSizes 3 1 [.ref (a 38), .int q] (q_takeSizes V) := by
  refine sMVof ha (by decide +kernel) (Nat.le_of_ble_eq_true rfl) ?_
  intro p e s m below meth c ls G X hl
  obtain ⟨hx, hb, hml, hown, hts, hlocks, hr, hK⟩ := id G
  have hl : lv_has ls 3 [(0, .ref (a 38)), (1, .int q)] := hl
  refine lv_iconst (v := 0) hx hb dX1_takeSizes_0 (by decide) ?_
  refine lv_istore_n (lv' := [(2, .int 0), (0, .ref (a 38)), (1, .int q)]) hx hb dX1_takeSizes_1 rfl hl (by decide) rfl (fun ls hl => ?_)
  have L2 : ∀ (fu2 : Nat) (i : Int32) (Y : sV) (H : Heap) (locs : List Loc) (ls : Array Slot), (0 ≤ i.toInt) → (sAg [39] V Y) → (((V 3 7).toInt - i.toInt).toNat) < fu2 → sWS D cI SX a Y s.heap H locs → lv_has ls 3 [(2, .int i), (0, .ref (a 38)), (1, .int q)] → W p l e (rmD 1) s m ([.ref (a 38), .int q] : List Value).toArray below meth c H locs 0 0 (MQ below (va_Qv (q_takeSizes V) (fun V1 t => va_P D vwCl (sWd cI SX a V1) t.heap) (sA SX a s.heap.size)) ([.ref (a 38), .int q] : List Value).toArray s 0 0 (sA SX a s.heap.size)) (F0 m 2 ls []) := by
    intro fu2
    induction fu2 with
    | zero => intro i Y H locs ls hi hA hm2; exact absurd hm2 (Nat.not_lt_zero _)
    | succ fu2 ih2 =>
      intro i Y H locs ls hi hA hm2 X hl
      refine lv_iload_n hx hb dX1_takeSizes_2 rfl (lv_at hl 0 rfl) ?_
      refine lv_aload_n hx hb dX1_takeSizes_3 rfl (lv_at hl 1 rfl) ?_
      refine sgR G X 38 0 rfl rfl fl_X1_9 dX1_takeSizes_4 ?_
      refine sgR G X 2 1 rfl rfl fl_X1_37 dX1_takeSizes_7 ?_
      refine sgI G X 3 7 rfl rfl fl_X1_43 dX1_takeSizes_10 ?_
      refine sIge (tgt := 57) hx hb (rfl : Int32.toInt i = _) (rfl : Int32.toInt (Y 3 7) = _) dX1_takeSizes_13 (by decide) (fun c13 => ?_) (fun c13 => ?_)
      · skip
        rw [hA 3 (by decide)] at c13
        exact srV G X dX1_takeSizes_57 (by exact hA)
      · skip
        rw [hA 3 (by decide)] at c13
        refine lv_aload_n hx hb dX1_takeSizes_16 rfl (lv_at hl 1 rfl) ?_
        refine sgR G X 38 1 rfl rfl fl_X1_15 dX1_takeSizes_17 ?_
        refine lv_iload_n hx hb dX1_takeSizes_20 rfl (lv_at hl 0 rfl) ?_
        refine lv_iload_n hx hb dX1_takeSizes_21 rfl (lv_at hl 2 rfl) ?_
        refine lv_iload_n hx hb dX1_takeSizes_22 rfl (lv_at hl 0 rfl) ?_
        refine lv_ishr hx hb dX1_takeSizes_23 ?_
        refine lv_topi (fun x23 e23 => ?_)
        refine lv_iconst (v := 1) hx hb dX1_takeSizes_24 (by decide) ?_
        refine lv_iand hx hb dX1_takeSizes_25 ?_
        refine lv_topi (fun x25 e25 => ?_)
        refine lv_iconst (v := 1) hx hb dX1_takeSizes_26 (by decide) ?_
        refine sIne (tgt := 34) hx hb (rfl : Int32.toInt x25 = _) (by decide : (1 : Int32).toInt = 1) dX1_takeSizes_27 (by decide) (fun c27 => ?_) (fun c27 => ?_)
        · skip
          refine lv_aload_n hx hb dX1_takeSizes_34 rfl (lv_at hl 1 rfl) ?_
          refine sgR G X 38 0 rfl rfl fl_X1_9 dX1_takeSizes_35 ?_
          refine sgR G X 2 1 rfl rfl fl_X1_37 dX1_takeSizes_38 ?_
          refine sgR G X 3 3 rfl rfl fl_X1_49 dX1_takeSizes_41 ?_
          refine lv_iload_n hx hb dX1_takeSizes_44 rfl (lv_at hl 0 rfl) ?_
          refine scSI (As := [.ref (a 7), .int i]) (rest := [.int i, .ref (a 39)]) G X (k_at ha Y 7 10 rfl (by first | decide | assumption) i) iy_X5_at ml_X1_52 rfl rfl hl.1 (by decide) (by decide) (Nat.le_of_ble_eq_true rfl) dX1_takeSizes_45 (fun y45 V45 H locs p45 X => ?_)
          obtain ⟨p45, z45⟩ := p45
          subst V45
          refine scSV (As := [.ref (a 39), .int i, .int y45]) (rest := []) G X (k_put ha Y 39 10 rfl (by first | decide | assumption) i y45) iy_X5_put ml_X1_58 rfl rfl hl.1 (by decide) (by decide) (Nat.le_of_ble_eq_true rfl) dX1_takeSizes_48 (fun V48 H locs p48 X => ?_)
          obtain ⟨x51, e51⟩ : ∃ y : Int32, y = i + (1) := ⟨_, rfl⟩
          refine lv_iinc (v := x51) (lv' := [(2, .int x51), (0, .ref (a 38)), (1, .int q)]) hx hb dX1_takeSizes_51 hl (k := 0) rfl (by rw [e51]; rfl) (by decide) rfl (fun ls hl => ?_)
          refine lv_goto (tgt := 2) hx hb dX1_takeSizes_54 (by decide) ?_
          exact ih2 x51 V48 _ _ _ (by rw [i32_i e51 (by have := i32_hi (V 3 7); omega)]; omega) (by rw [show V48 = _ from p48]; exact hA.up (by simp)) (by rw [i32_i e51 (by have := i32_hi (V 3 7); omega)]; omega) X (lv_sub hl [0, 1, 2] rfl)
        · skip
          refine lv_iconst (v := 0) hx hb dX1_takeSizes_30 (by decide) ?_
          refine lv_goto (tgt := 48) hx hb dX1_takeSizes_31 (by decide) ?_
          refine scSV (As := [.ref (a 39), .int i, .int 0]) (rest := []) G X (k_put ha Y 39 10 rfl (by first | decide | assumption) i 0) iy_X5_put ml_X1_58 rfl rfl hl.1 (by decide) (by decide) (Nat.le_of_ble_eq_true rfl) dX1_takeSizes_48 (fun V48 H locs p48 X => ?_)
          obtain ⟨x51, e51⟩ : ∃ y : Int32, y = i + (1) := ⟨_, rfl⟩
          refine lv_iinc (v := x51) (lv' := [(2, .int x51), (0, .ref (a 38)), (1, .int q)]) hx hb dX1_takeSizes_51 hl (k := 0) rfl (by rw [e51]; rfl) (by decide) rfl (fun ls hl => ?_)
          refine lv_goto (tgt := 2) hx hb dX1_takeSizes_54 (by decide) ?_
          exact ih2 x51 V48 _ _ _ (by rw [i32_i e51 (by have := i32_hi (V 3 7); omega)]; omega) (by rw [show V48 = _ from p48]; exact hA.up (by simp)) (by rw [i32_i e51 (by have := i32_hi (V 3 7); omega)]; omega) X (lv_sub hl [0, 1, 2] rfl)
  exact L2 _ 0 V _ _ _ (by decide) (sAg.rf) (Nat.lt_succ_self _) X (lv_sub hl [0, 1, 2] rfl)
def q_changeSize (V : sV) : sV → Prop := fun V1 => sAg [39] V V1
set_option maxRecDepth 100000 in
set_option maxHeartbeats 4000000 in
theorem k_changeSize {l : Launch} {D : va_G} {cI : ClassId} {a : Nat → Nat} (ha : sInj SX a) (V : sV) (i v : Int32) : sMV l D cI SX a V yX1_changeSize cX1_changeSize 3 1 [.ref (a 38), .int i, .int v] (q_changeSize V) := by
  refine sMVof ha (by decide +kernel) (Nat.le_of_ble_eq_true rfl) ?_
  intro p e s m below meth c ls G X hl
  obtain ⟨hx, hb, hml, hown, hts, hlocks, hr, hK⟩ := id G
  have hl : lv_has ls 3 [(0, .ref (a 38)), (1, .int i), (2, .int v)] := hl
  refine lv_aload_n hx hb dX1_changeSize_0 rfl (lv_at hl 0 rfl) ?_
  refine sgR G X 38 1 rfl rfl fl_X1_15 dX1_changeSize_1 ?_
  refine lv_iload_n hx hb dX1_changeSize_4 rfl (lv_at hl 1 rfl) ?_
  refine lv_iload_n hx hb dX1_changeSize_5 rfl (lv_at hl 2 rfl) ?_
  refine scSV (As := [.ref (a 39), .int i, .int v]) (rest := []) G X (k_put ha V 39 10 rfl (by first | decide | assumption) i v) iy_X5_put ml_X1_58 rfl rfl hl.1 (by decide) (by decide) (Nat.le_of_ble_eq_true rfl) dX1_changeSize_6 (fun V6 H locs p6 X => ?_)
  exact srV G X dX1_changeSize_9 (by rw [show V6 = _ from p6]; exact sAg.rf.up (by simp))
def q_begin (V : sV) (r : Nat) : sV → Prop := fun V1 => sAg [40, 41, 42, 43] V V1 ∧ (sQuiet V r → V 45 0 = 0 → sCalm V1)
set_option maxRecDepth 100000 in
set_option maxHeartbeats 4000000 in
theorem k_begin {l : Launch} {D : va_G} {cI : ClassId} {a : Nat → Nat} (ha : sInj SX a) (V : sV) (r : Nat) (hr0 : SX[r]? = some (.inr (0, [none, none, none, none]))) (hrn : r ∉ [40, 41, 42, 43, 44]) : sMV l D cI SX a V yX1_begin cX1_begin 5 2 [.ref (a 38), .ref (a r)] (q_begin V r) := by
  refine sMVof ha (by decide +kernel) (Nat.le_of_ble_eq_true rfl) ?_
  intro p e s m below meth c ls G X hl
  obtain ⟨hx, hb, hml, hown, hts, hlocks, hr, hK⟩ := id G
  have hl : lv_has ls 5 [(0, .ref (a 38)), (1, .ref (a r))] := hl
  refine lv_iconst (v := 0) hx hb dX1_begin_0 (by decide) ?_
  refine lv_istore_n (lv' := [(2, .int 0), (0, .ref (a 38)), (1, .ref (a r))]) hx hb dX1_begin_1 rfl hl (by decide) rfl (fun ls hl => ?_)
  have L2 : ∀ (fu2 : Nat) (i : Int32) (Y : sV) (H : Heap) (locs : List Loc) (ls : Array Slot), (0 ≤ i.toInt) → (sAg [40, 41, 42] V Y) → (sQuiet V r → ∀ j : Int32, 0 ≤ j.toInt → j.toInt < i.toInt → rAt 10 (Y 42) j = 0 ∧ rAt 10 (Y 40) j = -1) → (((V 3 7).toInt - i.toInt).toNat) < fu2 → sWS D cI SX a Y s.heap H locs → lv_has ls 5 [(2, .int i), (0, .ref (a 38)), (1, .ref (a r))] → W p l e (rmD 2) s m ([.ref (a 38), .ref (a r)] : List Value).toArray below meth c H locs 0 0 (MQ below (va_Qv (q_begin V r) (fun V1 t => va_P D vwCl (sWd cI SX a V1) t.heap) (sA SX a s.heap.size)) ([.ref (a 38), .ref (a r)] : List Value).toArray s 0 0 (sA SX a s.heap.size)) (F0 m 2 ls []) := by
    intro fu2
    induction fu2 with
    | zero => intro i Y H locs ls hi hA hq hm2; exact absurd hm2 (Nat.not_lt_zero _)
    | succ fu2 ih2 =>
      intro i Y H locs ls hi hA hq hm2 X hl
      refine lv_iload_n hx hb dX1_begin_2 rfl (lv_at hl 0 rfl) ?_
      refine lv_aload_n hx hb dX1_begin_3 rfl (lv_at hl 1 rfl) ?_
      refine sgR G X 38 0 rfl rfl fl_X1_9 dX1_begin_4 ?_
      refine sgR G X 2 1 rfl rfl fl_X1_37 dX1_begin_7 ?_
      refine sgI G X 3 7 rfl rfl fl_X1_43 dX1_begin_10 ?_
      refine sIge (tgt := 119) hx hb (rfl : Int32.toInt i = _) (rfl : Int32.toInt (Y 3 7) = _) dX1_begin_13 (by decide) (fun c13 => ?_) (fun c13 => ?_)
      · skip
        rw [hA 3 (by decide)] at c13
        refine lv_iconst (v := 0) hx hb dX1_begin_119 (by decide) ?_
        refine lv_istore_n (lv' := [(2, .int 0), (0, .ref (a 38)), (1, .ref (a r))]) hx hb dX1_begin_120 rfl hl (by decide) rfl (fun ls hl => ?_)
        have L121 : ∀ (fu121 : Nat) (b : Int32) (Z : sV) (H : Heap) (locs : List Loc) (ls : Array Slot), (0 ≤ b.toInt) → (sAg [40, 41, 42, 43] V Z) → (sQuiet V r → V 45 0 = 0 → ∀ j : Int32, 0 ≤ j.toInt → j.toInt < (V 3 7).toInt → rAt 10 (Z 42) j = 0 ∧ rAt 10 (Z 40) j = -1) → (∀ j : Nat, (j : Int) < b.toInt → Z 43 j = 0) → ((6 - b.toInt).toNat) < fu121 → sWS D cI SX a Z s.heap H locs → lv_has ls 5 [(2, .int b), (0, .ref (a 38)), (1, .ref (a r))] → W p l e (rmD 2) s m ([.ref (a 38), .ref (a r)] : List Value).toArray below meth c H locs 0 0 (MQ below (va_Qv (q_begin V r) (fun V1 t => va_P D vwCl (sWd cI SX a V1) t.heap) (sA SX a s.heap.size)) ([.ref (a 38), .ref (a r)] : List Value).toArray s 0 0 (sA SX a s.heap.size)) (F0 m 121 ls []) := by
          intro fu121
          induction fu121 with
          | zero => intro b Z H locs ls hb1 hA2 hq2 hz hm121; exact absurd hm121 (Nat.not_lt_zero _)
          | succ fu121 ih121 =>
            intro b Z H locs ls hb1 hA2 hq2 hz hm121 X hl
            refine lv_iload_n hx hb dX1_begin_121 rfl (lv_at hl 0 rfl) ?_
            refine lv_aload_n hx hb dX1_begin_122 rfl (lv_at hl 1 rfl) ?_
            refine sgR G X 38 5 rfl rfl fl_X1_28 dX1_begin_123 ?_
            refine sln G X 43 rfl dX1_begin_126 ?_
            refine sIge (tgt := 143) hx hb (rfl : Int32.toInt b = _) (rfl : Int32.toInt (nI 6) = _) dX1_begin_127 (by decide) (fun c127 => ?_) (fun c127 => ?_)
            · skip
              rw [nI_toInt (by decide)] at c127
              exact srV G X dX1_begin_143 (by exact ⟨hA2, fun hQ h0 => ⟨rAt_zero (fun j hj => hz j (by have : (6 : Int) ≤ b.toInt := c127; omega)), by rw [hA2 45 (by decide)]; exact h0, fun i h1 h2 => hq2 hQ h0 i h1 (by rw [hA2 3 (by decide)] at h2; exact h2)⟩⟩)
            · skip
              rw [nI_toInt (by decide)] at c127
              refine lv_aload_n hx hb dX1_begin_130 rfl (lv_at hl 1 rfl) ?_
              refine sgR G X 38 5 rfl rfl fl_X1_28 dX1_begin_131 ?_
              refine lv_iload_n hx hb dX1_begin_134 rfl (lv_at hl 0 rfl) ?_
              refine lv_iconst (v := 0) hx hb dX1_begin_135 (by decide) ?_
              refine sst G X 43 rfl (i32_in hb1 c127) dX1_begin_136 (fun H locs X => ?_)
              obtain ⟨x137, e137⟩ : ∃ y : Int32, y = b + (1) := ⟨_, rfl⟩
              refine lv_iinc (v := x137) (lv' := [(2, .int x137), (0, .ref (a 38)), (1, .ref (a r))]) hx hb dX1_begin_137 hl (k := 0) rfl (by rw [e137]; rfl) (by decide) rfl (fun ls hl => ?_)
              refine lv_goto (tgt := 121) hx hb dX1_begin_140 (by decide) ?_
              exact ih121 x137 (sUp Z 43 (upd (Z 43) b.toNatClampNeg 0)) _ _ _ (by rw [i32_i e137 (by omega)]; omega) (hA2.up (by simp)) (fun hQ h0 j h1 h2 => by rw [sUp_n _ _ (by decide), sUp_n _ _ (by decide)]; exact hq2 hQ h0 j h1 h2) (fun j hj => by
            rw [i32_i e137 (by omega)] at hj
            have h8 := i32_cl hb1
            rw [sUp_s]
            show (if j = b.toNatClampNeg then (0 : Int32) else Z 43 j) = 0
            by_cases h9 : j = b.toNatClampNeg
            · rw [if_pos h9]
            · rw [if_neg h9]; exact hz j (by omega)) (by rw [i32_i e137 (by omega)]; omega) X (lv_sub hl [0, 1, 2] rfl)
        exact L121 _ 0 Y _ _ _ (by decide) (hA.mono (by decide)) (fun hQ _ j h1 h2 => hq hQ j h1 (by omega)) (fun j hj => absurd hj (by show ¬ (j : Int) < 0; omega)) (Nat.lt_succ_self _) X (lv_sub hl [0, 1, 2] rfl)
      · skip
        rw [hA 3 (by decide)] at c13
        refine lv_aload_n hx hb dX1_begin_16 rfl (lv_at hl 1 rfl) ?_
        refine sgR G X 38 0 rfl rfl fl_X1_9 dX1_begin_17 ?_
        refine sgR G X 2 1 rfl rfl fl_X1_37 dX1_begin_20 ?_
        refine lv_iload_n hx hb dX1_begin_23 rfl (lv_at hl 0 rfl) ?_
        refine scI (ci := 2) (As := [.int i]) (rest := []) G X (k_isDoor ha Y i) iy_X2_isDoor ml_X1_77 rfl rfl rfl rfl hl.1 (by decide) (by decide) (Nat.le_of_ble_eq_true rfl) dX1_begin_24 (fun y24 V24 H locs p24 X => ?_)
        obtain ⟨p24, z24⟩ := p24
        subst V24
        refine lv_istore_n (lv' := [(3, .int y24), (2, .int i), (0, .ref (a 38)), (1, .ref (a r))]) hx hb dX1_begin_27 rfl hl (by decide) rfl (fun ls hl => ?_)
        refine lv_aload_n hx hb dX1_begin_28 rfl (lv_at hl 2 rfl) ?_
        refine sgR G X 38 0 rfl rfl fl_X1_9 dX1_begin_29 ?_
        refine sgR G X 2 1 rfl rfl fl_X1_37 dX1_begin_32 ?_
        refine sgR G X 3 0 rfl rfl fl_X1_81 dX1_begin_35 ?_
        refine lv_iload_n hx hb dX1_begin_38 rfl (lv_at hl 1 rfl) ?_
        refine scSI (As := [.ref (a 4), .int i]) (rest := []) G X (k_at ha Y 4 10 rfl (by first | decide | assumption) i) iy_X5_at ml_X1_52 rfl rfl hl.1 (by decide) (by decide) (Nat.le_of_ble_eq_true rfl) dX1_begin_39 (fun y39 V39 H locs p39 X => ?_)
        obtain ⟨p39, z39⟩ := p39
        subst V39
        refine lv_istore (lv' := [(4, .int y39), (3, .int y24), (2, .int i), (0, .ref (a 38)), (1, .ref (a r))]) hx hb dX1_begin_42 hl (by decide) rfl (fun ls hl => ?_)
        refine lv_aload_n hx hb dX1_begin_44 rfl (lv_at hl 3 rfl) ?_
        refine sgR G X 38 2 rfl rfl fl_X1_19 dX1_begin_45 ?_
        refine lv_iload_n hx hb dX1_begin_48 rfl (lv_at hl 2 rfl) ?_
        refine lv_iload_n hx hb dX1_begin_49 rfl (lv_at hl 1 rfl) ?_
        refine sZeq (tgt := 58) hx hb (rfl : Int32.toInt y24 = _) dX1_begin_50 (by decide) (fun c50 => ?_) (fun c50 => ?_)
        · skip
          refine lv_iconst (v := (-1)) hx hb dX1_begin_58 (by decide) ?_
          refine scSV (As := [.ref (a 40), .int i, .int (-1)]) (rest := []) G X (k_put ha Y 40 10 rfl (by first | decide | assumption) i (-1)) iy_X5_put ml_X1_58 rfl rfl hl.1 (by decide) (by decide) (Nat.le_of_ble_eq_true rfl) dX1_begin_59 (fun V59 H locs p59 X => ?_)
          refine lv_aload_n hx hb dX1_begin_62 rfl (lv_at hl 3 rfl) ?_
          refine sgR G X 38 3 rfl rfl fl_X1_22 dX1_begin_63 ?_
          refine lv_iload_n hx hb dX1_begin_66 rfl (lv_at hl 2 rfl) ?_
          refine lv_iload_n hx hb dX1_begin_67 rfl (lv_at hl 1 rfl) ?_
          refine sZeq (tgt := 88) hx hb (rfl : Int32.toInt y24 = _) dX1_begin_68 (by decide) (fun c68 => ?_) (fun c68 => ?_)
          · skip
            refine lv_iload hx hb dX1_begin_88 (lv_at hl 0 rfl) ?_
            refine scSV (As := [.ref (a 41), .int i, .int y39]) (rest := []) G X (k_put ha V59 41 10 rfl (by first | decide | assumption) i y39) iy_X5_put ml_X1_58 rfl rfl hl.1 (by decide) (by decide) (Nat.le_of_ble_eq_true rfl) dX1_begin_90 (fun V90 H locs p90 X => ?_)
            refine lv_aload_n hx hb dX1_begin_93 rfl (lv_at hl 3 rfl) ?_
            refine sgR G X 38 4 rfl rfl fl_X1_25 dX1_begin_94 ?_
            refine lv_iload_n hx hb dX1_begin_97 rfl (lv_at hl 2 rfl) ?_
            refine lv_aload_n hx hb dX1_begin_98 rfl (lv_at hl 3 rfl) ?_
            refine sgR G X 38 0 rfl rfl fl_X1_9 dX1_begin_99 ?_
            refine sgR G X 2 1 rfl rfl fl_X1_37 dX1_begin_102 ?_
            refine lv_iload_n hx hb dX1_begin_105 rfl (lv_at hl 2 rfl) ?_
            refine lv_aload_n hx hb dX1_begin_106 rfl (lv_at hl 4 rfl) ?_
            refine scI (ci := 2) (As := [.int i, .ref (a r)]) (rest := [.int i, .ref (a 42)]) G X (k_outsidePush ha V90 i r hr0) iy_X2_outsidePush ml_X1_87 rfl rfl rfl rfl hl.1 (by decide) (by decide) (Nat.le_of_ble_eq_true rfl) dX1_begin_107 (fun y107 V107 H locs p107 X => ?_)
            obtain ⟨p107, z107⟩ := p107
            subst V107
            refine scSV (As := [.ref (a 42), .int i, .int y107]) (rest := []) G X (k_put ha V90 42 10 rfl (by first | decide | assumption) i y107) iy_X5_put ml_X1_58 rfl rfl hl.1 (by decide) (by decide) (Nat.le_of_ble_eq_true rfl) dX1_begin_110 (fun V110 H locs p110 X => ?_)
            obtain ⟨x113, e113⟩ : ∃ y : Int32, y = i + (1) := ⟨_, rfl⟩
            refine lv_iinc (v := x113) (lv' := [(2, .int x113), (4, .int y39), (3, .int y24), (0, .ref (a 38)), (1, .ref (a r))]) hx hb dX1_begin_113 hl (k := 2) rfl (by rw [e113]; rfl) (by decide) rfl (fun ls hl => ?_)
            refine lv_goto (tgt := 2) hx hb dX1_begin_116 (by decide) ?_
            exact ih2 x113 V110 _ _ _ (by rw [i32_i e113 (by have := i32_hi (V 3 7); omega)]; omega) (by rw [show V110 = _ from p110, show V90 = _ from p90, show V59 = _ from p59]; exact ((hA.up (by simp)).up (by simp)).up (by simp)) (fun hQ j h1 h2 => by
            have h9 : x113.toInt = i.toInt + 1 := i32_i e113 (by have := i32_hi (V 3 7); omega)
            obtain ⟨hk, hh⟩ := hQ.2.2 i hi c13
            have h10 := hQ.2.1
            have q59 : V59 = _ := p59
            have q90 : V90 = _ := p90
            have q110 : V110 = _ := p110
            subst q59 q90 q110
            rcases p24 with ⟨h3, h4⟩ | ⟨h3, h4⟩
            · rw [hA 6 (by decide), hk] at h4; exact absurd h4 (by decide)
            first | (exfalso; omega) | skip
            all_goals (
              have hy : y107 = 0 := p107 (by rw [sUp_n _ _ (fun z => hrn (by rw [z]; simp)), sUp_n _ _ (fun z => hrn (by rw [z]; simp)), hA r (fun z => hrn ((by decide : ∀ k ∈ [40, 41, 42], k ∈ [40, 41, 42, 43, 44]) r z))]; exact hQ.1) (by rw [sUp_n _ _ (by decide), sUp_n _ _ (by decide), hA 6 (by decide)]; exact hk) (by rw [sUp_n _ _ (by decide), sUp_n _ _ (by decide), hA 8 (by decide)]; exact hh)
              subst hy
              by_cases hji : j.toInt = i.toInt
              · have hji2 : j = i := Int32.toInt_inj.mp hji
                subst hji2
                exact ⟨by rw [sUp_s, rAt_put_s h1 (by show _ < (10 : Int); omega)], by rw [sUp_n _ _ (by decide), sUp_n _ _ (by decide), sUp_s, rAt_put_s h1 (by show _ < (10 : Int); omega)]⟩
              · obtain ⟨h11, h12⟩ := hq hQ j h1 (by omega)
                exact ⟨by rw [sUp_s, rAt_put_n hji, sUp_n _ _ (by decide), sUp_n _ _ (by decide)]; exact h11, by rw [sUp_n _ _ (by decide), sUp_n _ _ (by decide), sUp_s, rAt_put_n hji]; exact h12⟩)) (by rw [i32_i e113 (by have := i32_hi (V 3 7); omega)]; omega) X (lv_sub hl [0, 3, 4] rfl)
          · skip
            refine lv_aload_n hx hb dX1_begin_71 rfl (lv_at hl 3 rfl) ?_
            refine sgR G X 38 0 rfl rfl fl_X1_9 dX1_begin_72 ?_
            refine sgR G X 2 1 rfl rfl fl_X1_37 dX1_begin_75 ?_
            refine sgR G X 3 1 rfl rfl fl_X1_84 dX1_begin_78 ?_
            refine lv_iload_n hx hb dX1_begin_81 rfl (lv_at hl 2 rfl) ?_
            refine scSI (As := [.ref (a 5), .int i]) (rest := [.int i, .ref (a 41)]) G X (k_at ha V59 5 10 rfl (by first | decide | assumption) i) iy_X5_at ml_X1_52 rfl rfl hl.1 (by decide) (by decide) (Nat.le_of_ble_eq_true rfl) dX1_begin_82 (fun y82 V82 H locs p82 X => ?_)
            obtain ⟨p82, z82⟩ := p82
            subst V82
            refine lv_goto (tgt := 90) hx hb dX1_begin_85 (by decide) ?_
            refine scSV (As := [.ref (a 41), .int i, .int y82]) (rest := []) G X (k_put ha V59 41 10 rfl (by first | decide | assumption) i y82) iy_X5_put ml_X1_58 rfl rfl hl.1 (by decide) (by decide) (Nat.le_of_ble_eq_true rfl) dX1_begin_90 (fun V90 H locs p90 X => ?_)
            refine lv_aload_n hx hb dX1_begin_93 rfl (lv_at hl 3 rfl) ?_
            refine sgR G X 38 4 rfl rfl fl_X1_25 dX1_begin_94 ?_
            refine lv_iload_n hx hb dX1_begin_97 rfl (lv_at hl 2 rfl) ?_
            refine lv_aload_n hx hb dX1_begin_98 rfl (lv_at hl 3 rfl) ?_
            refine sgR G X 38 0 rfl rfl fl_X1_9 dX1_begin_99 ?_
            refine sgR G X 2 1 rfl rfl fl_X1_37 dX1_begin_102 ?_
            refine lv_iload_n hx hb dX1_begin_105 rfl (lv_at hl 2 rfl) ?_
            refine lv_aload_n hx hb dX1_begin_106 rfl (lv_at hl 4 rfl) ?_
            refine scI (ci := 2) (As := [.int i, .ref (a r)]) (rest := [.int i, .ref (a 42)]) G X (k_outsidePush ha V90 i r hr0) iy_X2_outsidePush ml_X1_87 rfl rfl rfl rfl hl.1 (by decide) (by decide) (Nat.le_of_ble_eq_true rfl) dX1_begin_107 (fun y107 V107 H locs p107 X => ?_)
            obtain ⟨p107, z107⟩ := p107
            subst V107
            refine scSV (As := [.ref (a 42), .int i, .int y107]) (rest := []) G X (k_put ha V90 42 10 rfl (by first | decide | assumption) i y107) iy_X5_put ml_X1_58 rfl rfl hl.1 (by decide) (by decide) (Nat.le_of_ble_eq_true rfl) dX1_begin_110 (fun V110 H locs p110 X => ?_)
            obtain ⟨x113, e113⟩ : ∃ y : Int32, y = i + (1) := ⟨_, rfl⟩
            refine lv_iinc (v := x113) (lv' := [(2, .int x113), (4, .int y39), (3, .int y24), (0, .ref (a 38)), (1, .ref (a r))]) hx hb dX1_begin_113 hl (k := 2) rfl (by rw [e113]; rfl) (by decide) rfl (fun ls hl => ?_)
            refine lv_goto (tgt := 2) hx hb dX1_begin_116 (by decide) ?_
            exact ih2 x113 V110 _ _ _ (by rw [i32_i e113 (by have := i32_hi (V 3 7); omega)]; omega) (by rw [show V110 = _ from p110, show V90 = _ from p90, show V59 = _ from p59]; exact ((hA.up (by simp)).up (by simp)).up (by simp)) (fun hQ j h1 h2 => by
            have h9 : x113.toInt = i.toInt + 1 := i32_i e113 (by have := i32_hi (V 3 7); omega)
            obtain ⟨hk, hh⟩ := hQ.2.2 i hi c13
            have h10 := hQ.2.1
            have q59 : V59 = _ := p59
            have q90 : V90 = _ := p90
            have q110 : V110 = _ := p110
            subst q59 q90 q110
            rcases p24 with ⟨h3, h4⟩ | ⟨h3, h4⟩
            · rw [hA 6 (by decide), hk] at h4; exact absurd h4 (by decide)
            first | (exfalso; omega) | skip
            all_goals (
              have hy : y107 = 0 := p107 (by rw [sUp_n _ _ (fun z => hrn (by rw [z]; simp)), sUp_n _ _ (fun z => hrn (by rw [z]; simp)), hA r (fun z => hrn ((by decide : ∀ k ∈ [40, 41, 42], k ∈ [40, 41, 42, 43, 44]) r z))]; exact hQ.1) (by rw [sUp_n _ _ (by decide), sUp_n _ _ (by decide), hA 6 (by decide)]; exact hk) (by rw [sUp_n _ _ (by decide), sUp_n _ _ (by decide), hA 8 (by decide)]; exact hh)
              subst hy
              by_cases hji : j.toInt = i.toInt
              · have hji2 : j = i := Int32.toInt_inj.mp hji
                subst hji2
                exact ⟨by rw [sUp_s, rAt_put_s h1 (by show _ < (10 : Int); omega)], by rw [sUp_n _ _ (by decide), sUp_n _ _ (by decide), sUp_s, rAt_put_s h1 (by show _ < (10 : Int); omega)]⟩
              · obtain ⟨h11, h12⟩ := hq hQ j h1 (by omega)
                exact ⟨by rw [sUp_s, rAt_put_n hji, sUp_n _ _ (by decide), sUp_n _ _ (by decide)]; exact h11, by rw [sUp_n _ _ (by decide), sUp_n _ _ (by decide), sUp_s, rAt_put_n hji]; exact h12⟩)) (by rw [i32_i e113 (by have := i32_hi (V 3 7); omega)]; omega) X (lv_sub hl [0, 3, 4] rfl)
        · skip
          refine lv_iload hx hb dX1_begin_53 (lv_at hl 0 rfl) ?_
          refine lv_goto (tgt := 59) hx hb dX1_begin_55 (by decide) ?_
          refine scSV (As := [.ref (a 40), .int i, .int y39]) (rest := []) G X (k_put ha Y 40 10 rfl (by first | decide | assumption) i y39) iy_X5_put ml_X1_58 rfl rfl hl.1 (by decide) (by decide) (Nat.le_of_ble_eq_true rfl) dX1_begin_59 (fun V59 H locs p59 X => ?_)
          refine lv_aload_n hx hb dX1_begin_62 rfl (lv_at hl 3 rfl) ?_
          refine sgR G X 38 3 rfl rfl fl_X1_22 dX1_begin_63 ?_
          refine lv_iload_n hx hb dX1_begin_66 rfl (lv_at hl 2 rfl) ?_
          refine lv_iload_n hx hb dX1_begin_67 rfl (lv_at hl 1 rfl) ?_
          refine sZeq (tgt := 88) hx hb (rfl : Int32.toInt y24 = _) dX1_begin_68 (by decide) (fun c68 => ?_) (fun c68 => ?_)
          · skip
            refine lv_iload hx hb dX1_begin_88 (lv_at hl 0 rfl) ?_
            refine scSV (As := [.ref (a 41), .int i, .int y39]) (rest := []) G X (k_put ha V59 41 10 rfl (by first | decide | assumption) i y39) iy_X5_put ml_X1_58 rfl rfl hl.1 (by decide) (by decide) (Nat.le_of_ble_eq_true rfl) dX1_begin_90 (fun V90 H locs p90 X => ?_)
            refine lv_aload_n hx hb dX1_begin_93 rfl (lv_at hl 3 rfl) ?_
            refine sgR G X 38 4 rfl rfl fl_X1_25 dX1_begin_94 ?_
            refine lv_iload_n hx hb dX1_begin_97 rfl (lv_at hl 2 rfl) ?_
            refine lv_aload_n hx hb dX1_begin_98 rfl (lv_at hl 3 rfl) ?_
            refine sgR G X 38 0 rfl rfl fl_X1_9 dX1_begin_99 ?_
            refine sgR G X 2 1 rfl rfl fl_X1_37 dX1_begin_102 ?_
            refine lv_iload_n hx hb dX1_begin_105 rfl (lv_at hl 2 rfl) ?_
            refine lv_aload_n hx hb dX1_begin_106 rfl (lv_at hl 4 rfl) ?_
            refine scI (ci := 2) (As := [.int i, .ref (a r)]) (rest := [.int i, .ref (a 42)]) G X (k_outsidePush ha V90 i r hr0) iy_X2_outsidePush ml_X1_87 rfl rfl rfl rfl hl.1 (by decide) (by decide) (Nat.le_of_ble_eq_true rfl) dX1_begin_107 (fun y107 V107 H locs p107 X => ?_)
            obtain ⟨p107, z107⟩ := p107
            subst V107
            refine scSV (As := [.ref (a 42), .int i, .int y107]) (rest := []) G X (k_put ha V90 42 10 rfl (by first | decide | assumption) i y107) iy_X5_put ml_X1_58 rfl rfl hl.1 (by decide) (by decide) (Nat.le_of_ble_eq_true rfl) dX1_begin_110 (fun V110 H locs p110 X => ?_)
            obtain ⟨x113, e113⟩ : ∃ y : Int32, y = i + (1) := ⟨_, rfl⟩
            refine lv_iinc (v := x113) (lv' := [(2, .int x113), (4, .int y39), (3, .int y24), (0, .ref (a 38)), (1, .ref (a r))]) hx hb dX1_begin_113 hl (k := 2) rfl (by rw [e113]; rfl) (by decide) rfl (fun ls hl => ?_)
            refine lv_goto (tgt := 2) hx hb dX1_begin_116 (by decide) ?_
            exact ih2 x113 V110 _ _ _ (by rw [i32_i e113 (by have := i32_hi (V 3 7); omega)]; omega) (by rw [show V110 = _ from p110, show V90 = _ from p90, show V59 = _ from p59]; exact ((hA.up (by simp)).up (by simp)).up (by simp)) (fun hQ j h1 h2 => by
            have h9 : x113.toInt = i.toInt + 1 := i32_i e113 (by have := i32_hi (V 3 7); omega)
            obtain ⟨hk, hh⟩ := hQ.2.2 i hi c13
            have h10 := hQ.2.1
            have q59 : V59 = _ := p59
            have q90 : V90 = _ := p90
            have q110 : V110 = _ := p110
            subst q59 q90 q110
            rcases p24 with ⟨h3, h4⟩ | ⟨h3, h4⟩
            · rw [hA 6 (by decide), hk] at h4; exact absurd h4 (by decide)
            first | (exfalso; omega) | skip
            all_goals (
              have hy : y107 = 0 := p107 (by rw [sUp_n _ _ (fun z => hrn (by rw [z]; simp)), sUp_n _ _ (fun z => hrn (by rw [z]; simp)), hA r (fun z => hrn ((by decide : ∀ k ∈ [40, 41, 42], k ∈ [40, 41, 42, 43, 44]) r z))]; exact hQ.1) (by rw [sUp_n _ _ (by decide), sUp_n _ _ (by decide), hA 6 (by decide)]; exact hk) (by rw [sUp_n _ _ (by decide), sUp_n _ _ (by decide), hA 8 (by decide)]; exact hh)
              subst hy
              by_cases hji : j.toInt = i.toInt
              · have hji2 : j = i := Int32.toInt_inj.mp hji
                subst hji2
                exact ⟨by rw [sUp_s, rAt_put_s h1 (by show _ < (10 : Int); omega)], by rw [sUp_n _ _ (by decide), sUp_n _ _ (by decide), sUp_s, rAt_put_s h1 (by show _ < (10 : Int); omega)]⟩
              · obtain ⟨h11, h12⟩ := hq hQ j h1 (by omega)
                exact ⟨by rw [sUp_s, rAt_put_n hji, sUp_n _ _ (by decide), sUp_n _ _ (by decide)]; exact h11, by rw [sUp_n _ _ (by decide), sUp_n _ _ (by decide), sUp_s, rAt_put_n hji]; exact h12⟩)) (by rw [i32_i e113 (by have := i32_hi (V 3 7); omega)]; omega) X (lv_sub hl [0, 3, 4] rfl)
          · skip
            refine lv_aload_n hx hb dX1_begin_71 rfl (lv_at hl 3 rfl) ?_
            refine sgR G X 38 0 rfl rfl fl_X1_9 dX1_begin_72 ?_
            refine sgR G X 2 1 rfl rfl fl_X1_37 dX1_begin_75 ?_
            refine sgR G X 3 1 rfl rfl fl_X1_84 dX1_begin_78 ?_
            refine lv_iload_n hx hb dX1_begin_81 rfl (lv_at hl 2 rfl) ?_
            refine scSI (As := [.ref (a 5), .int i]) (rest := [.int i, .ref (a 41)]) G X (k_at ha V59 5 10 rfl (by first | decide | assumption) i) iy_X5_at ml_X1_52 rfl rfl hl.1 (by decide) (by decide) (Nat.le_of_ble_eq_true rfl) dX1_begin_82 (fun y82 V82 H locs p82 X => ?_)
            obtain ⟨p82, z82⟩ := p82
            subst V82
            refine lv_goto (tgt := 90) hx hb dX1_begin_85 (by decide) ?_
            refine scSV (As := [.ref (a 41), .int i, .int y82]) (rest := []) G X (k_put ha V59 41 10 rfl (by first | decide | assumption) i y82) iy_X5_put ml_X1_58 rfl rfl hl.1 (by decide) (by decide) (Nat.le_of_ble_eq_true rfl) dX1_begin_90 (fun V90 H locs p90 X => ?_)
            refine lv_aload_n hx hb dX1_begin_93 rfl (lv_at hl 3 rfl) ?_
            refine sgR G X 38 4 rfl rfl fl_X1_25 dX1_begin_94 ?_
            refine lv_iload_n hx hb dX1_begin_97 rfl (lv_at hl 2 rfl) ?_
            refine lv_aload_n hx hb dX1_begin_98 rfl (lv_at hl 3 rfl) ?_
            refine sgR G X 38 0 rfl rfl fl_X1_9 dX1_begin_99 ?_
            refine sgR G X 2 1 rfl rfl fl_X1_37 dX1_begin_102 ?_
            refine lv_iload_n hx hb dX1_begin_105 rfl (lv_at hl 2 rfl) ?_
            refine lv_aload_n hx hb dX1_begin_106 rfl (lv_at hl 4 rfl) ?_
            refine scI (ci := 2) (As := [.int i, .ref (a r)]) (rest := [.int i, .ref (a 42)]) G X (k_outsidePush ha V90 i r hr0) iy_X2_outsidePush ml_X1_87 rfl rfl rfl rfl hl.1 (by decide) (by decide) (Nat.le_of_ble_eq_true rfl) dX1_begin_107 (fun y107 V107 H locs p107 X => ?_)
            obtain ⟨p107, z107⟩ := p107
            subst V107
            refine scSV (As := [.ref (a 42), .int i, .int y107]) (rest := []) G X (k_put ha V90 42 10 rfl (by first | decide | assumption) i y107) iy_X5_put ml_X1_58 rfl rfl hl.1 (by decide) (by decide) (Nat.le_of_ble_eq_true rfl) dX1_begin_110 (fun V110 H locs p110 X => ?_)
            obtain ⟨x113, e113⟩ : ∃ y : Int32, y = i + (1) := ⟨_, rfl⟩
            refine lv_iinc (v := x113) (lv' := [(2, .int x113), (4, .int y39), (3, .int y24), (0, .ref (a 38)), (1, .ref (a r))]) hx hb dX1_begin_113 hl (k := 2) rfl (by rw [e113]; rfl) (by decide) rfl (fun ls hl => ?_)
            refine lv_goto (tgt := 2) hx hb dX1_begin_116 (by decide) ?_
            exact ih2 x113 V110 _ _ _ (by rw [i32_i e113 (by have := i32_hi (V 3 7); omega)]; omega) (by rw [show V110 = _ from p110, show V90 = _ from p90, show V59 = _ from p59]; exact ((hA.up (by simp)).up (by simp)).up (by simp)) (fun hQ j h1 h2 => by
            have h9 : x113.toInt = i.toInt + 1 := i32_i e113 (by have := i32_hi (V 3 7); omega)
            obtain ⟨hk, hh⟩ := hQ.2.2 i hi c13
            have h10 := hQ.2.1
            have q59 : V59 = _ := p59
            have q90 : V90 = _ := p90
            have q110 : V110 = _ := p110
            subst q59 q90 q110
            rcases p24 with ⟨h3, h4⟩ | ⟨h3, h4⟩
            · rw [hA 6 (by decide), hk] at h4; exact absurd h4 (by decide)
            first | (exfalso; omega) | skip
            all_goals (
              have hy : y107 = 0 := p107 (by rw [sUp_n _ _ (fun z => hrn (by rw [z]; simp)), sUp_n _ _ (fun z => hrn (by rw [z]; simp)), hA r (fun z => hrn ((by decide : ∀ k ∈ [40, 41, 42], k ∈ [40, 41, 42, 43, 44]) r z))]; exact hQ.1) (by rw [sUp_n _ _ (by decide), sUp_n _ _ (by decide), hA 6 (by decide)]; exact hk) (by rw [sUp_n _ _ (by decide), sUp_n _ _ (by decide), hA 8 (by decide)]; exact hh)
              subst hy
              by_cases hji : j.toInt = i.toInt
              · have hji2 : j = i := Int32.toInt_inj.mp hji
                subst hji2
                exact ⟨by rw [sUp_s, rAt_put_s h1 (by show _ < (10 : Int); omega)], by rw [sUp_n _ _ (by decide), sUp_n _ _ (by decide), sUp_s, rAt_put_s h1 (by show _ < (10 : Int); omega)]⟩
              · obtain ⟨h11, h12⟩ := hq hQ j h1 (by omega)
                exact ⟨by rw [sUp_s, rAt_put_n hji, sUp_n _ _ (by decide), sUp_n _ _ (by decide)]; exact h11, by rw [sUp_n _ _ (by decide), sUp_n _ _ (by decide), sUp_s, rAt_put_n hji]; exact h12⟩)) (by rw [i32_i e113 (by have := i32_hi (V 3 7); omega)]; omega) X (lv_sub hl [0, 3, 4] rfl)
  exact L2 _ 0 V _ _ _ (by decide) (sAg.rf) (fun _ j h1 h2 => absurd h2 (by show ¬ j.toInt < 0; omega)) (Nat.lt_succ_self _) X (lv_sub hl [0, 1, 2] rfl)
def q_doRound (V : sV) : sV → Prop := fun V1 => sAg [43] V V1 ∧ (sCalm V → sCalm V1)
set_option maxRecDepth 100000 in
set_option maxHeartbeats 4000000 in
theorem k_doRound {l : Launch} {D : va_G} {cI : ClassId} {a : Nat → Nat} (ha : sInj SX a) (V : sV)  : sMV l D cI SX a V yX1_doRound cX1_doRound 4 2 [.ref (a 38)] (q_doRound V) := by
  refine sMVof ha (by decide +kernel) (Nat.le_of_ble_eq_true rfl) ?_
  intro p e s m below meth c ls G X hl
  obtain ⟨hx, hb, hml, hown, hts, hlocks, hr, hK⟩ := id G
  have hl : lv_has ls 4 [(0, .ref (a 38))] := hl
  refine lv_iconst (v := 0) hx hb dX1_doRound_0 (by decide) ?_
  refine lv_istore_n (lv' := [(1, .int 0), (0, .ref (a 38))]) hx hb dX1_doRound_1 rfl hl (by decide) rfl (fun ls hl => ?_)
  have L2 : ∀ (fu2 : Nat) (i : Int32) (Y : sV) (H : Heap) (locs : List Loc) (ls : Array Slot), (0 ≤ i.toInt) → (sAg [43] V Y) → (sCalm V → sCalm Y) → (((V 2 0).toInt - i.toInt).toNat) < fu2 → sWS D cI SX a Y s.heap H locs → lv_has ls 4 [(1, .int i), (0, .ref (a 38))] → W p l e (rmD 2) s m ([.ref (a 38)] : List Value).toArray below meth c H locs 0 0 (MQ below (va_Qv (q_doRound V) (fun V1 t => va_P D vwCl (sWd cI SX a V1) t.heap) (sA SX a s.heap.size)) ([.ref (a 38)] : List Value).toArray s 0 0 (sA SX a s.heap.size)) (F0 m 2 ls []) := by
    intro fu2
    induction fu2 with
    | zero => intro i Y H locs ls hi hA hc hm2; exact absurd hm2 (Nat.not_lt_zero _)
    | succ fu2 ih2 =>
      intro i Y H locs ls hi hA hc hm2 X hl
      refine lv_iload_n hx hb dX1_doRound_2 rfl (lv_at hl 0 rfl) ?_
      refine lv_aload_n hx hb dX1_doRound_3 rfl (lv_at hl 1 rfl) ?_
      refine sgR G X 38 0 rfl rfl fl_X1_9 dX1_doRound_4 ?_
      refine sgI G X 2 0 rfl rfl fl_X1_91 dX1_doRound_7 ?_
      refine sIge (tgt := 108) hx hb (rfl : Int32.toInt i = _) (rfl : Int32.toInt (Y 2 0) = _) dX1_doRound_10 (by decide) (fun c10 => ?_) (fun c10 => ?_)
      · skip
        rw [hA 2 (by decide)] at c10
        exact srV G X dX1_doRound_108 (by exact ⟨hA, hc⟩)
      · skip
        rw [hA 2 (by decide)] at c10
        refine lv_iconst (v := 0) hx hb dX1_doRound_13 (by decide) ?_
        refine lv_istore_n (lv' := [(2, .int 0), (1, .int i), (0, .ref (a 38))]) hx hb dX1_doRound_14 rfl hl (by decide) rfl (fun ls hl => ?_)
        refine lv_iconst (v := 0) hx hb dX1_doRound_15 (by decide) ?_
        refine lv_istore_n (lv' := [(3, .int 0), (2, .int 0), (1, .int i), (0, .ref (a 38))]) hx hb dX1_doRound_16 rfl hl (by decide) rfl (fun ls hl => ?_)
        have L17 : ∀ (fu17 : Nat) (j : Int32) (z : Int32) (H : Heap) (locs : List Loc) (ls : Array Slot), (0 ≤ j.toInt) → (sCalm V → z = 0) → (((V 3 7).toInt - j.toInt).toNat) < fu17 → sWS D cI SX a Y s.heap H locs → lv_has ls 4 [(3, .int j), (2, .int z), (1, .int i), (0, .ref (a 38))] → W p l e (rmD 2) s m ([.ref (a 38)] : List Value).toArray below meth c H locs 0 0 (MQ below (va_Qv (q_doRound V) (fun V1 t => va_P D vwCl (sWd cI SX a V1) t.heap) (sA SX a s.heap.size)) ([.ref (a 38)] : List Value).toArray s 0 0 (sA SX a s.heap.size)) (F0 m 17 ls []) := by
          intro fu17
          induction fu17 with
          | zero => intro j z H locs ls hj hz hm17; exact absurd hm17 (Nat.not_lt_zero _)
          | succ fu17 ih17 =>
            intro j z H locs ls hj hz hm17 X hl
            refine lv_iload_n hx hb dX1_doRound_17 rfl (lv_at hl 0 rfl) ?_
            refine lv_aload_n hx hb dX1_doRound_18 rfl (lv_at hl 3 rfl) ?_
            refine sgR G X 38 0 rfl rfl fl_X1_9 dX1_doRound_19 ?_
            refine sgR G X 2 1 rfl rfl fl_X1_37 dX1_doRound_22 ?_
            refine sgI G X 3 7 rfl rfl fl_X1_43 dX1_doRound_25 ?_
            refine sIge (tgt := 80) hx hb (rfl : Int32.toInt j = _) (rfl : Int32.toInt (Y 3 7) = _) dX1_doRound_28 (by decide) (fun c28 => ?_) (fun c28 => ?_)
            · skip
              rw [hA 3 (by decide)] at c28
              refine lv_aload_n hx hb dX1_doRound_80 rfl (lv_at hl 3 rfl) ?_
              refine sgR G X 38 5 rfl rfl fl_X1_28 dX1_doRound_81 ?_
              refine lv_iload_n hx hb dX1_doRound_84 rfl (lv_at hl 2 rfl) ?_
              refine lv_aload_n hx hb dX1_doRound_85 rfl (lv_at hl 3 rfl) ?_
              refine sgR G X 38 5 rfl rfl fl_X1_28 dX1_doRound_86 ?_
              refine lv_iload_n hx hb dX1_doRound_89 rfl (lv_at hl 2 rfl) ?_
              refine scSI (As := [.ref (a 43), .int i]) (rest := [.int i, .ref (a 43)]) G X (k_at ha Y 43 6 rfl (by first | decide | assumption) i) iy_X5_at ml_X1_52 rfl rfl hl.1 (by decide) (by decide) (Nat.le_of_ble_eq_true rfl) dX1_doRound_90 (fun y90 V90 H locs p90 X => ?_)
              obtain ⟨p90, z90⟩ := p90
              subst V90
              refine lv_iload_n hx hb dX1_doRound_93 rfl (lv_at hl 1 rfl) ?_
              refine lv_iconst (v := 0) hx hb dX1_doRound_94 (by decide) ?_
              refine scSI (As := [.int z, .int 0]) (rest := [.int y90, .int i, .ref (a 43)]) G X (k_compare ha Y z 0) iy_J6_compare_7cf53 ml_X1_98 rfl rfl hl.1 (by decide) (by decide) (Nat.le_of_ble_eq_true rfl) dX1_doRound_95 (fun y95 V95 H locs p95 X => ?_)
              obtain ⟨p95, z95⟩ := p95
              subst V95
              refine lv_iadd hx hb dX1_doRound_98 ?_
              refine lv_topi (fun x98 e98 => ?_)
              refine scSV (As := [.ref (a 43), .int i, .int x98]) (rest := []) G X (k_put ha Y 43 6 rfl (by first | decide | assumption) i x98) iy_X5_put ml_X1_58 rfl rfl hl.1 (by decide) (by decide) (Nat.le_of_ble_eq_true rfl) dX1_doRound_99 (fun V99 H locs p99 X => ?_)
              obtain ⟨x102, e102⟩ : ∃ y : Int32, y = i + (1) := ⟨_, rfl⟩
              refine lv_iinc (v := x102) (lv' := [(1, .int x102), (3, .int j), (2, .int z), (0, .ref (a 38))]) hx hb dX1_doRound_102 hl (k := 2) rfl (by rw [e102]; rfl) (by decide) rfl (fun ls hl => ?_)
              refine lv_goto (tgt := 2) hx hb dX1_doRound_105 (by decide) ?_
              exact ih2 x102 V99 _ _ _ (by rw [i32_i e102 (by have := i32_hi (V 2 0); omega)]; omega) (by rw [show V99 = _ from p99]; exact hA.up (by simp)) (fun h => by
            have h1 := hc h
            have q99 : V99 = _ := p99
            subst q99
            have h2 : x98 = 0 := by rw [e98, p90, h1.1 i, p95 (by rw [hz h])]; rfl
            refine ⟨fun j => ?_, by rw [sUp_n _ _ (by decide)]; exact h1.2.1, fun k h3 h4 => by rw [sUp_n _ _ (by decide)] at h4; rw [sUp_n _ _ (by decide), sUp_n _ _ (by decide)]; exact h1.2.2 k h3 h4⟩
            rw [sUp_s, h2]
            by_cases hji : j.toInt = i.toInt
            · have hji2 : j = i := Int32.toInt_inj.mp hji
              subst hji2
              by_cases hj6 : j.toInt < (6 : Nat)
              · exact rAt_put_s hi hj6
              · exact rAt_out (by omega)
            · rw [rAt_put_n hji]; exact h1.1 j) (by rw [i32_i e102 (by have := i32_hi (V 2 0); omega)]; omega) X (lv_sub hl [0, 3] rfl)
            · skip
              rw [hA 3 (by decide)] at c28
              refine lv_aload_n hx hb dX1_doRound_31 rfl (lv_at hl 3 rfl) ?_
              refine sgR G X 38 3 rfl rfl fl_X1_22 dX1_doRound_32 ?_
              refine lv_iload_n hx hb dX1_doRound_35 rfl (lv_at hl 0 rfl) ?_
              refine scSI (As := [.ref (a 41), .int j]) (rest := []) G X (k_at ha Y 41 10 rfl (by first | decide | assumption) j) iy_X5_at ml_X1_52 rfl rfl hl.1 (by decide) (by decide) (Nat.le_of_ble_eq_true rfl) dX1_doRound_36 (fun y36 V36 H locs p36 X => ?_)
              obtain ⟨p36, z36⟩ := p36
              subst V36
              refine lv_iload_n hx hb dX1_doRound_39 rfl (lv_at hl 2 rfl) ?_
              refine sIne (tgt := 54) hx hb (rfl : Int32.toInt y36 = _) (rfl : Int32.toInt i = _) dX1_doRound_40 (by decide) (fun c40 => ?_) (fun c40 => ?_)
              · skip
                refine lv_aload_n hx hb dX1_doRound_54 rfl (lv_at hl 3 rfl) ?_
                refine sgR G X 38 2 rfl rfl fl_X1_19 dX1_doRound_55 ?_
                refine lv_iload_n hx hb dX1_doRound_58 rfl (lv_at hl 0 rfl) ?_
                refine scSI (As := [.ref (a 40), .int j]) (rest := []) G X (k_at ha Y 40 10 rfl (by first | decide | assumption) j) iy_X5_at ml_X1_52 rfl rfl hl.1 (by decide) (by decide) (Nat.le_of_ble_eq_true rfl) dX1_doRound_59 (fun y59 V59 H locs p59 X => ?_)
                obtain ⟨p59, z59⟩ := p59
                subst V59
                refine lv_iload_n hx hb dX1_doRound_62 rfl (lv_at hl 2 rfl) ?_
                refine sIne (tgt := 74) hx hb (rfl : Int32.toInt y59 = _) (rfl : Int32.toInt i = _) dX1_doRound_63 (by decide) (fun c63 => ?_) (fun c63 => ?_)
                · skip
                  obtain ⟨x74, e74⟩ : ∃ y : Int32, y = j + (1) := ⟨_, rfl⟩
                  refine lv_iinc (v := x74) (lv' := [(3, .int x74), (2, .int z), (1, .int i), (0, .ref (a 38))]) hx hb dX1_doRound_74 hl (k := 0) rfl (by rw [e74]; rfl) (by decide) rfl (fun ls hl => ?_)
                  refine lv_goto (tgt := 17) hx hb dX1_doRound_77 (by decide) ?_
                  exact ih17 x74 z _ _ _ (by rw [i32_i e74 (by have := i32_hi (V 3 7); omega)]; omega) (fun h => by first | exact hz h | (rw [e49, hz h, p46 (hc h) hj (by rw [hA 3 (by decide)]; exact c28)]; rfl) | (rw [e72, hz h, p69 (hc h) hj (by rw [hA 3 (by decide)]; exact c28)]; rfl)) (by rw [i32_i e74 (by have := i32_hi (V 3 7); omega)]; omega) X (lv_sub hl [0, 1, 2, 3] rfl)
                · skip
                  refine lv_iload_n hx hb dX1_doRound_66 rfl (lv_at hl 1 rfl) ?_
                  refine lv_aload_n hx hb dX1_doRound_67 rfl (lv_at hl 3 rfl) ?_
                  refine lv_iload_n hx hb dX1_doRound_68 rfl (lv_at hl 0 rfl) ?_
                  refine scI (ci := 1) (As := [.int j]) (rest := [.int z]) G X (k_flow ha Y j) iy_X1_flowThrough ml_X1_94 rfl rfl rfl rfl hl.1 (by decide) (by decide) (Nat.le_of_ble_eq_true rfl) dX1_doRound_69 (fun y69 V69 H locs p69 X => ?_)
                  obtain ⟨p69, z69⟩ := p69
                  subst V69
                  refine lv_isub hx hb dX1_doRound_72 ?_
                  refine lv_topi (fun x72 e72 => ?_)
                  refine lv_istore_n (lv' := [(2, .int x72), (3, .int j), (1, .int i), (0, .ref (a 38))]) hx hb dX1_doRound_73 rfl hl (by decide) rfl (fun ls hl => ?_)
                  obtain ⟨x74, e74⟩ : ∃ y : Int32, y = j + (1) := ⟨_, rfl⟩
                  refine lv_iinc (v := x74) (lv' := [(3, .int x74), (2, .int x72), (1, .int i), (0, .ref (a 38))]) hx hb dX1_doRound_74 hl (k := 1) rfl (by rw [e74]; rfl) (by decide) rfl (fun ls hl => ?_)
                  refine lv_goto (tgt := 17) hx hb dX1_doRound_77 (by decide) ?_
                  exact ih17 x74 x72 _ _ _ (by rw [i32_i e74 (by have := i32_hi (V 3 7); omega)]; omega) (fun h => by first | exact hz h | (rw [e49, hz h, p46 (hc h) hj (by rw [hA 3 (by decide)]; exact c28)]; rfl) | (rw [e72, hz h, p69 (hc h) hj (by rw [hA 3 (by decide)]; exact c28)]; rfl)) (by rw [i32_i e74 (by have := i32_hi (V 3 7); omega)]; omega) X (lv_sub hl [0, 1, 2, 3] rfl)
              · skip
                refine lv_iload_n hx hb dX1_doRound_43 rfl (lv_at hl 1 rfl) ?_
                refine lv_aload_n hx hb dX1_doRound_44 rfl (lv_at hl 3 rfl) ?_
                refine lv_iload_n hx hb dX1_doRound_45 rfl (lv_at hl 0 rfl) ?_
                refine scI (ci := 1) (As := [.int j]) (rest := [.int z]) G X (k_flow ha Y j) iy_X1_flowThrough ml_X1_94 rfl rfl rfl rfl hl.1 (by decide) (by decide) (Nat.le_of_ble_eq_true rfl) dX1_doRound_46 (fun y46 V46 H locs p46 X => ?_)
                obtain ⟨p46, z46⟩ := p46
                subst V46
                refine lv_iadd hx hb dX1_doRound_49 ?_
                refine lv_topi (fun x49 e49 => ?_)
                refine lv_istore_n (lv' := [(2, .int x49), (3, .int j), (1, .int i), (0, .ref (a 38))]) hx hb dX1_doRound_50 rfl hl (by decide) rfl (fun ls hl => ?_)
                refine lv_goto (tgt := 74) hx hb dX1_doRound_51 (by decide) ?_
                obtain ⟨x74, e74⟩ : ∃ y : Int32, y = j + (1) := ⟨_, rfl⟩
                refine lv_iinc (v := x74) (lv' := [(3, .int x74), (2, .int x49), (1, .int i), (0, .ref (a 38))]) hx hb dX1_doRound_74 hl (k := 1) rfl (by rw [e74]; rfl) (by decide) rfl (fun ls hl => ?_)
                refine lv_goto (tgt := 17) hx hb dX1_doRound_77 (by decide) ?_
                exact ih17 x74 x49 _ _ _ (by rw [i32_i e74 (by have := i32_hi (V 3 7); omega)]; omega) (fun h => by first | exact hz h | (rw [e49, hz h, p46 (hc h) hj (by rw [hA 3 (by decide)]; exact c28)]; rfl) | (rw [e72, hz h, p69 (hc h) hj (by rw [hA 3 (by decide)]; exact c28)]; rfl)) (by rw [i32_i e74 (by have := i32_hi (V 3 7); omega)]; omega) X (lv_sub hl [0, 1, 2, 3] rfl)
        exact L17 _ 0 0 _ _ _ (by decide) (fun _ => rfl) (Nat.lt_succ_self _) X (lv_sub hl [0, 1, 2, 3] rfl)
  exact L2 _ 0 V _ _ _ (by decide) (sAg.rf) (fun h => h) (Nat.lt_succ_self _) X (lv_sub hl [0, 1] rfl)
def q_isAsEarlier (V : sV) : Int32 → sV → Prop := fun x V1 => (x.toInt = 0 ∨ x.toInt = 1) ∧ V1 = V
set_option maxRecDepth 100000 in
set_option maxHeartbeats 4000000 in
theorem k_isAsEarlier {l : Launch} {D : va_G} {cI : ClassId} {a : Nat → Nat} (ha : sInj SX a) (V : sV)  : sMI l D cI SX a V yX1_isAsEarlier cX1_isAsEarlier 2 .boolean 1 [.ref (a 38)] (q_isAsEarlier V) := by
  refine sMIof ha (by decide +kernel) (Nat.le_of_ble_eq_true rfl) ?_
  intro p e s m below meth c ls G X hl
  obtain ⟨hx, hb, hml, hown, hts, hlocks, hr, hK⟩ := id G
  have hl : lv_has ls 2 [(0, .ref (a 38))] := hl
  refine lv_iconst (v := 0) hx hb dX1_isAsEarlier_0 (by decide) ?_
  refine lv_istore_n (lv' := [(1, .int 0), (0, .ref (a 38))]) hx hb dX1_isAsEarlier_1 rfl hl (by decide) rfl (fun ls hl => ?_)
  have L2 : ∀ (fu2 : Nat) (i : Int32) (H : Heap) (locs : List Loc) (ls : Array Slot), (0 ≤ i.toInt) → (((V 2 0).toInt - i.toInt).toNat) < fu2 → sWS D cI SX a V s.heap H locs → lv_has ls 2 [(1, .int i), (0, .ref (a 38))] → W p l e (rmD 1) s m ([.ref (a 38)] : List Value).toArray below meth c H locs 0 0 (MQ below (va_Qi (q_isAsEarlier V) (fun V1 t => va_P D vwCl (sWd cI SX a V1) t.heap) (sA SX a s.heap.size)) ([.ref (a 38)] : List Value).toArray s 0 0 (sA SX a s.heap.size)) (F0 m 2 ls []) := by
    intro fu2
    induction fu2 with
    | zero => intro i H locs ls hi hm2; exact absurd hm2 (Nat.not_lt_zero _)
    | succ fu2 ih2 =>
      intro i H locs ls hi hm2 X hl
      refine lv_iload_n hx hb dX1_isAsEarlier_2 rfl (lv_at hl 0 rfl) ?_
      refine lv_aload_n hx hb dX1_isAsEarlier_3 rfl (lv_at hl 1 rfl) ?_
      refine sgR G X 38 0 rfl rfl fl_X1_9 dX1_isAsEarlier_4 ?_
      refine sgI G X 2 0 rfl rfl fl_X1_91 dX1_isAsEarlier_7 ?_
      refine sIge (tgt := 40) hx hb (rfl : Int32.toInt i = _) (rfl : Int32.toInt (V 2 0) = _) dX1_isAsEarlier_10 (by decide) (fun c10 => ?_) (fun c10 => ?_)
      · skip
        refine lv_iconst (v := 1) hx hb dX1_isAsEarlier_40 (by decide) ?_
        exact srI G X (rfl) dX1_isAsEarlier_41 (by exact ⟨Or.inr rfl, rfl⟩)
      · skip
        refine lv_aload_n hx hb dX1_isAsEarlier_13 rfl (lv_at hl 1 rfl) ?_
        refine sgR G X 38 5 rfl rfl fl_X1_28 dX1_isAsEarlier_14 ?_
        refine lv_iload_n hx hb dX1_isAsEarlier_17 rfl (lv_at hl 0 rfl) ?_
        refine scSI (As := [.ref (a 43), .int i]) (rest := []) G X (k_at ha V 43 6 rfl (by first | decide | assumption) i) iy_X5_at ml_X1_52 rfl rfl hl.1 (by decide) (by decide) (Nat.le_of_ble_eq_true rfl) dX1_isAsEarlier_18 (fun y18 V18 H locs p18 X => ?_)
        obtain ⟨p18, z18⟩ := p18
        subst V18
        refine lv_aload_n hx hb dX1_isAsEarlier_21 rfl (lv_at hl 1 rfl) ?_
        refine sgR G X 38 6 rfl rfl fl_X1_31 dX1_isAsEarlier_22 ?_
        refine lv_iload_n hx hb dX1_isAsEarlier_25 rfl (lv_at hl 0 rfl) ?_
        refine scSI (As := [.ref (a 44), .int i]) (rest := [.int y18]) G X (k_at ha V 44 6 rfl (by first | decide | assumption) i) iy_X5_at ml_X1_52 rfl rfl hl.1 (by decide) (by decide) (Nat.le_of_ble_eq_true rfl) dX1_isAsEarlier_26 (fun y26 V26 H locs p26 X => ?_)
        obtain ⟨p26, z26⟩ := p26
        subst V26
        refine sIeq (tgt := 34) hx hb (rfl : Int32.toInt y18 = _) (rfl : Int32.toInt y26 = _) dX1_isAsEarlier_29 (by decide) (fun c29 => ?_) (fun c29 => ?_)
        · skip
          obtain ⟨x34, e34⟩ : ∃ y : Int32, y = i + (1) := ⟨_, rfl⟩
          refine lv_iinc (v := x34) (lv' := [(1, .int x34), (0, .ref (a 38))]) hx hb dX1_isAsEarlier_34 hl (k := 0) rfl (by rw [e34]; rfl) (by decide) rfl (fun ls hl => ?_)
          refine lv_goto (tgt := 2) hx hb dX1_isAsEarlier_37 (by decide) ?_
          exact ih2 x34 _ _ _ (by rw [i32_i e34 (by have := i32_hi (V 2 0); omega)]; omega) (by rw [i32_i e34 (by have := i32_hi (V 2 0); omega)]; omega) X (lv_sub hl [0, 1] rfl)
        · skip
          refine lv_iconst (v := 0) hx hb dX1_isAsEarlier_32 (by decide) ?_
          exact srI G X (rfl) dX1_isAsEarlier_33 (by exact ⟨Or.inl rfl, rfl⟩)
  exact L2 _ 0 _ _ _ (by decide) (Nat.lt_succ_self _) X (lv_sub hl [0, 1] rfl)
def q_settle (V : sV) (r : Nat) : sV → Prop := fun V1 => sAg [40, 41, 42, 43, 44] V V1 ∧ (sQuiet V r → V 45 0 = 0 → sCalm V1)
set_option maxRecDepth 100000 in
set_option maxHeartbeats 4000000 in
theorem k_settle {l : Launch} {D : va_G} {cI : ClassId} {a : Nat → Nat} (ha : sInj SX a) (V : sV) (r : Nat) (hr0 : SX[r]? = some (.inr (0, [none, none, none, none]))) (hrn : r ∉ [40, 41, 42, 43, 44]) : sMV l D cI SX a V yX1_settle cX1_settle 3 3 [.ref (a 38), .ref (a r)] (q_settle V r) := by
  refine sMVof ha (by decide +kernel) (Nat.le_of_ble_eq_true rfl) ?_
  intro p e s m below meth c ls G X hl
  obtain ⟨hx, hb, hml, hown, hts, hlocks, hr, hK⟩ := id G
  have hl : lv_has ls 3 [(0, .ref (a 38)), (1, .ref (a r))] := hl
  refine lv_aload_n hx hb dX1_settle_0 rfl (lv_at hl 0 rfl) ?_
  refine lv_aload_n hx hb dX1_settle_1 rfl (lv_at hl 1 rfl) ?_
  refine scV (ci := 1) (As := [.ref (a r)]) (rest := []) G X (k_begin ha V r hr0 (by first | decide | assumption)) iy_X1_begin ml_X1_62 rfl rfl rfl rfl hl.1 (by decide) (by decide) (Nat.le_of_ble_eq_true rfl) dX1_settle_2 (fun V2 H locs p2 X => ?_)
  refine lv_iconst (v := 0) hx hb dX1_settle_5 (by decide) ?_
  refine lv_istore_n (lv' := [(2, .int 0), (0, .ref (a 38)), (1, .ref (a r))]) hx hb dX1_settle_6 rfl hl (by decide) rfl (fun ls hl => ?_)
  have L7 : ∀ (fu7 : Nat) (i : Int32) (Y : sV) (H : Heap) (locs : List Loc) (ls : Array Slot), (0 ≤ i.toInt) → (sAg [40, 41, 42, 43, 44] V Y) → (sQuiet V r → V 45 0 = 0 → sCalm Y) → ((100 - i.toInt).toNat) < fu7 → sWS D cI SX a Y s.heap H locs → lv_has ls 3 [(2, .int i), (0, .ref (a 38)), (1, .ref (a r))] → W p l e (rmD 3) s m ([.ref (a 38), .ref (a r)] : List Value).toArray below meth c H locs 0 0 (MQ below (va_Qv (q_settle V r) (fun V1 t => va_P D vwCl (sWd cI SX a V1) t.heap) (sA SX a s.heap.size)) ([.ref (a 38), .ref (a r)] : List Value).toArray s 0 0 (sA SX a s.heap.size)) (F0 m 7 ls []) := by
    intro fu7
    induction fu7 with
    | zero => intro i Y H locs ls hi hA hc hm7; exact absurd hm7 (Nat.not_lt_zero _)
    | succ fu7 ih7 =>
      intro i Y H locs ls hi hA hc hm7 X hl
      refine lv_iload_n hx hb dX1_settle_7 rfl (lv_at hl 0 rfl) ?_
      refine lv_bipush (v := 100) hx hb dX1_settle_8 (by decide) ?_
      refine sIge (tgt := 48) hx hb (rfl : Int32.toInt i = _) (by decide : (100 : Int32).toInt = 100) dX1_settle_10 (by decide) (fun c10 => ?_) (fun c10 => ?_)
      · skip
        exact srV G X dX1_settle_48 (by first | exact ⟨((hA.tr (by obtain ⟨f, e21, -⟩ := p21; rw [e21]; exact sAg.rf.up (by simp))).tr (p25.1.mono (by decide))).tr (p29.1.mono (by decide)), fun hQ h0 => p29.2 (p25.2 (by obtain ⟨f, e21, -⟩ := p21; rw [e21]; obtain ⟨a1, a2, a3⟩ := hc hQ h0; exact ⟨fun j => by rw [sUp_n _ _ (by decide)]; exact a1 j, by rw [sUp_n _ _ (by decide)]; exact a2, fun k h3 h4 => by rw [sUp_n _ _ (by decide)] at h4; rw [sUp_n _ _ (by decide), sUp_n _ _ (by decide)]; exact a3 k h3 h4⟩))⟩ | exact ⟨hA, hc⟩)
      · skip
        refine lv_aload_n hx hb dX1_settle_13 rfl (lv_at hl 1 rfl) ?_
        refine sgR G X 38 5 rfl rfl fl_X1_28 dX1_settle_14 ?_
        refine lv_aload_n hx hb dX1_settle_17 rfl (lv_at hl 1 rfl) ?_
        refine sgR G X 38 6 rfl rfl fl_X1_31 dX1_settle_18 ?_
        refine scSV (As := [.ref (a 43), .ref (a 44)]) (rest := []) G X (k_copy ha Y 43 44 6 rfl rfl (by first | decide | assumption) (by first | decide | assumption)) iy_X5_copy ml_X1_66 rfl rfl hl.1 (by decide) (by decide) (Nat.le_of_ble_eq_true rfl) dX1_settle_21 (fun V21 H locs p21 X => ?_)
        refine lv_aload_n hx hb dX1_settle_24 rfl (lv_at hl 1 rfl) ?_
        refine scV (ci := 1) (As := []) (rest := []) G X (k_doRound ha V21 ) iy_X1_doRound ml_X1_70 rfl rfl rfl rfl hl.1 (by decide) (by decide) (Nat.le_of_ble_eq_true rfl) dX1_settle_25 (fun V25 H locs p25 X => ?_)
        refine lv_aload_n hx hb dX1_settle_28 rfl (lv_at hl 1 rfl) ?_
        refine scV (ci := 1) (As := []) (rest := []) G X (k_doRound ha V25 ) iy_X1_doRound ml_X1_70 rfl rfl rfl rfl hl.1 (by decide) (by decide) (Nat.le_of_ble_eq_true rfl) dX1_settle_29 (fun V29 H locs p29 X => ?_)
        refine lv_aload_n hx hb dX1_settle_32 rfl (lv_at hl 1 rfl) ?_
        refine scI (ci := 1) (As := []) (rest := []) G X (k_isAsEarlier ha V29 ) iy_X1_isAsEarlier ml_X1_73 rfl rfl rfl rfl hl.1 (by decide) (by decide) (Nat.le_of_ble_eq_true rfl) dX1_settle_33 (fun y33 V33 H locs p33 X => ?_)
        obtain ⟨p33, z33⟩ := p33
        subst V33
        refine sZeq (tgt := 42) hx hb (rfl : Int32.toInt y33 = _) dX1_settle_36 (by decide) (fun c36 => ?_) (fun c36 => ?_)
        · skip
          obtain ⟨x42, e42⟩ : ∃ y : Int32, y = i + (1) := ⟨_, rfl⟩
          refine lv_iinc (v := x42) (lv' := [(2, .int x42), (0, .ref (a 38)), (1, .ref (a r))]) hx hb dX1_settle_42 hl (k := 0) rfl (by rw [e42]; rfl) (by decide) rfl (fun ls hl => ?_)
          refine lv_goto (tgt := 7) hx hb dX1_settle_45 (by decide) ?_
          exact ih7 x42 V29 _ _ _ (by rw [i32_i e42 (by omega)]; omega) (((hA.tr (by obtain ⟨f, e21, -⟩ := p21; rw [e21]; exact sAg.rf.up (by simp))).tr (p25.1.mono (by decide))).tr (p29.1.mono (by decide))) (fun hQ h0 => p29.2 (p25.2 (by obtain ⟨f, e21, -⟩ := p21; rw [e21]; obtain ⟨a1, a2, a3⟩ := hc hQ h0; exact ⟨fun j => by rw [sUp_n _ _ (by decide)]; exact a1 j, by rw [sUp_n _ _ (by decide)]; exact a2, fun k h3 h4 => by rw [sUp_n _ _ (by decide)] at h4; rw [sUp_n _ _ (by decide), sUp_n _ _ (by decide)]; exact a3 k h3 h4⟩))) (by rw [i32_i e42 (by omega)]; omega) X (lv_sub hl [0, 1, 2] rfl)
        · skip
          refine lv_goto (tgt := 48) hx hb dX1_settle_39 (by decide) ?_
          exact srV G X dX1_settle_48 (by first | exact ⟨((hA.tr (by obtain ⟨f, e21, -⟩ := p21; rw [e21]; exact sAg.rf.up (by simp))).tr (p25.1.mono (by decide))).tr (p29.1.mono (by decide)), fun hQ h0 => p29.2 (p25.2 (by obtain ⟨f, e21, -⟩ := p21; rw [e21]; obtain ⟨a1, a2, a3⟩ := hc hQ h0; exact ⟨fun j => by rw [sUp_n _ _ (by decide)]; exact a1 j, by rw [sUp_n _ _ (by decide)]; exact a2, fun k h3 h4 => by rw [sUp_n _ _ (by decide)] at h4; rw [sUp_n _ _ (by decide), sUp_n _ _ (by decide)]; exact a3 k h3 h4⟩))⟩ | exact ⟨hA, hc⟩)
  exact L7 _ 0 V2 _ _ _ (by decide) (p2.1.mono (by decide)) (p2.2) (Nat.lt_succ_self _) X (lv_sub hl [0, 1, 2] rfl)
def q_inflow (V : sV) : Int32 → sV → Prop := fun x V1 => (sCalm V → x = 0) ∧ V1 = V
set_option maxRecDepth 100000 in
set_option maxHeartbeats 4000000 in
theorem k_inflow {l : Launch} {D : va_G} {cI : ClassId} {a : Nat → Nat} (ha : sInj SX a) (V : sV)  : sMI l D cI SX a V yX1_inflow cX1_inflow 3 .int 2 [.ref (a 38)] (q_inflow V) := by
  refine sMIof ha (by decide +kernel) (Nat.le_of_ble_eq_true rfl) ?_
  intro p e s m below meth c ls G X hl
  obtain ⟨hx, hb, hml, hown, hts, hlocks, hr, hK⟩ := id G
  have hl : lv_has ls 3 [(0, .ref (a 38))] := hl
  refine lv_iconst (v := 0) hx hb dX1_inflow_0 (by decide) ?_
  refine lv_istore_n (lv' := [(1, .int 0), (0, .ref (a 38))]) hx hb dX1_inflow_1 rfl hl (by decide) rfl (fun ls hl => ?_)
  refine lv_iconst (v := 0) hx hb dX1_inflow_2 (by decide) ?_
  refine lv_istore_n (lv' := [(2, .int 0), (1, .int 0), (0, .ref (a 38))]) hx hb dX1_inflow_3 rfl hl (by decide) rfl (fun ls hl => ?_)
  have L4 : ∀ (fu4 : Nat) (i : Int32) (z : Int32) (H : Heap) (locs : List Loc) (ls : Array Slot), (0 ≤ i.toInt) → (sCalm V → z = 0) → (((V 3 7).toInt - i.toInt).toNat) < fu4 → sWS D cI SX a V s.heap H locs → lv_has ls 3 [(2, .int i), (1, .int z), (0, .ref (a 38))] → W p l e (rmD 2) s m ([.ref (a 38)] : List Value).toArray below meth c H locs 0 0 (MQ below (va_Qi (q_inflow V) (fun V1 t => va_P D vwCl (sWd cI SX a V1) t.heap) (sA SX a s.heap.size)) ([.ref (a 38)] : List Value).toArray s 0 0 (sA SX a s.heap.size)) (F0 m 4 ls []) := by
    intro fu4
    induction fu4 with
    | zero => intro i z H locs ls hi hz hm4; exact absurd hm4 (Nat.not_lt_zero _)
    | succ fu4 ih4 =>
      intro i z H locs ls hi hz hm4 X hl
      refine lv_iload_n hx hb dX1_inflow_4 rfl (lv_at hl 0 rfl) ?_
      refine lv_aload_n hx hb dX1_inflow_5 rfl (lv_at hl 2 rfl) ?_
      refine sgR G X 38 0 rfl rfl fl_X1_9 dX1_inflow_6 ?_
      refine sgR G X 2 1 rfl rfl fl_X1_37 dX1_inflow_9 ?_
      refine sgI G X 3 7 rfl rfl fl_X1_43 dX1_inflow_12 ?_
      refine sIge (tgt := 50) hx hb (rfl : Int32.toInt i = _) (rfl : Int32.toInt (V 3 7) = _) dX1_inflow_15 (by decide) (fun c15 => ?_) (fun c15 => ?_)
      · skip
        refine lv_iload_n hx hb dX1_inflow_50 rfl (lv_at hl 1 rfl) ?_
        exact srI G X (rfl) dX1_inflow_51 (by exact ⟨hz, rfl⟩)
      · skip
        refine lv_aload_n hx hb dX1_inflow_18 rfl (lv_at hl 2 rfl) ?_
        refine sgR G X 38 0 rfl rfl fl_X1_9 dX1_inflow_19 ?_
        refine sgR G X 2 1 rfl rfl fl_X1_37 dX1_inflow_22 ?_
        refine lv_iload_n hx hb dX1_inflow_25 rfl (lv_at hl 0 rfl) ?_
        refine scI (ci := 2) (As := [.int i]) (rest := []) G X (k_isDoor ha V i) iy_X2_isDoor ml_X1_77 rfl rfl rfl rfl hl.1 (by decide) (by decide) (Nat.le_of_ble_eq_true rfl) dX1_inflow_26 (fun y26 V26 H locs p26 X => ?_)
        obtain ⟨p26, z26⟩ := p26
        subst V26
        refine sZne (tgt := 44) hx hb (rfl : Int32.toInt y26 = _) dX1_inflow_29 (by decide) (fun c29 => ?_) (fun c29 => ?_)
        · skip
          obtain ⟨x44, e44⟩ : ∃ y : Int32, y = i + (1) := ⟨_, rfl⟩
          refine lv_iinc (v := x44) (lv' := [(2, .int x44), (1, .int z), (0, .ref (a 38))]) hx hb dX1_inflow_44 hl (k := 0) rfl (by rw [e44]; rfl) (by decide) rfl (fun ls hl => ?_)
          refine lv_goto (tgt := 4) hx hb dX1_inflow_47 (by decide) ?_
          exact ih4 x44 z _ _ _ (by rw [i32_i e44 (by have := i32_hi (V 3 7); omega)]; omega) (fun h => by first | exact hz h | (rw [e42, hz h, sMax0 (p35 h hi c15) e39]; rfl)) (by rw [i32_i e44 (by have := i32_hi (V 3 7); omega)]; omega) X (lv_sub hl [0, 1, 2] rfl)
        · skip
          refine lv_iload_n hx hb dX1_inflow_32 rfl (lv_at hl 1 rfl) ?_
          refine lv_aload_n hx hb dX1_inflow_33 rfl (lv_at hl 2 rfl) ?_
          refine lv_iload_n hx hb dX1_inflow_34 rfl (lv_at hl 0 rfl) ?_
          refine scI (ci := 1) (As := [.int i]) (rest := [.int z]) G X (k_flow ha V i) iy_X1_flowThrough ml_X1_94 rfl rfl rfl rfl hl.1 (by decide) (by decide) (Nat.le_of_ble_eq_true rfl) dX1_inflow_35 (fun y35 V35 H locs p35 X => ?_)
          obtain ⟨p35, z35⟩ := p35
          subst V35
          refine lv_iconst (v := 0) hx hb dX1_inflow_38 (by decide) ?_
          refine sMax hx hb hml hl.1 hown hts mm_X1_112 (by decide) (Nat.le_of_ble_eq_true rfl) dX1_inflow_39 (fun x39 e39 => ?_)
          refine lv_iadd hx hb dX1_inflow_42 ?_
          refine lv_topi (fun x42 e42 => ?_)
          refine lv_istore_n (lv' := [(1, .int x42), (2, .int i), (0, .ref (a 38))]) hx hb dX1_inflow_43 rfl hl (by decide) rfl (fun ls hl => ?_)
          obtain ⟨x44, e44⟩ : ∃ y : Int32, y = i + (1) := ⟨_, rfl⟩
          refine lv_iinc (v := x44) (lv' := [(2, .int x44), (1, .int x42), (0, .ref (a 38))]) hx hb dX1_inflow_44 hl (k := 1) rfl (by rw [e44]; rfl) (by decide) rfl (fun ls hl => ?_)
          refine lv_goto (tgt := 4) hx hb dX1_inflow_47 (by decide) ?_
          exact ih4 x44 x42 _ _ _ (by rw [i32_i e44 (by have := i32_hi (V 3 7); omega)]; omega) (fun h => by first | exact hz h | (rw [e42, hz h, sMax0 (p35 h hi c15) e39]; rfl)) (by rw [i32_i e44 (by have := i32_hi (V 3 7); omega)]; omega) X (lv_sub hl [0, 1, 2] rfl)
  exact L4 _ 0 0 _ _ _ (by decide) (fun _ => rfl) (Nat.lt_succ_self _) X (lv_sub hl [0, 1, 2] rfl)
def q_smoking (V : sV) : Int32 → sV → Prop := fun x V1 => ((x.toInt = 0 ∨ x.toInt = 1) ∧ ((V 3 7).toInt ≤ 0 → x = 0)) ∧ V1 = V
set_option maxRecDepth 100000 in
set_option maxHeartbeats 4000000 in
theorem k_smoking {l : Launch} {D : va_G} {cI : ClassId} {a : Nat → Nat} (ha : sInj SX a) (V : sV)  : sMI l D cI SX a V yX1_smoking cX1_smoking 3 .boolean 2 [.ref (a 38)] (q_smoking V) := by
  refine sMIof ha (by decide +kernel) (Nat.le_of_ble_eq_true rfl) ?_
  intro p e s m below meth c ls G X hl
  obtain ⟨hx, hb, hml, hown, hts, hlocks, hr, hK⟩ := id G
  have hl : lv_has ls 3 [(0, .ref (a 38))] := hl
  refine lv_iconst (v := 0) hx hb dX1_smoking_0 (by decide) ?_
  refine lv_istore_n (lv' := [(1, .int 0), (0, .ref (a 38))]) hx hb dX1_smoking_1 rfl hl (by decide) rfl (fun ls hl => ?_)
  have L2 : ∀ (fu2 : Nat) (i : Int32) (H : Heap) (locs : List Loc) (ls : Array Slot), (0 ≤ i.toInt) → (((V 3 7).toInt - i.toInt).toNat) < fu2 → sWS D cI SX a V s.heap H locs → lv_has ls 3 [(1, .int i), (0, .ref (a 38))] → W p l e (rmD 2) s m ([.ref (a 38)] : List Value).toArray below meth c H locs 0 0 (MQ below (va_Qi (q_smoking V) (fun V1 t => va_P D vwCl (sWd cI SX a V1) t.heap) (sA SX a s.heap.size)) ([.ref (a 38)] : List Value).toArray s 0 0 (sA SX a s.heap.size)) (F0 m 2 ls []) := by
    intro fu2
    induction fu2 with
    | zero => intro i H locs ls hi hm2; exact absurd hm2 (Nat.not_lt_zero _)
    | succ fu2 ih2 =>
      intro i H locs ls hi hm2 X hl
      refine lv_iload_n hx hb dX1_smoking_2 rfl (lv_at hl 0 rfl) ?_
      refine lv_aload_n hx hb dX1_smoking_3 rfl (lv_at hl 1 rfl) ?_
      refine sgR G X 38 0 rfl rfl fl_X1_9 dX1_smoking_4 ?_
      refine sgR G X 2 1 rfl rfl fl_X1_37 dX1_smoking_7 ?_
      refine sgI G X 3 7 rfl rfl fl_X1_43 dX1_smoking_10 ?_
      refine sIge (tgt := 72) hx hb (rfl : Int32.toInt i = _) (rfl : Int32.toInt (V 3 7) = _) dX1_smoking_13 (by decide) (fun c13 => ?_) (fun c13 => ?_)
      · skip
        refine lv_iconst (v := 0) hx hb dX1_smoking_72 (by decide) ?_
        exact srI G X (rfl) dX1_smoking_73 (by exact ⟨⟨Or.inl rfl, fun _ => rfl⟩, rfl⟩)
      · skip
        refine lv_aload_n hx hb dX1_smoking_16 rfl (lv_at hl 1 rfl) ?_
        refine sgR G X 38 0 rfl rfl fl_X1_9 dX1_smoking_17 ?_
        refine sgR G X 2 1 rfl rfl fl_X1_37 dX1_smoking_20 ?_
        refine sgR G X 3 2 rfl rfl fl_X1_115 dX1_smoking_23 ?_
        refine lv_iload_n hx hb dX1_smoking_26 rfl (lv_at hl 0 rfl) ?_
        refine scSI (As := [.ref (a 6), .int i]) (rest := []) G X (k_at ha V 6 10 rfl (by first | decide | assumption) i) iy_X5_at ml_X1_52 rfl rfl hl.1 (by decide) (by decide) (Nat.le_of_ble_eq_true rfl) dX1_smoking_27 (fun y27 V27 H locs p27 X => ?_)
        obtain ⟨p27, z27⟩ := p27
        subst V27
        refine lv_bipush (v := 6) hx hb dX1_smoking_30 (by decide) ?_
        refine sIne (tgt := 39) hx hb (rfl : Int32.toInt y27 = _) (by decide : (6 : Int32).toInt = 6) dX1_smoking_32 (by decide) (fun c32 => ?_) (fun c32 => ?_)
        · skip
          refine lv_iconst (v := 0) hx hb dX1_smoking_39 (by decide) ?_
          refine lv_istore_n (lv' := [(2, .int 0), (1, .int i), (0, .ref (a 38))]) hx hb dX1_smoking_40 rfl hl (by decide) rfl (fun ls hl => ?_)
          refine lv_iload_n hx hb dX1_smoking_41 rfl (lv_at hl 0 rfl) ?_
          refine sZeq (tgt := 66) hx hb (by decide : (0 : Int32).toInt = 0) dX1_smoking_42 (by decide) (fun c42 => ?_) (fun c42 => ?_)
          · skip
            obtain ⟨x66, e66⟩ : ∃ y : Int32, y = i + (1) := ⟨_, rfl⟩
            refine lv_iinc (v := x66) (lv' := [(1, .int x66), (2, .int 0), (0, .ref (a 38))]) hx hb dX1_smoking_66 hl (k := 1) rfl (by rw [e66]; rfl) (by decide) rfl (fun ls hl => ?_)
            refine lv_goto (tgt := 2) hx hb dX1_smoking_69 (by decide) ?_
            exact ih2 x66 _ _ _ (by rw [i32_i e66 (by have := i32_hi (V 3 7); omega)]; omega) (by rw [i32_i e66 (by have := i32_hi (V 3 7); omega)]; omega) X (lv_sub hl [0, 2] rfl)
          · skip
            refine lv_aload_n hx hb dX1_smoking_45 rfl (lv_at hl 2 rfl) ?_
            refine sgR G X 38 1 rfl rfl fl_X1_15 dX1_smoking_46 ?_
            refine lv_iload_n hx hb dX1_smoking_49 rfl (lv_at hl 1 rfl) ?_
            refine scSI (As := [.ref (a 39), .int i]) (rest := []) G X (k_at ha V 39 10 rfl (by first | decide | assumption) i) iy_X5_at ml_X1_52 rfl rfl hl.1 (by decide) (by decide) (Nat.le_of_ble_eq_true rfl) dX1_smoking_50 (fun y50 V50 H locs p50 X => ?_)
            obtain ⟨p50, z50⟩ := p50
            subst V50
            refine sZle (tgt := 66) hx hb (rfl : Int32.toInt y50 = _) dX1_smoking_53 (by decide) (fun c53 => ?_) (fun c53 => ?_)
            · skip
              obtain ⟨x66, e66⟩ : ∃ y : Int32, y = i + (1) := ⟨_, rfl⟩
              refine lv_iinc (v := x66) (lv' := [(1, .int x66), (2, .int 0), (0, .ref (a 38))]) hx hb dX1_smoking_66 hl (k := 1) rfl (by rw [e66]; rfl) (by decide) rfl (fun ls hl => ?_)
              refine lv_goto (tgt := 2) hx hb dX1_smoking_69 (by decide) ?_
              exact ih2 x66 _ _ _ (by rw [i32_i e66 (by have := i32_hi (V 3 7); omega)]; omega) (by rw [i32_i e66 (by have := i32_hi (V 3 7); omega)]; omega) X (lv_sub hl [0, 2] rfl)
            · skip
              refine lv_aload_n hx hb dX1_smoking_56 rfl (lv_at hl 2 rfl) ?_
              refine lv_iload_n hx hb dX1_smoking_57 rfl (lv_at hl 1 rfl) ?_
              refine scI (ci := 1) (As := [.int i]) (rest := []) G X (k_flow ha V i) iy_X1_flowThrough ml_X1_94 rfl rfl rfl rfl hl.1 (by decide) (by decide) (Nat.le_of_ble_eq_true rfl) dX1_smoking_58 (fun y58 V58 H locs p58 X => ?_)
              obtain ⟨p58, z58⟩ := p58
              subst V58
              refine sZlt (tgt := 66) hx hb (rfl : Int32.toInt y58 = _) dX1_smoking_61 (by decide) (fun c61 => ?_) (fun c61 => ?_)
              · skip
                obtain ⟨x66, e66⟩ : ∃ y : Int32, y = i + (1) := ⟨_, rfl⟩
                refine lv_iinc (v := x66) (lv' := [(1, .int x66), (2, .int 0), (0, .ref (a 38))]) hx hb dX1_smoking_66 hl (k := 1) rfl (by rw [e66]; rfl) (by decide) rfl (fun ls hl => ?_)
                refine lv_goto (tgt := 2) hx hb dX1_smoking_69 (by decide) ?_
                exact ih2 x66 _ _ _ (by rw [i32_i e66 (by have := i32_hi (V 3 7); omega)]; omega) (by rw [i32_i e66 (by have := i32_hi (V 3 7); omega)]; omega) X (lv_sub hl [0, 2] rfl)
              · skip
                refine lv_iconst (v := 1) hx hb dX1_smoking_64 (by decide) ?_
                exact srI G X (rfl) dX1_smoking_65 (by exact ⟨⟨Or.inr rfl, fun h => by omega⟩, rfl⟩)
        · skip
          refine lv_iconst (v := 1) hx hb dX1_smoking_35 (by decide) ?_
          refine lv_goto (tgt := 40) hx hb dX1_smoking_36 (by decide) ?_
          refine lv_istore_n (lv' := [(2, .int 1), (1, .int i), (0, .ref (a 38))]) hx hb dX1_smoking_40 rfl hl (by decide) rfl (fun ls hl => ?_)
          refine lv_iload_n hx hb dX1_smoking_41 rfl (lv_at hl 0 rfl) ?_
          refine sZeq (tgt := 66) hx hb (by decide : (1 : Int32).toInt = 1) dX1_smoking_42 (by decide) (fun c42 => ?_) (fun c42 => ?_)
          · skip
            obtain ⟨x66, e66⟩ : ∃ y : Int32, y = i + (1) := ⟨_, rfl⟩
            refine lv_iinc (v := x66) (lv' := [(1, .int x66), (2, .int 1), (0, .ref (a 38))]) hx hb dX1_smoking_66 hl (k := 1) rfl (by rw [e66]; rfl) (by decide) rfl (fun ls hl => ?_)
            refine lv_goto (tgt := 2) hx hb dX1_smoking_69 (by decide) ?_
            exact ih2 x66 _ _ _ (by rw [i32_i e66 (by have := i32_hi (V 3 7); omega)]; omega) (by rw [i32_i e66 (by have := i32_hi (V 3 7); omega)]; omega) X (lv_sub hl [0, 2] rfl)
          · skip
            refine lv_aload_n hx hb dX1_smoking_45 rfl (lv_at hl 2 rfl) ?_
            refine sgR G X 38 1 rfl rfl fl_X1_15 dX1_smoking_46 ?_
            refine lv_iload_n hx hb dX1_smoking_49 rfl (lv_at hl 1 rfl) ?_
            refine scSI (As := [.ref (a 39), .int i]) (rest := []) G X (k_at ha V 39 10 rfl (by first | decide | assumption) i) iy_X5_at ml_X1_52 rfl rfl hl.1 (by decide) (by decide) (Nat.le_of_ble_eq_true rfl) dX1_smoking_50 (fun y50 V50 H locs p50 X => ?_)
            obtain ⟨p50, z50⟩ := p50
            subst V50
            refine sZle (tgt := 66) hx hb (rfl : Int32.toInt y50 = _) dX1_smoking_53 (by decide) (fun c53 => ?_) (fun c53 => ?_)
            · skip
              obtain ⟨x66, e66⟩ : ∃ y : Int32, y = i + (1) := ⟨_, rfl⟩
              refine lv_iinc (v := x66) (lv' := [(1, .int x66), (2, .int 1), (0, .ref (a 38))]) hx hb dX1_smoking_66 hl (k := 1) rfl (by rw [e66]; rfl) (by decide) rfl (fun ls hl => ?_)
              refine lv_goto (tgt := 2) hx hb dX1_smoking_69 (by decide) ?_
              exact ih2 x66 _ _ _ (by rw [i32_i e66 (by have := i32_hi (V 3 7); omega)]; omega) (by rw [i32_i e66 (by have := i32_hi (V 3 7); omega)]; omega) X (lv_sub hl [0, 2] rfl)
            · skip
              refine lv_aload_n hx hb dX1_smoking_56 rfl (lv_at hl 2 rfl) ?_
              refine lv_iload_n hx hb dX1_smoking_57 rfl (lv_at hl 1 rfl) ?_
              refine scI (ci := 1) (As := [.int i]) (rest := []) G X (k_flow ha V i) iy_X1_flowThrough ml_X1_94 rfl rfl rfl rfl hl.1 (by decide) (by decide) (Nat.le_of_ble_eq_true rfl) dX1_smoking_58 (fun y58 V58 H locs p58 X => ?_)
              obtain ⟨p58, z58⟩ := p58
              subst V58
              refine sZlt (tgt := 66) hx hb (rfl : Int32.toInt y58 = _) dX1_smoking_61 (by decide) (fun c61 => ?_) (fun c61 => ?_)
              · skip
                obtain ⟨x66, e66⟩ : ∃ y : Int32, y = i + (1) := ⟨_, rfl⟩
                refine lv_iinc (v := x66) (lv' := [(1, .int x66), (2, .int 1), (0, .ref (a 38))]) hx hb dX1_smoking_66 hl (k := 1) rfl (by rw [e66]; rfl) (by decide) rfl (fun ls hl => ?_)
                refine lv_goto (tgt := 2) hx hb dX1_smoking_69 (by decide) ?_
                exact ih2 x66 _ _ _ (by rw [i32_i e66 (by have := i32_hi (V 3 7); omega)]; omega) (by rw [i32_i e66 (by have := i32_hi (V 3 7); omega)]; omega) X (lv_sub hl [0, 2] rfl)
              · skip
                refine lv_iconst (v := 1) hx hb dX1_smoking_64 (by decide) ?_
                exact srI G X (rfl) dX1_smoking_65 (by exact ⟨⟨Or.inr rfl, fun h => by omega⟩, rfl⟩)
  exact L2 _ 0 _ _ _ (by decide) (Nat.lt_succ_self _) X (lv_sub hl [0, 1] rfl)
def q_throughRoom (V : sV) : Int32 → sV → Prop := fun x V1 => ((V 3 7).toInt ≤ 0 → x = 0) ∧ V1 = V
set_option maxRecDepth 100000 in
set_option maxHeartbeats 4000000 in
theorem k_throughRoom {l : Launch} {D : va_G} {cI : ClassId} {a : Nat → Nat} (ha : sInj SX a) (V : sV) (q : Int32) : sMI l D cI SX a V yX1_throughRoom cX1_throughRoom 4 .int 2 [.ref (a 38), .int q] (q_throughRoom V) := by
  refine sMIof ha (by decide +kernel) (Nat.le_of_ble_eq_true rfl) ?_
  intro p e s m below meth c ls G X hl
  obtain ⟨hx, hb, hml, hown, hts, hlocks, hr, hK⟩ := id G
  have hl : lv_has ls 4 [(0, .ref (a 38)), (1, .int q)] := hl
  refine lv_iconst (v := 0) hx hb dX1_throughRoom_0 (by decide) ?_
  refine lv_istore_n (lv' := [(2, .int 0), (0, .ref (a 38)), (1, .int q)]) hx hb dX1_throughRoom_1 rfl hl (by decide) rfl (fun ls hl => ?_)
  refine lv_iconst (v := 0) hx hb dX1_throughRoom_2 (by decide) ?_
  refine lv_istore_n (lv' := [(3, .int 0), (2, .int 0), (0, .ref (a 38)), (1, .int q)]) hx hb dX1_throughRoom_3 rfl hl (by decide) rfl (fun ls hl => ?_)
  have L4 : ∀ (fu4 : Nat) (i : Int32) (z : Int32) (H : Heap) (locs : List Loc) (ls : Array Slot), (0 ≤ i.toInt) → ((V 3 7).toInt ≤ 0 → z = 0) → (((V 3 7).toInt - i.toInt).toNat) < fu4 → sWS D cI SX a V s.heap H locs → lv_has ls 4 [(3, .int i), (2, .int z), (0, .ref (a 38)), (1, .int q)] → W p l e (rmD 2) s m ([.ref (a 38), .int q] : List Value).toArray below meth c H locs 0 0 (MQ below (va_Qi (q_throughRoom V) (fun V1 t => va_P D vwCl (sWd cI SX a V1) t.heap) (sA SX a s.heap.size)) ([.ref (a 38), .int q] : List Value).toArray s 0 0 (sA SX a s.heap.size)) (F0 m 4 ls []) := by
    intro fu4
    induction fu4 with
    | zero => intro i z H locs ls hi hz hm4; exact absurd hm4 (Nat.not_lt_zero _)
    | succ fu4 ih4 =>
      intro i z H locs ls hi hz hm4 X hl
      refine lv_iload_n hx hb dX1_throughRoom_4 rfl (lv_at hl 0 rfl) ?_
      refine lv_aload_n hx hb dX1_throughRoom_5 rfl (lv_at hl 2 rfl) ?_
      refine sgR G X 38 0 rfl rfl fl_X1_9 dX1_throughRoom_6 ?_
      refine sgR G X 2 1 rfl rfl fl_X1_37 dX1_throughRoom_9 ?_
      refine sgI G X 3 7 rfl rfl fl_X1_43 dX1_throughRoom_12 ?_
      refine sIge (tgt := 59) hx hb (rfl : Int32.toInt i = _) (rfl : Int32.toInt (V 3 7) = _) dX1_throughRoom_15 (by decide) (fun c15 => ?_) (fun c15 => ?_)
      · skip
        refine lv_iload_n hx hb dX1_throughRoom_59 rfl (lv_at hl 1 rfl) ?_
        exact srI G X (rfl) dX1_throughRoom_60 (by exact ⟨hz, rfl⟩)
      · skip
        refine lv_aload_n hx hb dX1_throughRoom_18 rfl (lv_at hl 2 rfl) ?_
        refine sgR G X 38 3 rfl rfl fl_X1_22 dX1_throughRoom_19 ?_
        refine lv_iload_n hx hb dX1_throughRoom_22 rfl (lv_at hl 0 rfl) ?_
        refine scSI (As := [.ref (a 41), .int i]) (rest := []) G X (k_at ha V 41 10 rfl (by first | decide | assumption) i) iy_X5_at ml_X1_52 rfl rfl hl.1 (by decide) (by decide) (Nat.le_of_ble_eq_true rfl) dX1_throughRoom_23 (fun y23 V23 H locs p23 X => ?_)
        obtain ⟨p23, z23⟩ := p23
        subst V23
        refine lv_iload_n hx hb dX1_throughRoom_26 rfl (lv_at hl 3 rfl) ?_
        refine sIeq (tgt := 42) hx hb (rfl : Int32.toInt y23 = _) (rfl : Int32.toInt q = _) dX1_throughRoom_27 (by decide) (fun c27 => ?_) (fun c27 => ?_)
        · skip
          refine lv_iload_n hx hb dX1_throughRoom_42 rfl (lv_at hl 1 rfl) ?_
          refine lv_aload_n hx hb dX1_throughRoom_43 rfl (lv_at hl 2 rfl) ?_
          refine lv_iload_n hx hb dX1_throughRoom_44 rfl (lv_at hl 0 rfl) ?_
          refine scI (ci := 1) (As := [.int i]) (rest := [.int z]) G X (k_flow ha V i) iy_X1_flowThrough ml_X1_94 rfl rfl rfl rfl hl.1 (by decide) (by decide) (Nat.le_of_ble_eq_true rfl) dX1_throughRoom_45 (fun y45 V45 H locs p45 X => ?_)
          obtain ⟨p45, z45⟩ := p45
          subst V45
          refine sAbs hx hb hml hl.1 hown hts mm_X1_104 (by decide) (Nat.le_of_ble_eq_true rfl) dX1_throughRoom_48 (fun x48 e48 => ?_)
          refine lv_iadd hx hb dX1_throughRoom_51 ?_
          refine lv_topi (fun x51 e51 => ?_)
          refine lv_istore_n (lv' := [(2, .int x51), (3, .int i), (0, .ref (a 38)), (1, .int q)]) hx hb dX1_throughRoom_52 rfl hl (by decide) rfl (fun ls hl => ?_)
          obtain ⟨x53, e53⟩ : ∃ y : Int32, y = i + (1) := ⟨_, rfl⟩
          refine lv_iinc (v := x53) (lv' := [(3, .int x53), (2, .int x51), (0, .ref (a 38)), (1, .int q)]) hx hb dX1_throughRoom_53 hl (k := 1) rfl (by rw [e53]; rfl) (by decide) rfl (fun ls hl => ?_)
          refine lv_goto (tgt := 4) hx hb dX1_throughRoom_56 (by decide) ?_
          exact ih4 x53 x51 _ _ _ (by rw [i32_i e53 (by have := i32_hi (V 3 7); omega)]; omega) (fun h => by omega) (by rw [i32_i e53 (by have := i32_hi (V 3 7); omega)]; omega) X (lv_sub hl [0, 1, 2, 3] rfl)
        · skip
          refine lv_aload_n hx hb dX1_throughRoom_30 rfl (lv_at hl 2 rfl) ?_
          refine sgR G X 38 2 rfl rfl fl_X1_19 dX1_throughRoom_31 ?_
          refine lv_iload_n hx hb dX1_throughRoom_34 rfl (lv_at hl 0 rfl) ?_
          refine scSI (As := [.ref (a 40), .int i]) (rest := []) G X (k_at ha V 40 10 rfl (by first | decide | assumption) i) iy_X5_at ml_X1_52 rfl rfl hl.1 (by decide) (by decide) (Nat.le_of_ble_eq_true rfl) dX1_throughRoom_35 (fun y35 V35 H locs p35 X => ?_)
          obtain ⟨p35, z35⟩ := p35
          subst V35
          refine lv_iload_n hx hb dX1_throughRoom_38 rfl (lv_at hl 3 rfl) ?_
          refine sIne (tgt := 53) hx hb (rfl : Int32.toInt y35 = _) (rfl : Int32.toInt q = _) dX1_throughRoom_39 (by decide) (fun c39 => ?_) (fun c39 => ?_)
          · skip
            obtain ⟨x53, e53⟩ : ∃ y : Int32, y = i + (1) := ⟨_, rfl⟩
            refine lv_iinc (v := x53) (lv' := [(3, .int x53), (2, .int z), (0, .ref (a 38)), (1, .int q)]) hx hb dX1_throughRoom_53 hl (k := 0) rfl (by rw [e53]; rfl) (by decide) rfl (fun ls hl => ?_)
            refine lv_goto (tgt := 4) hx hb dX1_throughRoom_56 (by decide) ?_
            exact ih4 x53 z _ _ _ (by rw [i32_i e53 (by have := i32_hi (V 3 7); omega)]; omega) (fun h => by omega) (by rw [i32_i e53 (by have := i32_hi (V 3 7); omega)]; omega) X (lv_sub hl [0, 1, 2, 3] rfl)
          · skip
            refine lv_iload_n hx hb dX1_throughRoom_42 rfl (lv_at hl 1 rfl) ?_
            refine lv_aload_n hx hb dX1_throughRoom_43 rfl (lv_at hl 2 rfl) ?_
            refine lv_iload_n hx hb dX1_throughRoom_44 rfl (lv_at hl 0 rfl) ?_
            refine scI (ci := 1) (As := [.int i]) (rest := [.int z]) G X (k_flow ha V i) iy_X1_flowThrough ml_X1_94 rfl rfl rfl rfl hl.1 (by decide) (by decide) (Nat.le_of_ble_eq_true rfl) dX1_throughRoom_45 (fun y45 V45 H locs p45 X => ?_)
            obtain ⟨p45, z45⟩ := p45
            subst V45
            refine sAbs hx hb hml hl.1 hown hts mm_X1_104 (by decide) (Nat.le_of_ble_eq_true rfl) dX1_throughRoom_48 (fun x48 e48 => ?_)
            refine lv_iadd hx hb dX1_throughRoom_51 ?_
            refine lv_topi (fun x51 e51 => ?_)
            refine lv_istore_n (lv' := [(2, .int x51), (3, .int i), (0, .ref (a 38)), (1, .int q)]) hx hb dX1_throughRoom_52 rfl hl (by decide) rfl (fun ls hl => ?_)
            obtain ⟨x53, e53⟩ : ∃ y : Int32, y = i + (1) := ⟨_, rfl⟩
            refine lv_iinc (v := x53) (lv' := [(3, .int x53), (2, .int x51), (0, .ref (a 38)), (1, .int q)]) hx hb dX1_throughRoom_53 hl (k := 1) rfl (by rw [e53]; rfl) (by decide) rfl (fun ls hl => ?_)
            refine lv_goto (tgt := 4) hx hb dX1_throughRoom_56 (by decide) ?_
            exact ih4 x53 x51 _ _ _ (by rw [i32_i e53 (by have := i32_hi (V 3 7); omega)]; omega) (fun h => by omega) (by rw [i32_i e53 (by have := i32_hi (V 3 7); omega)]; omega) X (lv_sub hl [0, 1, 2, 3] rfl)
  exact L4 _ 0 0 _ _ _ (by decide) (fun _ => rfl) (Nat.lt_succ_self _) X (lv_sub hl [0, 1, 2, 3] rfl)
end
section
theorem sQuiet.ag {V V' : sV} {L : List Nat} {r : Nat} (h : sQuiet V r) (hA : sAg L V V') (hr : r ∉ L) (h3 : 3 ∉ L) (h6 : 6 ∉ L) (h8 : 8 ∉ L) : sQuiet V' r := by
  unfold sQuiet
  rw [hA r hr, hA 3 h3, hA 6 h6, hA 8 h8]
  exact h
/-- a new object of the class, as far as its answers show -/
def sFr (V : sV) : Prop := V 3 7 = 0 ∧ V 15 1 = 0 ∧ V 45 0 = 0 ∧ V 11 3 = 0 ∧ V 2 0 = 2 ∧ V 16 1 = 0 ∧ V 18 1 = 0 ∧ V 0 2 = 0 ∧ (∀ j, V 1 j = 0) ∧ V 15 0 = 10 ∧ V 15 2 = 0 ∧ V 15 3 = 0
theorem sFr.many {V : sV} (h : sFr V) : (V 3 7).toInt ≤ 0 := by rw [h.1]; decide
theorem sFr.quiet {V : sV} (h : sFr V) : sQuiet V 15 := ⟨h.2.1, by rw [h.1]; decide, fun i h1 h2 => by rw [h.1] at h2; exact absurd h2 (by show ¬ i.toInt < 0; omega)⟩
def nowF (f : Nat → Int32) (w : Int32) : Int32 := if w.toInt = 0 then f 0 else if w.toInt = 1 then f 1 else if w.toInt = 2 then f 2 else f 3
def q_told2 (V : sV) : sV → Prop := fun V1 => sAg [2, 3, 4, 5, 6, 7, 8, 9, 10, 11, 12, 13, 14, 15, 16, 17, 18, 19] V V1 ∧ V1 15 0 = V 33 0 ∧ V1 15 1 = V 33 1 ∧ V1 15 2 = V 33 2 ∧ V1 15 3 = V 33 3
set_option maxRecDepth 100000 in
set_option maxHeartbeats 4000000 in
theorem k_told2 {l : Launch} {D : va_G} {cI : ClassId} {a : Nat → Nat} (ha : sInj SX a) (V : sV)  : sMV l D cI SX a V yX7_become cX7_become 2 2 [.ref (a 2), .ref (a 20)] (q_told2 V) := by
  refine sMVof ha (by decide +kernel) (Nat.le_of_ble_eq_true rfl) ?_
  intro p e s m below meth c ls G X hl
  obtain ⟨hx, hb, hml, hown, hts, hlocks, hr, hK⟩ := id G
  have hl : lv_has ls 2 [(0, .ref (a 2)), (1, .ref (a 20))] := hl
  refine lv_aload_n hx hb dX7_become_0 rfl (lv_at hl 0 rfl) ?_
  refine lv_aload_n hx hb dX7_become_1 rfl (lv_at hl 1 rfl) ?_
  refine sgI G X 20 0 rfl rfl fl_X7_9 dX7_become_2 ?_
  refine spI G X 2 0 rfl rfl fp_X7_9 dX7_become_5 (fun H locs X => ?_)
  refine lv_aload_n hx hb dX7_become_8 rfl (lv_at hl 0 rfl) ?_
  refine sgR G X 2 1 rfl rfl fl_X7_18 dX7_become_9 ?_
  refine lv_aload_n hx hb dX7_become_12 rfl (lv_at hl 1 rfl) ?_
  refine sgR G X 20 1 rfl rfl fl_X7_18 dX7_become_13 ?_
  refine scV (ci := 2) (As := [.ref (a 21)]) (rest := []) G X (k_oBecome ha (sUp V 2 (upd (V 2) 0 (V 20 0))) 3 4 5 6 7 8 9 10 rfl rfl rfl rfl rfl rfl rfl rfl 21 22 23 24 25 26 27 28 rfl rfl rfl rfl rfl rfl rfl rfl (by first | decide | assumption) (by first | decide | assumption) (by first | decide | assumption) (by first | decide | assumption) (by first | decide | assumption) (by first | decide | assumption) (by first | decide | assumption)) iy_X2_become ml_X7_51 rfl rfl rfl rfl hl.1 (by decide) (by decide) (Nat.le_of_ble_eq_true rfl) dX7_become_16 (fun V16 H locs p16 X => ?_)
  refine lv_aload_n hx hb dX7_become_19 rfl (lv_at hl 0 rfl) ?_
  refine sgR G X 2 2 rfl rfl fl_X7_25 dX7_become_20 ?_
  refine lv_aload_n hx hb dX7_become_23 rfl (lv_at hl 1 rfl) ?_
  refine sgR G X 20 2 rfl rfl fl_X7_25 dX7_become_24 ?_
  refine scV (ci := 7) (As := [.ref (a 29)]) (rest := []) G X (k_wBecome ha V16 11 12 13 14 rfl rfl rfl rfl 29 30 31 32 rfl rfl rfl rfl (by first | decide | assumption) (by first | decide | assumption) (by first | decide | assumption)) iy_X8_become ml_X7_55 rfl rfl rfl rfl hl.1 (by decide) (by decide) (Nat.le_of_ble_eq_true rfl) dX7_become_27 (fun V27 H locs p27 X => ?_)
  refine lv_aload_n hx hb dX7_become_30 rfl (lv_at hl 0 rfl) ?_
  refine sgR G X 2 3 rfl rfl fl_X7_32 dX7_become_31 ?_
  refine lv_aload_n hx hb dX7_become_34 rfl (lv_at hl 1 rfl) ?_
  refine sgR G X 20 3 rfl rfl fl_X7_32 dX7_become_35 ?_
  refine sgI G X 33 0 rfl rfl fl_X7_36 dX7_become_38 ?_
  refine lv_aload_n hx hb dX7_become_41 rfl (lv_at hl 1 rfl) ?_
  refine sgR G X 20 3 rfl rfl fl_X7_32 dX7_become_42 ?_
  refine sgI G X 33 1 rfl rfl fl_X7_58 dX7_become_45 ?_
  refine lv_aload_n hx hb dX7_become_48 rfl (lv_at hl 1 rfl) ?_
  refine sgR G X 20 3 rfl rfl fl_X7_32 dX7_become_49 ?_
  refine sgI G X 33 2 rfl rfl fl_X7_61 dX7_become_52 ?_
  refine lv_aload_n hx hb dX7_become_55 rfl (lv_at hl 1 rfl) ?_
  refine sgR G X 20 3 rfl rfl fl_X7_32 dX7_become_56 ?_
  refine sgI G X 33 3 rfl rfl fl_X7_64 dX7_become_59 ?_
  refine scV (ci := 0) (As := [.int (V27 33 0), .int (V27 33 1), .int (V27 33 2), .int (V27 33 3)]) (rest := []) G X (k_airBecome ha V27 15 rfl (V27 33 0) (V27 33 1) (V27 33 2) (V27 33 3)) iy_X0_become ml_X7_67 rfl rfl rfl rfl hl.1 (by decide) (by decide) (Nat.le_of_ble_eq_true rfl) dX7_become_62 (fun V62 H locs p62 X => ?_)
  refine lv_aload_n hx hb dX7_become_65 rfl (lv_at hl 0 rfl) ?_
  refine sgR G X 2 4 rfl rfl fl_X7_44 dX7_become_66 ?_
  refine lv_aload_n hx hb dX7_become_69 rfl (lv_at hl 1 rfl) ?_
  refine sgR G X 20 4 rfl rfl fl_X7_44 dX7_become_70 ?_
  refine scV (ci := 4) (As := [.ref (a 34)]) (rest := []) G X (k_rowBecome ha V62 16 17 80 rfl rfl (by first | decide | assumption) (by first | decide | assumption) 34 35 rfl rfl (by first | decide | assumption)) iy_X4_become ml_X7_70 rfl rfl rfl rfl hl.1 (by decide) (by decide) (Nat.le_of_ble_eq_true rfl) dX7_become_73 (fun V73 H locs p73 X => ?_)
  refine lv_aload_n hx hb dX7_become_76 rfl (lv_at hl 0 rfl) ?_
  refine sgR G X 2 5 rfl rfl fl_X7_48 dX7_become_77 ?_
  refine lv_aload_n hx hb dX7_become_80 rfl (lv_at hl 1 rfl) ?_
  refine sgR G X 20 5 rfl rfl fl_X7_48 dX7_become_81 ?_
  refine scV (ci := 4) (As := [.ref (a 36)]) (rest := []) G X (k_rowBecome ha V73 18 19 10 rfl rfl (by first | decide | assumption) (by first | decide | assumption) 36 37 rfl rfl (by first | decide | assumption)) iy_X4_become ml_X7_70 rfl rfl rfl rfl hl.1 (by decide) (by decide) (Nat.le_of_ble_eq_true rfl) dX7_become_84 (fun V84 H locs p84 X => ?_)
  exact srV G X dX7_become_87 (by (have hB : sAg [2, 3, 4, 5, 6, 7, 8, 9, 10, 11, 12, 13, 14] V V27 := ((sAg.rf.up (by decide)).tr ((sAg.mono p16 (by decide)).tr (sAg.mono p27 (by decide)))); have hC : sAg [16, 17, 18, 19] V62 V84 := ((sAg.mono p73 (by decide)).tr (sAg.mono p84 (by decide))); refine ⟨(hB.mono (by decide)).tr ((sAg.mono p62.1 (by decide)).tr (hC.mono (by decide))), ?_, ?_, ?_, ?_⟩ <;> rw [hC 15 (by decide)] <;> first | (rw [p62.2.1, hB 33 (by decide)]) | (rw [p62.2.2.1, hB 33 (by decide)]) | (rw [p62.2.2.2.1, hB 33 (by decide)]) | (rw [p62.2.2.2.2, hB 33 (by decide)])))
def q_told20 (V : sV) : sV → Prop := fun V1 => sAg [20, 21, 22, 23, 24, 25, 26, 27, 28, 29, 30, 31, 32, 33, 34, 35, 36, 37] V V1 ∧ V1 33 0 = V 15 0 ∧ V1 33 1 = V 15 1 ∧ V1 33 2 = V 15 2 ∧ V1 33 3 = V 15 3
set_option maxRecDepth 100000 in
set_option maxHeartbeats 4000000 in
theorem k_told20 {l : Launch} {D : va_G} {cI : ClassId} {a : Nat → Nat} (ha : sInj SX a) (V : sV)  : sMV l D cI SX a V yX7_become cX7_become 2 2 [.ref (a 20), .ref (a 2)] (q_told20 V) := by
  refine sMVof ha (by decide +kernel) (Nat.le_of_ble_eq_true rfl) ?_
  intro p e s m below meth c ls G X hl
  obtain ⟨hx, hb, hml, hown, hts, hlocks, hr, hK⟩ := id G
  have hl : lv_has ls 2 [(0, .ref (a 20)), (1, .ref (a 2))] := hl
  refine lv_aload_n hx hb dX7_become_0 rfl (lv_at hl 0 rfl) ?_
  refine lv_aload_n hx hb dX7_become_1 rfl (lv_at hl 1 rfl) ?_
  refine sgI G X 2 0 rfl rfl fl_X7_9 dX7_become_2 ?_
  refine spI G X 20 0 rfl rfl fp_X7_9 dX7_become_5 (fun H locs X => ?_)
  refine lv_aload_n hx hb dX7_become_8 rfl (lv_at hl 0 rfl) ?_
  refine sgR G X 20 1 rfl rfl fl_X7_18 dX7_become_9 ?_
  refine lv_aload_n hx hb dX7_become_12 rfl (lv_at hl 1 rfl) ?_
  refine sgR G X 2 1 rfl rfl fl_X7_18 dX7_become_13 ?_
  refine scV (ci := 2) (As := [.ref (a 3)]) (rest := []) G X (k_oBecome ha (sUp V 20 (upd (V 20) 0 (V 2 0))) 21 22 23 24 25 26 27 28 rfl rfl rfl rfl rfl rfl rfl rfl 3 4 5 6 7 8 9 10 rfl rfl rfl rfl rfl rfl rfl rfl (by first | decide | assumption) (by first | decide | assumption) (by first | decide | assumption) (by first | decide | assumption) (by first | decide | assumption) (by first | decide | assumption) (by first | decide | assumption)) iy_X2_become ml_X7_51 rfl rfl rfl rfl hl.1 (by decide) (by decide) (Nat.le_of_ble_eq_true rfl) dX7_become_16 (fun V16 H locs p16 X => ?_)
  refine lv_aload_n hx hb dX7_become_19 rfl (lv_at hl 0 rfl) ?_
  refine sgR G X 20 2 rfl rfl fl_X7_25 dX7_become_20 ?_
  refine lv_aload_n hx hb dX7_become_23 rfl (lv_at hl 1 rfl) ?_
  refine sgR G X 2 2 rfl rfl fl_X7_25 dX7_become_24 ?_
  refine scV (ci := 7) (As := [.ref (a 11)]) (rest := []) G X (k_wBecome ha V16 29 30 31 32 rfl rfl rfl rfl 11 12 13 14 rfl rfl rfl rfl (by first | decide | assumption) (by first | decide | assumption) (by first | decide | assumption)) iy_X8_become ml_X7_55 rfl rfl rfl rfl hl.1 (by decide) (by decide) (Nat.le_of_ble_eq_true rfl) dX7_become_27 (fun V27 H locs p27 X => ?_)
  refine lv_aload_n hx hb dX7_become_30 rfl (lv_at hl 0 rfl) ?_
  refine sgR G X 20 3 rfl rfl fl_X7_32 dX7_become_31 ?_
  refine lv_aload_n hx hb dX7_become_34 rfl (lv_at hl 1 rfl) ?_
  refine sgR G X 2 3 rfl rfl fl_X7_32 dX7_become_35 ?_
  refine sgI G X 15 0 rfl rfl fl_X7_36 dX7_become_38 ?_
  refine lv_aload_n hx hb dX7_become_41 rfl (lv_at hl 1 rfl) ?_
  refine sgR G X 2 3 rfl rfl fl_X7_32 dX7_become_42 ?_
  refine sgI G X 15 1 rfl rfl fl_X7_58 dX7_become_45 ?_
  refine lv_aload_n hx hb dX7_become_48 rfl (lv_at hl 1 rfl) ?_
  refine sgR G X 2 3 rfl rfl fl_X7_32 dX7_become_49 ?_
  refine sgI G X 15 2 rfl rfl fl_X7_61 dX7_become_52 ?_
  refine lv_aload_n hx hb dX7_become_55 rfl (lv_at hl 1 rfl) ?_
  refine sgR G X 2 3 rfl rfl fl_X7_32 dX7_become_56 ?_
  refine sgI G X 15 3 rfl rfl fl_X7_64 dX7_become_59 ?_
  refine scV (ci := 0) (As := [.int (V27 15 0), .int (V27 15 1), .int (V27 15 2), .int (V27 15 3)]) (rest := []) G X (k_airBecome ha V27 33 rfl (V27 15 0) (V27 15 1) (V27 15 2) (V27 15 3)) iy_X0_become ml_X7_67 rfl rfl rfl rfl hl.1 (by decide) (by decide) (Nat.le_of_ble_eq_true rfl) dX7_become_62 (fun V62 H locs p62 X => ?_)
  refine lv_aload_n hx hb dX7_become_65 rfl (lv_at hl 0 rfl) ?_
  refine sgR G X 20 4 rfl rfl fl_X7_44 dX7_become_66 ?_
  refine lv_aload_n hx hb dX7_become_69 rfl (lv_at hl 1 rfl) ?_
  refine sgR G X 2 4 rfl rfl fl_X7_44 dX7_become_70 ?_
  refine scV (ci := 4) (As := [.ref (a 16)]) (rest := []) G X (k_rowBecome ha V62 34 35 80 rfl rfl (by first | decide | assumption) (by first | decide | assumption) 16 17 rfl rfl (by first | decide | assumption)) iy_X4_become ml_X7_70 rfl rfl rfl rfl hl.1 (by decide) (by decide) (Nat.le_of_ble_eq_true rfl) dX7_become_73 (fun V73 H locs p73 X => ?_)
  refine lv_aload_n hx hb dX7_become_76 rfl (lv_at hl 0 rfl) ?_
  refine sgR G X 20 5 rfl rfl fl_X7_48 dX7_become_77 ?_
  refine lv_aload_n hx hb dX7_become_80 rfl (lv_at hl 1 rfl) ?_
  refine sgR G X 2 5 rfl rfl fl_X7_48 dX7_become_81 ?_
  refine scV (ci := 4) (As := [.ref (a 18)]) (rest := []) G X (k_rowBecome ha V73 36 37 10 rfl rfl (by first | decide | assumption) (by first | decide | assumption) 18 19 rfl rfl (by first | decide | assumption)) iy_X4_become ml_X7_70 rfl rfl rfl rfl hl.1 (by decide) (by decide) (Nat.le_of_ble_eq_true rfl) dX7_become_84 (fun V84 H locs p84 X => ?_)
  exact srV G X dX7_become_87 (by (have hB : sAg [20, 21, 22, 23, 24, 25, 26, 27, 28, 29, 30, 31, 32] V V27 := ((sAg.rf.up (by decide)).tr ((sAg.mono p16 (by decide)).tr (sAg.mono p27 (by decide)))); have hC : sAg [34, 35, 36, 37] V62 V84 := ((sAg.mono p73 (by decide)).tr (sAg.mono p84 (by decide))); refine ⟨(hB.mono (by decide)).tr ((sAg.mono p62.1 (by decide)).tr (hC.mono (by decide))), ?_, ?_, ?_, ?_⟩ <;> rw [hC 33 (by decide)] <;> first | (rw [p62.2.1, hB 15 (by decide)]) | (rw [p62.2.2.1, hB 15 (by decide)]) | (rw [p62.2.2.2.1, hB 15 (by decide)]) | (rw [p62.2.2.2.2, hB 15 (by decide)])))
def q_draw (V : sV) : Int32 → sV → Prop := fun x V1 => sAg [49] V V1
set_option maxRecDepth 100000 in
set_option maxHeartbeats 4000000 in
theorem k_draw {l : Launch} {D : va_G} {cI : ClassId} {a : Nat → Nat} (ha : sInj SX a) (V : sV) (q : Int32) : sMI l D cI SX a V yX6_draw cX6_draw 2 .int 0 [.ref (a 49), .int q] (q_draw V) := by
  refine sMIof ha (by decide +kernel) (Nat.le_of_ble_eq_true rfl) ?_
  intro p e s m below meth c ls G X hl
  obtain ⟨hx, hb, hml, hown, hts, hlocks, hr, hK⟩ := id G
  have hl : lv_has ls 2 [(0, .ref (a 49)), (1, .int q)] := hl
  refine lv_aload_n hx hb dX6_draw_0 rfl (lv_at hl 0 rfl) ?_
  refine lv_aload_n hx hb dX6_draw_1 rfl (lv_at hl 0 rfl) ?_
  refine sgI G X 49 0 rfl rfl fl_X6_7 dX6_draw_2 ?_
  refine lv_ldc hx hb hown (hts _ kc_X6_13) dX6_draw_5 ?_
  refine lv_imul hx hb dX6_draw_7 ?_
  refine lv_topi (fun x7 e7 => ?_)
  refine lv_ldc hx hb hown (hts _ kc_X6_14) dX6_draw_8 ?_
  refine lv_iadd hx hb dX6_draw_10 ?_
  refine lv_topi (fun x10 e10 => ?_)
  refine spI G X 49 0 rfl rfl fp_X6_7 dX6_draw_11 (fun H locs X => ?_)
  refine lv_iload_n hx hb dX6_draw_14 rfl (lv_at hl 1 rfl) ?_
  refine sZle (tgt := 34) hx hb (rfl : Int32.toInt q = _) dX6_draw_15 (by decide) (fun c15 => ?_) (fun c15 => ?_)
  · skip
    refine lv_iconst (v := 0) hx hb dX6_draw_34 (by decide) ?_
    exact srI G X (rfl) dX6_draw_35 (by exact (sAg.rf.up (by simp)))
  · skip
    refine lv_aload_n hx hb dX6_draw_18 rfl (lv_at hl 0 rfl) ?_
    refine sgI G X 49 0 rfl rfl fl_X6_7 dX6_draw_19 ?_
    refine sTop (y := x10) rfl ?_
    refine lv_ldc hx hb hown (hts _ kc_X6_15) dX6_draw_22 ?_
    refine lv_iand hx hb dX6_draw_24 ?_
    refine lv_topi (fun x24 e24 => ?_)
    refine lv_sipush (v := 256) hx hb dX6_draw_25 (by decide) ?_
    refine lv_idiv hx hb dX6_draw_28 (by decide) ?_
    refine lv_topi (fun x28 e28 => ?_)
    refine lv_iload_n hx hb dX6_draw_29 rfl (lv_at hl 1 rfl) ?_
    refine lv_irem hx hb dX6_draw_30 (by intro h; rw [h, Int32.toInt_zero] at c15; omega) ?_
    refine lv_topi (fun x30 e30 => ?_)
    refine lv_goto (tgt := 35) hx hb dX6_draw_31 (by decide) ?_
    exact srI G X (rfl) dX6_draw_35 (by exact (sAg.rf.up (by simp)))
def q_refuse (V : sV) (q : Int32) : Int32 → sV → Prop := fun x V1 => sAg [1] V V1 ∧ x = q
set_option maxRecDepth 100000 in
set_option maxHeartbeats 4000000 in
theorem k_refuse {l : Launch} {D : va_G} {cI : ClassId} {a : Nat → Nat} (ha : sInj SX a) (V : sV) (q : Int32) : sMI l D cI SX a V yX9_refuse cX9_refuse 2 .int 1 [.ref (a 0), .int q] (q_refuse V q) := by
  refine sMIof ha (by decide +kernel) (Nat.le_of_ble_eq_true rfl) ?_
  intro p e s m below meth c ls G X hl
  obtain ⟨hx, hb, hml, hown, hts, hlocks, hr, hK⟩ := id G
  have hl : lv_has ls 2 [(0, .ref (a 0)), (1, .int q)] := hl
  refine lv_aload_n hx hb dX9_refuse_0 rfl (lv_at hl 0 rfl) ?_
  refine sgR G X 0 7 rfl rfl fl_X9_53 dX9_refuse_1 ?_
  refine lv_iload_n hx hb dX9_refuse_4 rfl (lv_at hl 1 rfl) ?_
  refine lv_ineg hx hb dX9_refuse_5 ?_
  refine lv_topi (fun x5 e5 => ?_)
  refine lv_aload_n hx hb dX9_refuse_6 rfl (lv_at hl 0 rfl) ?_
  refine sgR G X 0 7 rfl rfl fl_X9_53 dX9_refuse_7 ?_
  refine lv_iload_n hx hb dX9_refuse_10 rfl (lv_at hl 1 rfl) ?_
  refine lv_ineg hx hb dX9_refuse_11 ?_
  refine lv_topi (fun x11 e11 => ?_)
  refine scSI (As := [.ref (a 1), .int x11]) (rest := [.int x5, .ref (a 1)]) G X (k_at ha V 1 7 rfl (by first | decide | assumption) x11) iy_X5_at ml_X9_102 rfl rfl hl.1 (by decide) (by decide) (Nat.le_of_ble_eq_true rfl) dX9_refuse_12 (fun y12 V12 H locs p12 X => ?_)
  obtain ⟨p12, z12⟩ := p12
  subst V12
  refine lv_iconst (v := 1) hx hb dX9_refuse_15 (by decide) ?_
  refine lv_iadd hx hb dX9_refuse_16 ?_
  refine lv_topi (fun x16 e16 => ?_)
  refine scSV (As := [.ref (a 1), .int x5, .int x16]) (rest := []) G X (k_put ha V 1 7 rfl (by first | decide | assumption) x5 x16) iy_X5_put ml_X9_158 rfl rfl hl.1 (by decide) (by decide) (Nat.le_of_ble_eq_true rfl) dX9_refuse_17 (fun V17 H locs p17 X => ?_)
  refine lv_iload_n hx hb dX9_refuse_20 rfl (lv_at hl 1 rfl) ?_
  exact srI G X (rfl) dX9_refuse_21 (by exact ⟨by rw [show V17 = _ from p17]; exact sAg.rf.up (by simp), rfl⟩)
def q_refuseFar (V : sV) (q : Int32) : Int32 → sV → Prop := fun x V1 => sAg [1] V V1 ∧ x = 1000000000 - q
set_option maxRecDepth 100000 in
set_option maxHeartbeats 4000000 in
theorem k_refuseFar {l : Launch} {D : va_G} {cI : ClassId} {a : Nat → Nat} (ha : sInj SX a) (V : sV) (q : Int32) : sMI l D cI SX a V yX9_refuseFar cX9_refuseFar 2 .int 2 [.ref (a 0), .int q] (q_refuseFar V q) := by
  refine sMIof ha (by decide +kernel) (Nat.le_of_ble_eq_true rfl) ?_
  intro p e s m below meth c ls G X hl
  obtain ⟨hx, hb, hml, hown, hts, hlocks, hr, hK⟩ := id G
  have hl : lv_has ls 2 [(0, .ref (a 0)), (1, .int q)] := hl
  refine lv_ldc hx hb hown (hts _ kc_X9_254) dX9_refuseFar_0 ?_
  refine lv_aload_n hx hb dX9_refuseFar_2 rfl (lv_at hl 0 rfl) ?_
  refine lv_iload_n hx hb dX9_refuseFar_3 rfl (lv_at hl 1 rfl) ?_
  refine scI (ci := 8) (As := [.int q]) (rest := [.int 1000000000]) G X (k_refuse ha V q) iy_X9_refuse ml_X9_57 rfl rfl rfl rfl hl.1 (by decide) (by decide) (Nat.le_of_ble_eq_true rfl) dX9_refuseFar_4 (fun y4 V4 H locs p4 X => ?_)
  refine lv_isub hx hb dX9_refuseFar_7 ?_
  refine lv_topi (fun x7 e7 => ?_)
  exact srI G X (rfl) dX9_refuseFar_8 (by exact ⟨p4.1, by rw [e7, p4.2]⟩)
def q_nowOf (V : sV) (q : Int32) : Int32 → sV → Prop := fun x V1 => x = nowF (V 15) q ∧ V1 = V
set_option maxRecDepth 100000 in
set_option maxHeartbeats 4000000 in
theorem k_nowOf {l : Launch} {D : va_G} {cI : ClassId} {a : Nat → Nat} (ha : sInj SX a) (V : sV) (q : Int32) : sMI l D cI SX a V yX9_nowOf cX9_nowOf 2 .int 0 [.ref (a 0), .int q] (q_nowOf V q) := by
  refine sMIof ha (by decide +kernel) (Nat.le_of_ble_eq_true rfl) ?_
  intro p e s m below meth c ls G X hl
  obtain ⟨hx, hb, hml, hown, hts, hlocks, hr, hK⟩ := id G
  have hl : lv_has ls 2 [(0, .ref (a 0)), (1, .int q)] := hl
  refine lv_iload_n hx hb dX9_nowOf_0 rfl (lv_at hl 1 rfl) ?_
  by_cases hs1 : Int32.toInt q < 0 ∨ 2 < Int32.toInt q
  · refine lv_tableOut (tgt := 61) hx hb dX9_nowOf_1 hs1 (by decide) ?_
    refine lv_aload_n hx hb dX9_nowOf_61 rfl (lv_at hl 0 rfl) ?_
    refine sgR G X 0 0 rfl rfl fl_X9_10 dX9_nowOf_62 ?_
    refine sgR G X 2 3 rfl rfl fl_X9_143 dX9_nowOf_65 ?_
    refine sgI G X 15 3 rfl rfl fl_X9_152 dX9_nowOf_68 ?_
    exact srI G X (rfl) dX9_nowOf_71 (by exact ⟨by unfold nowF; rw [if_neg (by omega), if_neg (by omega), if_neg (by omega)], rfl⟩)
  by_cases hs1_0 : Int32.toInt q = 0
  · refine lv_tableIn (tgt := 28) (off := 27) hx hb dX9_nowOf_1 (by rw [hs1_0]; decide) (by rw [hs1_0]; decide) (by rw [hs1_0]; rfl) (by decide) ?_
    refine lv_aload_n hx hb dX9_nowOf_28 rfl (lv_at hl 0 rfl) ?_
    refine sgR G X 0 0 rfl rfl fl_X9_10 dX9_nowOf_29 ?_
    refine sgR G X 2 3 rfl rfl fl_X9_143 dX9_nowOf_32 ?_
    refine sgI G X 15 0 rfl rfl fl_X9_146 dX9_nowOf_35 ?_
    exact srI G X (rfl) dX9_nowOf_38 (by exact ⟨by unfold nowF; rw [if_pos hs1_0], rfl⟩)
  by_cases hs1_1 : Int32.toInt q = 1
  · refine lv_tableIn (tgt := 39) (off := 38) hx hb dX9_nowOf_1 (by rw [hs1_1]; decide) (by rw [hs1_1]; decide) (by rw [hs1_1]; rfl) (by decide) ?_
    refine lv_aload_n hx hb dX9_nowOf_39 rfl (lv_at hl 0 rfl) ?_
    refine sgR G X 0 0 rfl rfl fl_X9_10 dX9_nowOf_40 ?_
    refine sgR G X 2 3 rfl rfl fl_X9_143 dX9_nowOf_43 ?_
    refine sgI G X 15 1 rfl rfl fl_X9_148 dX9_nowOf_46 ?_
    exact srI G X (rfl) dX9_nowOf_49 (by exact ⟨by unfold nowF; rw [if_neg hs1_0, if_pos hs1_1], rfl⟩)
  by_cases hs1_2 : Int32.toInt q = 2
  · refine lv_tableIn (tgt := 50) (off := 49) hx hb dX9_nowOf_1 (by rw [hs1_2]; decide) (by rw [hs1_2]; decide) (by rw [hs1_2]; rfl) (by decide) ?_
    refine lv_aload_n hx hb dX9_nowOf_50 rfl (lv_at hl 0 rfl) ?_
    refine sgR G X 0 0 rfl rfl fl_X9_10 dX9_nowOf_51 ?_
    refine sgR G X 2 3 rfl rfl fl_X9_143 dX9_nowOf_54 ?_
    refine sgI G X 15 2 rfl rfl fl_X9_150 dX9_nowOf_57 ?_
    exact srI G X (rfl) dX9_nowOf_60 (by exact ⟨by unfold nowF; rw [if_neg hs1_0, if_neg hs1_1, if_pos hs1_2], rfl⟩)
  exact absurd hs1 (by omega)
def q_settleNow (V : sV) : sV → Prop := fun V1 => sAg [39, 40, 41, 42, 43, 44] V V1 ∧ (sQuiet V 15 → V 45 0 = 0 → sCalm V1)
set_option maxRecDepth 100000 in
set_option maxHeartbeats 4000000 in
theorem k_settleNow {l : Launch} {D : va_G} {cI : ClassId} {a : Nat → Nat} (ha : sInj SX a) (V : sV) (q : Int32) : sMV l D cI SX a V yX9_settleNow cX9_settleNow 2 4 [.ref (a 0), .int q] (q_settleNow V) := by
  refine sMVof ha (by decide +kernel) (Nat.le_of_ble_eq_true rfl) ?_
  intro p e s m below meth c ls G X hl
  obtain ⟨hx, hb, hml, hown, hts, hlocks, hr, hK⟩ := id G
  have hl : lv_has ls 2 [(0, .ref (a 0)), (1, .int q)] := hl
  refine lv_aload_n hx hb dX9_settleNow_0 rfl (lv_at hl 0 rfl) ?_
  refine sgR G X 0 3 rfl rfl fl_X9_28 dX9_settleNow_1 ?_
  refine lv_iload_n hx hb dX9_settleNow_4 rfl (lv_at hl 1 rfl) ?_
  refine scV (ci := 1) (As := [.int q]) (rest := []) G X (k_takeSizes ha V q) iy_X1_takeSizes ml_X9_217 rfl rfl rfl rfl hl.1 (by decide) (by decide) (Nat.le_of_ble_eq_true rfl) dX9_settleNow_5 (fun V5 H locs p5 X => ?_)
  refine lv_aload_n hx hb dX9_settleNow_8 rfl (lv_at hl 0 rfl) ?_
  refine sgR G X 0 3 rfl rfl fl_X9_28 dX9_settleNow_9 ?_
  refine lv_aload_n hx hb dX9_settleNow_12 rfl (lv_at hl 0 rfl) ?_
  refine sgR G X 0 0 rfl rfl fl_X9_10 dX9_settleNow_13 ?_
  refine sgR G X 2 3 rfl rfl fl_X9_143 dX9_settleNow_16 ?_
  refine scV (ci := 1) (As := [.ref (a 15)]) (rest := []) G X (k_settle ha V5 15 rfl (by first | decide | assumption)) iy_X1_settle ml_X9_220 rfl rfl rfl rfl hl.1 (by decide) (by decide) (Nat.le_of_ble_eq_true rfl) dX9_settleNow_19 (fun V19 H locs p19 X => ?_)
  exact srV G X dX9_settleNow_22 (by (have hA : sAg [39] V V5 := p5; exact ⟨((sAg.mono p5 (by decide)).tr (sAg.mono p19.1 (by decide))), fun hQ h0 => p19.2 (hQ.ag hA (by decide) (by decide) (by decide) (by decide)) (by rw [hA 45 (by decide)]; exact h0)⟩))
def q_settleSized (V : sV) : sV → Prop := fun V1 => sAg [39, 40, 41, 42, 43, 44] V V1
set_option maxRecDepth 100000 in
set_option maxHeartbeats 4000000 in
theorem k_settleSized {l : Launch} {D : va_G} {cI : ClassId} {a : Nat → Nat} (ha : sInj SX a) (V : sV) (i1 i2 : Int32) : sMV l D cI SX a V yX9_settleSized cX9_settleSized 3 4 [.ref (a 0), .int i1, .int i2] (q_settleSized V) := by
  refine sMVof ha (by decide +kernel) (Nat.le_of_ble_eq_true rfl) ?_
  intro p e s m below meth c ls G X hl
  obtain ⟨hx, hb, hml, hown, hts, hlocks, hr, hK⟩ := id G
  have hl : lv_has ls 3 [(0, .ref (a 0)), (1, .int i1), (2, .int i2)] := hl
  refine lv_aload_n hx hb dX9_settleSized_0 rfl (lv_at hl 0 rfl) ?_
  refine sgR G X 0 3 rfl rfl fl_X9_28 dX9_settleSized_1 ?_
  refine lv_iconst (v := 0) hx hb dX9_settleSized_4 (by decide) ?_
  refine scV (ci := 1) (As := [.int 0]) (rest := []) G X (k_takeSizes ha V 0) iy_X1_takeSizes ml_X9_217 rfl rfl rfl rfl hl.1 (by decide) (by decide) (Nat.le_of_ble_eq_true rfl) dX9_settleSized_5 (fun V5 H locs p5 X => ?_)
  refine lv_aload_n hx hb dX9_settleSized_8 rfl (lv_at hl 0 rfl) ?_
  refine sgR G X 0 3 rfl rfl fl_X9_28 dX9_settleSized_9 ?_
  refine lv_iload_n hx hb dX9_settleSized_12 rfl (lv_at hl 1 rfl) ?_
  refine lv_iload_n hx hb dX9_settleSized_13 rfl (lv_at hl 2 rfl) ?_
  refine scV (ci := 1) (As := [.int i1, .int i2]) (rest := []) G X (k_changeSize ha V5 i1 i2) iy_X1_changeSize ml_X9_255 rfl rfl rfl rfl hl.1 (by decide) (by decide) (Nat.le_of_ble_eq_true rfl) dX9_settleSized_14 (fun V14 H locs p14 X => ?_)
  refine lv_aload_n hx hb dX9_settleSized_17 rfl (lv_at hl 0 rfl) ?_
  refine sgR G X 0 3 rfl rfl fl_X9_28 dX9_settleSized_18 ?_
  refine lv_aload_n hx hb dX9_settleSized_21 rfl (lv_at hl 0 rfl) ?_
  refine sgR G X 0 0 rfl rfl fl_X9_10 dX9_settleSized_22 ?_
  refine sgR G X 2 3 rfl rfl fl_X9_143 dX9_settleSized_25 ?_
  refine scV (ci := 1) (As := [.ref (a 15)]) (rest := []) G X (k_settle ha V14 15 rfl (by first | decide | assumption)) iy_X1_settle ml_X9_220 rfl rfl rfl rfl hl.1 (by decide) (by decide) (Nat.le_of_ble_eq_true rfl) dX9_settleSized_28 (fun V28 H locs p28 X => ?_)
  exact srV G X dX9_settleSized_31 (by exact (((sAg.mono p5 (by decide)).tr (sAg.mono p14 (by decide))).tr (sAg.mono p28.1 (by decide))))
def q_settleInWeather (V : sV) : sV → Prop := fun V1 => sAg [39, 40, 41, 42, 43, 44, 50] V V1
set_option maxRecDepth 100000 in
set_option maxHeartbeats 4000000 in
theorem k_settleInWeather {l : Launch} {D : va_G} {cI : ClassId} {a : Nat → Nat} (ha : sInj SX a) (V : sV) (i : Int32) : sMV l D cI SX a V yX9_settleInWeather cX9_settleInWeather 2 4 [.ref (a 0), .int i] (q_settleInWeather V) := by
  refine sMVof ha (by decide +kernel) (Nat.le_of_ble_eq_true rfl) ?_
  intro p e s m below meth c ls G X hl
  obtain ⟨hx, hb, hml, hown, hts, hlocks, hr, hK⟩ := id G
  have hl : lv_has ls 2 [(0, .ref (a 0)), (1, .int i)] := hl
  refine lv_aload_n hx hb dX9_settleInWeather_0 rfl (lv_at hl 0 rfl) ?_
  refine sgR G X 0 6 rfl rfl fl_X9_49 dX9_settleInWeather_1 ?_
  refine lv_aload_n hx hb dX9_settleInWeather_4 rfl (lv_at hl 0 rfl) ?_
  refine sgR G X 0 0 rfl rfl fl_X9_10 dX9_settleInWeather_5 ?_
  refine sgR G X 2 2 rfl rfl fl_X9_126 dX9_settleInWeather_8 ?_
  refine sgR G X 11 0 rfl rfl fl_X9_133 dX9_settleInWeather_11 ?_
  refine lv_iload_n hx hb dX9_settleInWeather_14 rfl (lv_at hl 1 rfl) ?_
  refine scSI (As := [.ref (a 12), .int i]) (rest := [.ref (a 50)]) G X (k_at ha V 12 4 rfl (by first | decide | assumption) i) iy_X5_at ml_X9_102 rfl rfl hl.1 (by decide) (by decide) (Nat.le_of_ble_eq_true rfl) dX9_settleInWeather_15 (fun y15 V15 H locs p15 X => ?_)
  obtain ⟨p15, z15⟩ := p15
  subst V15
  refine lv_aload_n hx hb dX9_settleInWeather_18 rfl (lv_at hl 0 rfl) ?_
  refine sgR G X 0 0 rfl rfl fl_X9_10 dX9_settleInWeather_19 ?_
  refine sgR G X 2 2 rfl rfl fl_X9_126 dX9_settleInWeather_22 ?_
  refine sgR G X 11 1 rfl rfl fl_X9_136 dX9_settleInWeather_25 ?_
  refine lv_iload_n hx hb dX9_settleInWeather_28 rfl (lv_at hl 1 rfl) ?_
  refine scSI (As := [.ref (a 13), .int i]) (rest := [.int y15, .ref (a 50)]) G X (k_at ha V 13 4 rfl (by first | decide | assumption) i) iy_X5_at ml_X9_102 rfl rfl hl.1 (by decide) (by decide) (Nat.le_of_ble_eq_true rfl) dX9_settleInWeather_29 (fun y29 V29 H locs p29 X => ?_)
  obtain ⟨p29, z29⟩ := p29
  subst V29
  refine lv_aload_n hx hb dX9_settleInWeather_32 rfl (lv_at hl 0 rfl) ?_
  refine sgR G X 0 0 rfl rfl fl_X9_10 dX9_settleInWeather_33 ?_
  refine sgR G X 2 2 rfl rfl fl_X9_126 dX9_settleInWeather_36 ?_
  refine sgR G X 11 2 rfl rfl fl_X9_139 dX9_settleInWeather_39 ?_
  refine lv_iload_n hx hb dX9_settleInWeather_42 rfl (lv_at hl 1 rfl) ?_
  refine scSI (As := [.ref (a 14), .int i]) (rest := [.int y29, .int y15, .ref (a 50)]) G X (k_at ha V 14 4 rfl (by first | decide | assumption) i) iy_X5_at ml_X9_102 rfl rfl hl.1 (by decide) (by decide) (Nat.le_of_ble_eq_true rfl) dX9_settleInWeather_43 (fun y43 V43 H locs p43 X => ?_)
  obtain ⟨p43, z43⟩ := p43
  subst V43
  refine lv_aload_n hx hb dX9_settleInWeather_46 rfl (lv_at hl 0 rfl) ?_
  refine sgR G X 0 0 rfl rfl fl_X9_10 dX9_settleInWeather_47 ?_
  refine sgR G X 2 3 rfl rfl fl_X9_143 dX9_settleInWeather_50 ?_
  refine sgI G X 15 3 rfl rfl fl_X9_152 dX9_settleInWeather_53 ?_
  refine scV (ci := 0) (As := [.int y15, .int y29, .int y43, .int (V 15 3)]) (rest := []) G X (k_airBecome ha V 50 rfl y15 y29 y43 (V 15 3)) iy_X0_become ml_X9_213 rfl rfl rfl rfl hl.1 (by decide) (by decide) (Nat.le_of_ble_eq_true rfl) dX9_settleInWeather_56 (fun V56 H locs p56 X => ?_)
  refine lv_aload_n hx hb dX9_settleInWeather_59 rfl (lv_at hl 0 rfl) ?_
  refine sgR G X 0 3 rfl rfl fl_X9_28 dX9_settleInWeather_60 ?_
  refine lv_iconst (v := 0) hx hb dX9_settleInWeather_63 (by decide) ?_
  refine scV (ci := 1) (As := [.int 0]) (rest := []) G X (k_takeSizes ha V56 0) iy_X1_takeSizes ml_X9_217 rfl rfl rfl rfl hl.1 (by decide) (by decide) (Nat.le_of_ble_eq_true rfl) dX9_settleInWeather_64 (fun V64 H locs p64 X => ?_)
  refine lv_aload_n hx hb dX9_settleInWeather_67 rfl (lv_at hl 0 rfl) ?_
  refine sgR G X 0 3 rfl rfl fl_X9_28 dX9_settleInWeather_68 ?_
  refine lv_aload_n hx hb dX9_settleInWeather_71 rfl (lv_at hl 0 rfl) ?_
  refine sgR G X 0 6 rfl rfl fl_X9_49 dX9_settleInWeather_72 ?_
  refine scV (ci := 1) (As := [.ref (a 50)]) (rest := []) G X (k_settle ha V64 50 rfl (by first | decide | assumption)) iy_X1_settle ml_X9_220 rfl rfl rfl rfl hl.1 (by decide) (by decide) (Nat.le_of_ble_eq_true rfl) dX9_settleInWeather_75 (fun V75 H locs p75 X => ?_)
  exact srV G X dX9_settleInWeather_78 (by exact (((sAg.mono p56.1 (by decide)).tr (sAg.mono p64 (by decide))).tr (sAg.mono p75.1 (by decide))))
def q_coalWithout (V : sV) : Int32 → sV → Prop := fun x V1 => sAg [39, 40, 41, 42, 43, 44] V V1 ∧ (sQuiet V 15 → V 45 0 = 0 → x = 0)
set_option maxRecDepth 100000 in
set_option maxHeartbeats 4000000 in
theorem k_coalWithout {l : Launch} {D : va_G} {cI : ClassId} {a : Nat → Nat} (ha : sInj SX a) (V : sV) (q : Int32) : sMI l D cI SX a V yX9_coalWithout cX9_coalWithout 2 .int 4 [.ref (a 0), .int q] (q_coalWithout V) := by
  refine sMIof ha (by decide +kernel) (Nat.le_of_ble_eq_true rfl) ?_
  intro p e s m below meth c ls G X hl
  obtain ⟨hx, hb, hml, hown, hts, hlocks, hr, hK⟩ := id G
  have hl : lv_has ls 2 [(0, .ref (a 0)), (1, .int q)] := hl
  refine lv_aload_n hx hb dX9_coalWithout_0 rfl (lv_at hl 0 rfl) ?_
  refine sgR G X 0 3 rfl rfl fl_X9_28 dX9_coalWithout_1 ?_
  refine lv_iload_n hx hb dX9_coalWithout_4 rfl (lv_at hl 1 rfl) ?_
  refine scV (ci := 1) (As := [.int q]) (rest := []) G X (k_takeSizes ha V q) iy_X1_takeSizes ml_X9_217 rfl rfl rfl rfl hl.1 (by decide) (by decide) (Nat.le_of_ble_eq_true rfl) dX9_coalWithout_5 (fun V5 H locs p5 X => ?_)
  refine lv_aload_n hx hb dX9_coalWithout_8 rfl (lv_at hl 0 rfl) ?_
  refine sgR G X 0 3 rfl rfl fl_X9_28 dX9_coalWithout_9 ?_
  refine lv_aload_n hx hb dX9_coalWithout_12 rfl (lv_at hl 0 rfl) ?_
  refine sgR G X 0 0 rfl rfl fl_X9_10 dX9_coalWithout_13 ?_
  refine sgR G X 2 3 rfl rfl fl_X9_143 dX9_coalWithout_16 ?_
  refine scV (ci := 1) (As := [.ref (a 15)]) (rest := []) G X (k_settle ha V5 15 rfl (by first | decide | assumption)) iy_X1_settle ml_X9_220 rfl rfl rfl rfl hl.1 (by decide) (by decide) (Nat.le_of_ble_eq_true rfl) dX9_coalWithout_19 (fun V19 H locs p19 X => ?_)
  refine lv_aload_n hx hb dX9_coalWithout_22 rfl (lv_at hl 0 rfl) ?_
  refine sgR G X 0 3 rfl rfl fl_X9_28 dX9_coalWithout_23 ?_
  refine scI (ci := 1) (As := []) (rest := []) G X (k_inflow ha V19 ) iy_X1_inflow ml_X9_210 rfl rfl rfl rfl hl.1 (by decide) (by decide) (Nat.le_of_ble_eq_true rfl) dX9_coalWithout_26 (fun y26 V26 H locs p26 X => ?_)
  obtain ⟨p26, z26⟩ := p26
  subst V26
  refine lv_aload_n hx hb dX9_coalWithout_29 rfl (lv_at hl 0 rfl) ?_
  refine sgR G X 0 0 rfl rfl fl_X9_10 dX9_coalWithout_30 ?_
  refine sgR G X 2 3 rfl rfl fl_X9_143 dX9_coalWithout_33 ?_
  refine sgI G X 15 0 rfl rfl fl_X9_146 dX9_coalWithout_36 ?_
  refine lv_imul hx hb dX9_coalWithout_39 ?_
  refine lv_topi (fun x39 e39 => ?_)
  exact srI G X (rfl) dX9_coalWithout_40 (by (have hA : sAg [39] V V5 := p5; exact ⟨((sAg.mono p5 (by decide)).tr (sAg.mono p19.1 (by decide))), fun hQ h0 => by rw [e39, p26 (p19.2 (hQ.ag hA (by decide) (by decide) (by decide) (by decide)) (by rw [hA 45 (by decide)]; exact h0))]; simp⟩))
def q_idleAlone (V : sV) : Int32 → sV → Prop := fun x V1 => sAg [39, 40, 41, 42, 43, 44] V V1
set_option maxRecDepth 100000 in
set_option maxHeartbeats 4000000 in
theorem k_idleAlone {l : Launch} {D : va_G} {cI : ClassId} {a : Nat → Nat} (ha : sInj SX a) (V : sV) (q : Int32) : sMI l D cI SX a V yX9_idleAlone cX9_idleAlone 4 .int 5 [.ref (a 0), .int q] (q_idleAlone V) := by
  refine sMIof ha (by decide +kernel) (Nat.le_of_ble_eq_true rfl) ?_
  intro p e s m below meth c ls G X hl
  obtain ⟨hx, hb, hml, hown, hts, hlocks, hr, hK⟩ := id G
  have hl : lv_has ls 4 [(0, .ref (a 0)), (1, .int q)] := hl
  refine lv_iconst (v := 0) hx hb dX9_idleAlone_0 (by decide) ?_
  refine lv_istore_n (lv' := [(2, .int 0), (0, .ref (a 0)), (1, .int q)]) hx hb dX9_idleAlone_1 rfl hl (by decide) rfl (fun ls hl => ?_)
  refine lv_iconst (v := 0) hx hb dX9_idleAlone_2 (by decide) ?_
  refine lv_istore_n (lv' := [(3, .int 0), (2, .int 0), (0, .ref (a 0)), (1, .int q)]) hx hb dX9_idleAlone_3 rfl hl (by decide) rfl (fun ls hl => ?_)
  have L4 : ∀ (fu4 : Nat) (i : Int32) (z : Int32) (Y : sV) (H : Heap) (locs : List Loc) (ls : Array Slot), (0 ≤ i.toInt) → (sAg [39, 40, 41, 42, 43, 44] V Y) → (((V 3 7).toInt - i.toInt).toNat) < fu4 → sWS D cI SX a Y s.heap H locs → lv_has ls 4 [(3, .int i), (2, .int z), (0, .ref (a 0)), (1, .int q)] → W p l e (rmD 5) s m ([.ref (a 0), .int q] : List Value).toArray below meth c H locs 0 0 (MQ below (va_Qi (q_idleAlone V) (fun V1 t => va_P D vwCl (sWd cI SX a V1) t.heap) (sA SX a s.heap.size)) ([.ref (a 0), .int q] : List Value).toArray s 0 0 (sA SX a s.heap.size)) (F0 m 4 ls []) := by
    intro fu4
    induction fu4 with
    | zero => intro i z Y H locs ls hi hA hm4; exact absurd hm4 (Nat.not_lt_zero _)
    | succ fu4 ih4 =>
      intro i z Y H locs ls hi hA hm4 X hl
      refine lv_iload_n hx hb dX9_idleAlone_4 rfl (lv_at hl 0 rfl) ?_
      refine lv_aload_n hx hb dX9_idleAlone_5 rfl (lv_at hl 2 rfl) ?_
      refine sgR G X 0 0 rfl rfl fl_X9_10 dX9_idleAlone_6 ?_
      refine sgR G X 2 1 rfl rfl fl_X9_89 dX9_idleAlone_9 ?_
      refine sgI G X 3 7 rfl rfl fl_X9_190 dX9_idleAlone_12 ?_
      refine sIge (tgt := 55) hx hb (rfl : Int32.toInt i = _) (rfl : Int32.toInt (Y 3 7) = _) dX9_idleAlone_15 (by decide) (fun c15 => ?_) (fun c15 => ?_)
      · skip
        rw [hA 3 (by decide)] at c15
        refine lv_iload_n hx hb dX9_idleAlone_55 rfl (lv_at hl 1 rfl) ?_
        exact srI G X (rfl) dX9_idleAlone_56 (by exact hA)
      · skip
        rw [hA 3 (by decide)] at c15
        refine lv_aload_n hx hb dX9_idleAlone_18 rfl (lv_at hl 2 rfl) ?_
        refine sgR G X 0 0 rfl rfl fl_X9_10 dX9_idleAlone_19 ?_
        refine sgR G X 2 1 rfl rfl fl_X9_89 dX9_idleAlone_22 ?_
        refine lv_iload_n hx hb dX9_idleAlone_25 rfl (lv_at hl 0 rfl) ?_
        refine scI (ci := 2) (As := [.int i]) (rest := []) G X (k_isDoor ha Y i) iy_X2_isDoor ml_X9_162 rfl rfl rfl rfl hl.1 (by decide) (by decide) (Nat.le_of_ble_eq_true rfl) dX9_idleAlone_26 (fun y26 V26 H locs p26 X => ?_)
        obtain ⟨p26, z26⟩ := p26
        subst V26
        refine sZne (tgt := 49) hx hb (rfl : Int32.toInt y26 = _) dX9_idleAlone_29 (by decide) (fun c29 => ?_) (fun c29 => ?_)
        · skip
          obtain ⟨x49, e49⟩ : ∃ y : Int32, y = i + (1) := ⟨_, rfl⟩
          refine lv_iinc (v := x49) (lv' := [(3, .int x49), (2, .int z), (0, .ref (a 0)), (1, .int q)]) hx hb dX9_idleAlone_49 hl (k := 0) rfl (by rw [e49]; rfl) (by decide) rfl (fun ls hl => ?_)
          refine lv_goto (tgt := 4) hx hb dX9_idleAlone_52 (by decide) ?_
          exact ih4 x49 z Y _ _ _ (by rw [i32_i e49 (by have := i32_hi (V 3 7); omega)]; omega) (by first | exact hA.tr p36.1 | exact hA) (by rw [i32_i e49 (by have := i32_hi (V 3 7); omega)]; omega) X (lv_sub hl [0, 1, 2, 3] rfl)
        · skip
          refine lv_aload_n hx hb dX9_idleAlone_32 rfl (lv_at hl 2 rfl) ?_
          refine lv_iconst (v := 1) hx hb dX9_idleAlone_33 (by decide) ?_
          refine lv_iload_n hx hb dX9_idleAlone_34 rfl (lv_at hl 0 rfl) ?_
          refine lv_ishl hx hb dX9_idleAlone_35 ?_
          refine lv_topi (fun x35 e35 => ?_)
          refine scI (ci := 8) (As := [.int x35]) (rest := []) G X (k_coalWithout ha Y x35) iy_X9_coalWithout ml_X9_184 rfl rfl rfl rfl hl.1 (by decide) (by decide) (Nat.le_of_ble_eq_true rfl) dX9_idleAlone_36 (fun y36 V36 H locs p36 X => ?_)
          refine lv_iload_n hx hb dX9_idleAlone_39 rfl (lv_at hl 3 rfl) ?_
          refine sIlt (tgt := 49) hx hb (rfl : Int32.toInt y36 = _) (rfl : Int32.toInt q = _) dX9_idleAlone_40 (by decide) (fun c40 => ?_) (fun c40 => ?_)
          · skip
            obtain ⟨x49, e49⟩ : ∃ y : Int32, y = i + (1) := ⟨_, rfl⟩
            refine lv_iinc (v := x49) (lv' := [(3, .int x49), (2, .int z), (0, .ref (a 0)), (1, .int q)]) hx hb dX9_idleAlone_49 hl (k := 0) rfl (by rw [e49]; rfl) (by decide) rfl (fun ls hl => ?_)
            refine lv_goto (tgt := 4) hx hb dX9_idleAlone_52 (by decide) ?_
            exact ih4 x49 z V36 _ _ _ (by rw [i32_i e49 (by have := i32_hi (V 3 7); omega)]; omega) (by first | exact hA.tr p36.1 | exact hA) (by rw [i32_i e49 (by have := i32_hi (V 3 7); omega)]; omega) X (lv_sub hl [0, 1, 2, 3] rfl)
          · skip
            refine lv_iload_n hx hb dX9_idleAlone_43 rfl (lv_at hl 1 rfl) ?_
            refine lv_iconst (v := 1) hx hb dX9_idleAlone_44 (by decide) ?_
            refine lv_iload_n hx hb dX9_idleAlone_45 rfl (lv_at hl 0 rfl) ?_
            refine lv_ishl hx hb dX9_idleAlone_46 ?_
            refine lv_topi (fun x46 e46 => ?_)
            refine lv_ior hx hb dX9_idleAlone_47 ?_
            refine lv_topi (fun x47 e47 => ?_)
            refine lv_istore_n (lv' := [(2, .int x47), (3, .int i), (0, .ref (a 0)), (1, .int q)]) hx hb dX9_idleAlone_48 rfl hl (by decide) rfl (fun ls hl => ?_)
            obtain ⟨x49, e49⟩ : ∃ y : Int32, y = i + (1) := ⟨_, rfl⟩
            refine lv_iinc (v := x49) (lv' := [(3, .int x49), (2, .int x47), (0, .ref (a 0)), (1, .int q)]) hx hb dX9_idleAlone_49 hl (k := 1) rfl (by rw [e49]; rfl) (by decide) rfl (fun ls hl => ?_)
            refine lv_goto (tgt := 4) hx hb dX9_idleAlone_52 (by decide) ?_
            exact ih4 x49 x47 V36 _ _ _ (by rw [i32_i e49 (by have := i32_hi (V 3 7); omega)]; omega) (by first | exact hA.tr p36.1 | exact hA) (by rw [i32_i e49 (by have := i32_hi (V 3 7); omega)]; omega) X (lv_sub hl [0, 1, 2, 3] rfl)
  exact L4 _ 0 0 V _ _ _ (by decide) (sAg.rf) (Nat.lt_succ_self _) X (lv_sub hl [0, 1, 2, 3] rfl)
def q_leanOf (V : sV) : Int32 → sV → Prop := fun x V1 => True ∧ V1 = V
set_option maxRecDepth 100000 in
set_option maxHeartbeats 4000000 in
theorem k_leanOf {l : Launch} {D : va_G} {cI : ClassId} {a : Nat → Nat} (ha : sInj SX a) (V : sV) (i : Int32) : sMI l D cI SX a V yX9_leanOf cX9_leanOf 3 .int 2 [.ref (a 0), .int i] (q_leanOf V) := by
  refine sMIof ha (by decide +kernel) (Nat.le_of_ble_eq_true rfl) ?_
  intro p e s m below meth c ls G X hl
  obtain ⟨hx, hb, hml, hown, hts, hlocks, hr, hK⟩ := id G
  have hl : lv_has ls 3 [(0, .ref (a 0)), (1, .int i)] := hl
  refine lv_aload_n hx hb dX9_leanOf_0 rfl (lv_at hl 0 rfl) ?_
  refine sgR G X 0 3 rfl rfl fl_X9_28 dX9_leanOf_1 ?_
  refine lv_iload_n hx hb dX9_leanOf_4 rfl (lv_at hl 1 rfl) ?_
  refine scI (ci := 1) (As := [.int i]) (rest := []) G X (k_flow ha V i) iy_X1_flowThrough ml_X9_178 rfl rfl rfl rfl hl.1 (by decide) (by decide) (Nat.le_of_ble_eq_true rfl) dX9_leanOf_5 (fun y5 V5 H locs p5 X => ?_)
  obtain ⟨p5, z5⟩ := p5
  subst V5
  refine lv_istore_n (lv' := [(2, .int y5), (0, .ref (a 0)), (1, .int i)]) hx hb dX9_leanOf_8 rfl hl (by decide) rfl (fun ls hl => ?_)
  refine lv_iload_n hx hb dX9_leanOf_9 rfl (lv_at hl 0 rfl) ?_
  refine sZle (tgt := 17) hx hb (rfl : Int32.toInt y5 = _) dX9_leanOf_10 (by decide) (fun c10 => ?_) (fun c10 => ?_)
  · skip
    refine lv_iload_n hx hb dX9_leanOf_17 rfl (lv_at hl 0 rfl) ?_
    refine sZge (tgt := 25) hx hb (rfl : Int32.toInt y5 = _) dX9_leanOf_18 (by decide) (fun c18 => ?_) (fun c18 => ?_)
    · skip
      refine lv_iconst (v := 0) hx hb dX9_leanOf_25 (by decide) ?_
      exact srI G X (rfl) dX9_leanOf_26 (by exact ⟨trivial, rfl⟩)
    · skip
      refine lv_iconst (v := 2) hx hb dX9_leanOf_21 (by decide) ?_
      refine lv_goto (tgt := 26) hx hb dX9_leanOf_22 (by decide) ?_
      exact srI G X (rfl) dX9_leanOf_26 (by exact ⟨trivial, rfl⟩)
  · skip
    refine lv_iconst (v := 1) hx hb dX9_leanOf_13 (by decide) ?_
    refine lv_goto (tgt := 26) hx hb dX9_leanOf_14 (by decide) ?_
    exact srI G X (rfl) dX9_leanOf_26 (by exact ⟨trivial, rfl⟩)
def q_firstNotSo (V : sV) : Int32 → sV → Prop := fun x V1 => sAg [39, 40, 41, 42, 43, 44] V V1 ∧ (sFr V → x = -9)
set_option maxRecDepth 100000 in
set_option maxHeartbeats 4000000 in
theorem k_firstNotSo {l : Launch} {D : va_G} {cI : ClassId} {a : Nat → Nat} (ha : sInj SX a) (V : sV)  : sMI l D cI SX a V yX9_firstNotSo cX9_firstNotSo 4 .int 5 [.ref (a 0)] (q_firstNotSo V) := by
  refine sMIof ha (by decide +kernel) (Nat.le_of_ble_eq_true rfl) ?_
  intro p e s m below meth c ls G X hl
  obtain ⟨hx, hb, hml, hown, hts, hlocks, hr, hK⟩ := id G
  have hl : lv_has ls 4 [(0, .ref (a 0))] := hl
  refine lv_aload_n hx hb dX9_firstNotSo_0 rfl (lv_at hl 0 rfl) ?_
  refine lv_iconst (v := 0) hx hb dX9_firstNotSo_1 (by decide) ?_
  refine scV (ci := 8) (As := [.int 0]) (rest := []) G X (k_settleNow ha V 0) iy_X9_settleNow ml_X9_172 rfl rfl rfl rfl hl.1 (by decide) (by decide) (Nat.le_of_ble_eq_true rfl) dX9_firstNotSo_2 (fun V2 H locs p2 X => ?_)
  refine lv_aload_n hx hb dX9_firstNotSo_5 rfl (lv_at hl 0 rfl) ?_
  refine sgR G X 0 0 rfl rfl fl_X9_10 dX9_firstNotSo_6 ?_
  refine sgR G X 2 5 rfl rfl fl_X9_240 dX9_firstNotSo_9 ?_
  refine sgI G X 18 1 rfl rfl fl_X9_75 dX9_firstNotSo_12 ?_
  refine lv_istore_n (lv' := [(1, .int (V2 18 1)), (0, .ref (a 0))]) hx hb dX9_firstNotSo_15 rfl hl (by decide) rfl (fun ls hl => ?_)
  refine lv_aload_n hx hb dX9_firstNotSo_16 rfl (lv_at hl 1 rfl) ?_
  refine sgR G X 0 0 rfl rfl fl_X9_10 dX9_firstNotSo_17 ?_
  refine sgR G X 2 1 rfl rfl fl_X9_89 dX9_firstNotSo_20 ?_
  refine sgI G X 3 7 rfl rfl fl_X9_190 dX9_firstNotSo_23 ?_
  refine lv_istore_n (lv' := [(2, .int (V2 3 7)), (1, .int (V2 18 1)), (0, .ref (a 0))]) hx hb dX9_firstNotSo_26 rfl hl (by decide) rfl (fun ls hl => ?_)
  refine lv_iconst (v := 0) hx hb dX9_firstNotSo_27 (by decide) ?_
  refine lv_istore_n (lv' := [(3, .int 0), (2, .int (V2 3 7)), (1, .int (V2 18 1)), (0, .ref (a 0))]) hx hb dX9_firstNotSo_28 rfl hl (by decide) rfl (fun ls hl => ?_)
  have L29 : ∀ (fu29 : Nat) (i : Int32) (H : Heap) (locs : List Loc) (ls : Array Slot), (0 ≤ i.toInt) → (((V2 18 1).toInt - i.toInt).toNat) < fu29 → sWS D cI SX a V2 s.heap H locs → lv_has ls 4 [(3, .int i), (2, .int (V2 3 7)), (1, .int (V2 18 1)), (0, .ref (a 0))] → W p l e (rmD 5) s m ([.ref (a 0)] : List Value).toArray below meth c H locs 0 0 (MQ below (va_Qi (q_firstNotSo V) (fun V1 t => va_P D vwCl (sWd cI SX a V1) t.heap) (sA SX a s.heap.size)) ([.ref (a 0)] : List Value).toArray s 0 0 (sA SX a s.heap.size)) (F0 m 29 ls []) := by
    intro fu29
    induction fu29 with
    | zero => intro i H locs ls hi hm29; exact absurd hm29 (Nat.not_lt_zero _)
    | succ fu29 ih29 =>
      intro i H locs ls hi hm29 X hl
      refine lv_iload_n hx hb dX9_firstNotSo_29 rfl (lv_at hl 0 rfl) ?_
      refine lv_iload_n hx hb dX9_firstNotSo_30 rfl (lv_at hl 2 rfl) ?_
      refine sIge (tgt := 66) hx hb (rfl : Int32.toInt i = _) (rfl : Int32.toInt (V2 18 1) = _) dX9_firstNotSo_31 (by decide) (fun c31 => ?_) (fun c31 => ?_)
      · skip
        refine lv_iload_n hx hb dX9_firstNotSo_66 rfl (lv_at hl 2 rfl) ?_
        refine lv_iload_n hx hb dX9_firstNotSo_67 rfl (lv_at hl 1 rfl) ?_
        refine sIne (tgt := 76) hx hb (rfl : Int32.toInt (V2 18 1) = _) (rfl : Int32.toInt (V2 3 7) = _) dX9_firstNotSo_68 (by decide) (fun c68 => ?_) (fun c68 => ?_)
        · skip
          refine lv_iload_n hx hb dX9_firstNotSo_76 rfl (lv_at hl 2 rfl) ?_
          refine lv_iload_n hx hb dX9_firstNotSo_77 rfl (lv_at hl 1 rfl) ?_
          refine sMin hx hb hml hl.1 hown hts mm_X9_261 (by decide) (Nat.le_of_ble_eq_true rfl) dX9_firstNotSo_78 (fun x78 e78 => ?_)
          exact srI G X (rfl) dX9_firstNotSo_81 (by first | exact ⟨p2.1, fun _ => rfl⟩ | exact ⟨p2.1, fun hf => by exfalso; rw [p2.1 3 (by decide), p2.1 18 (by decide), hf.1, hf.2.2.2.2.2.2.1] at c68; exact c68 rfl⟩)
        · skip
          refine lv_bipush (v := (-9)) hx hb dX9_firstNotSo_71 (by decide) ?_
          refine lv_goto (tgt := 81) hx hb dX9_firstNotSo_73 (by decide) ?_
          exact srI G X (rfl) dX9_firstNotSo_81 (by first | exact ⟨p2.1, fun _ => rfl⟩ | exact ⟨p2.1, fun hf => by exfalso; rw [p2.1 3 (by decide), p2.1 18 (by decide), hf.1, hf.2.2.2.2.2.2.1] at c68; exact c68 rfl⟩)
      · skip
        refine lv_iload_n hx hb dX9_firstNotSo_34 rfl (lv_at hl 0 rfl) ?_
        refine lv_iload_n hx hb dX9_firstNotSo_35 rfl (lv_at hl 1 rfl) ?_
        refine sIge (tgt := 66) hx hb (rfl : Int32.toInt i = _) (rfl : Int32.toInt (V2 3 7) = _) dX9_firstNotSo_36 (by decide) (fun c36 => ?_) (fun c36 => ?_)
        · skip
          refine lv_iload_n hx hb dX9_firstNotSo_66 rfl (lv_at hl 2 rfl) ?_
          refine lv_iload_n hx hb dX9_firstNotSo_67 rfl (lv_at hl 1 rfl) ?_
          refine sIne (tgt := 76) hx hb (rfl : Int32.toInt (V2 18 1) = _) (rfl : Int32.toInt (V2 3 7) = _) dX9_firstNotSo_68 (by decide) (fun c68 => ?_) (fun c68 => ?_)
          · skip
            refine lv_iload_n hx hb dX9_firstNotSo_76 rfl (lv_at hl 2 rfl) ?_
            refine lv_iload_n hx hb dX9_firstNotSo_77 rfl (lv_at hl 1 rfl) ?_
            refine sMin hx hb hml hl.1 hown hts mm_X9_261 (by decide) (Nat.le_of_ble_eq_true rfl) dX9_firstNotSo_78 (fun x78 e78 => ?_)
            exact srI G X (rfl) dX9_firstNotSo_81 (by first | exact ⟨p2.1, fun _ => rfl⟩ | exact ⟨p2.1, fun hf => by exfalso; rw [p2.1 3 (by decide), p2.1 18 (by decide), hf.1, hf.2.2.2.2.2.2.1] at c68; exact c68 rfl⟩)
          · skip
            refine lv_bipush (v := (-9)) hx hb dX9_firstNotSo_71 (by decide) ?_
            refine lv_goto (tgt := 81) hx hb dX9_firstNotSo_73 (by decide) ?_
            exact srI G X (rfl) dX9_firstNotSo_81 (by first | exact ⟨p2.1, fun _ => rfl⟩ | exact ⟨p2.1, fun hf => by exfalso; rw [p2.1 3 (by decide), p2.1 18 (by decide), hf.1, hf.2.2.2.2.2.2.1] at c68; exact c68 rfl⟩)
        · skip
          refine lv_aload_n hx hb dX9_firstNotSo_39 rfl (lv_at hl 3 rfl) ?_
          refine sgR G X 0 0 rfl rfl fl_X9_10 dX9_firstNotSo_40 ?_
          refine sgR G X 2 5 rfl rfl fl_X9_240 dX9_firstNotSo_43 ?_
          refine lv_iload_n hx hb dX9_firstNotSo_46 rfl (lv_at hl 0 rfl) ?_
          refine scI (ci := 4) (As := [.int i]) (rest := []) G X (k_rowGet ha V2 18 19 10 rfl rfl (by first | decide | assumption) (by first | decide | assumption) i) iy_X4_get ml_X9_258 rfl rfl rfl rfl hl.1 (by decide) (by decide) (Nat.le_of_ble_eq_true rfl) dX9_firstNotSo_47 (fun y47 V47 H locs p47 X => ?_)
          obtain ⟨p47, z47⟩ := p47
          subst V47
          refine lv_aload_n hx hb dX9_firstNotSo_50 rfl (lv_at hl 3 rfl) ?_
          refine lv_iload_n hx hb dX9_firstNotSo_51 rfl (lv_at hl 0 rfl) ?_
          refine scI (ci := 8) (As := [.int i]) (rest := [.int y47]) G X (k_leanOf ha V2 i) iy_X9_leanOf ml_X9_181 rfl rfl rfl rfl hl.1 (by decide) (by decide) (Nat.le_of_ble_eq_true rfl) dX9_firstNotSo_52 (fun y52 V52 H locs p52 X => ?_)
          obtain ⟨p52, z52⟩ := p52
          subst V52
          refine sIeq (tgt := 60) hx hb (rfl : Int32.toInt y47 = _) (rfl : Int32.toInt y52 = _) dX9_firstNotSo_55 (by decide) (fun c55 => ?_) (fun c55 => ?_)
          · skip
            obtain ⟨x60, e60⟩ : ∃ y : Int32, y = i + (1) := ⟨_, rfl⟩
            refine lv_iinc (v := x60) (lv' := [(3, .int x60), (2, .int (V2 3 7)), (1, .int (V2 18 1)), (0, .ref (a 0))]) hx hb dX9_firstNotSo_60 hl (k := 0) rfl (by rw [e60]; rfl) (by decide) rfl (fun ls hl => ?_)
            refine lv_goto (tgt := 29) hx hb dX9_firstNotSo_63 (by decide) ?_
            exact ih29 x60 _ _ _ (by rw [i32_i e60 (by have := i32_hi (V2 18 1); omega)]; omega) (by rw [i32_i e60 (by have := i32_hi (V2 18 1); omega)]; omega) X (lv_sub hl [0, 1, 2, 3] rfl)
          · skip
            refine lv_iload_n hx hb dX9_firstNotSo_58 rfl (lv_at hl 0 rfl) ?_
            exact srI G X (rfl) dX9_firstNotSo_59 (by exact ⟨p2.1, fun hf => by exfalso; rw [p2.1 3 (by decide), hf.1] at c36; exact absurd c36 (by show ¬ i.toInt < 0; omega)⟩)
  exact L29 _ 0 _ _ _ (by decide) (Nat.lt_succ_self _) X (lv_sub hl [0, 1, 2, 3] rfl)
end
section
def setC (w v : Int32) : Int32 := if w.toInt < 0 ∨ 2 < w.toInt then -2 else if v.toInt < 0 then -4 else if (if w.toInt = 0 then 40 else if w.toInt = 1 then 20 else 3) < v.toInt then -6 else 0
def setX (f : Nat → Int32) (w v : Int32) : Int32 := if setC w v = 0 then nowF f w else setC w v
def setN (f : Nat → Int32) (w v : Int32) : Nat → Int32 := if setC w v = 0 then (if w.toInt = 0 then upd f 0 v else if w.toInt = 1 then upd f 1 v else upd f 2 v) else f
def fanX (v : Int32) : Int32 := if v.toInt < -50 then -4 else if 50 < v.toInt then -6 else v + 50
def fanN (f : Nat → Int32) (v : Int32) : Nat → Int32 := if v.toInt < -50 then f else if 50 < v.toInt then f else upd f 3 v
def nowX (f : Nat → Int32) (w : Int32) : Int32 := if w.toInt < 0 then 1000000002 else if 3 < w.toInt then 1000000002 else nowF f w
def fLetter (c : Int32) : Int32 := if c.toInt < 0 then -4 else if 255 < c.toInt then -6 else 1
def fPush (r : Int32) : Int32 := if r.toInt < 0 then 1000000001 else if 2 ≤ r.toInt then 1000000001 else 0
def fStopped (q : Int32) : Int32 := if q.toInt = 0 then 0 else -1
def fBest (coin what : Int32) : Int32 := if what.toInt < 0 then -2 else if 1 < what.toInt then -2 else if coin.toInt < 0 then -4 else if 99 < coin.toInt then -6 else 0
def fPairs (what : Int32) : Int32 := if what.toInt < 0 then -2 else if 1 < what.toInt then -2 else if what.toInt = 0 then 0 else -9
def fNumber (v : Int32) : Int32 := if v.toInt < -50 then -4 else if 50 < v.toInt then -6 else 0
def fHidden (s c : Int32) : Int32 := if s.toInt < 0 then -4 else if c.toInt < 0 then -4 else if 9 < s.toInt then -6 else if c.toInt = 0 then 0 else -9
def fDays (n : Int32) : Int32 := if n.toInt < 1 then -4 else if 30 < n.toInt then -6 else 0
def fRow (c : Int32) : Int32 := if c.toInt < 0 then -4 else if 2 < c.toInt then -6 else 1
def fCount (w : Int32) : Int32 := if w.toInt = 0 then 2 else if 1 ≤ w.toInt ∧ w.toInt ≤ 6 then 0 else if 11 ≤ w.toInt ∧ w.toInt ≤ 16 then 0 else -9
theorem sFr.t {V : sV} (h : sFr V) : (V 3 7).toInt = 0 ∧ (V 11 3).toInt = 0 ∧ (V 2 0).toInt = 2 ∧ (V 16 1).toInt = 0 ∧ (V 18 1).toInt = 0 ∧ (V 0 2).toInt = 0 := by
  obtain ⟨h1, h2, h3, h4, h5, h6, h7, h8, -⟩ := h
  rw [h1, h4, h5, h6, h7, h8]
  decide
theorem setX_bad {f : Nat → Int32} {w v k : Int32} (h : setC w v = k) (hk : k ≠ 0) : k = setX f w v ∧ f = setN f w v := by
  unfold setX setN
  rw [h, if_neg hk, if_neg hk]
  exact ⟨rfl, rfl⟩
theorem setX_ok {f : Nat → Int32} {w v : Int32} (h : setC w v = 0) : setX f w v = nowF f w ∧ setN f w v = (if w.toInt = 0 then upd f 0 v else if w.toInt = 1 then upd f 1 v else upd f 2 v) := by
  unfold setX setN
  rw [h, if_pos rfl, if_pos rfl]
  exact ⟨rfl, rfl⟩
theorem i32_0 {x : Int32} (h : x.toInt = 0) : x = 0 := Int32.toInt_inj.mp (h.trans Int32.toInt_zero.symm)
theorem sQ0 {V : sV} {r : Nat} (h1 : V r 1 = 0) (h2 : (V 3 7).toInt = 0) : sQuiet V r := ⟨h1, by omega, fun i h3 h4 => by exfalso; omega⟩
def q_letter (V : sV) (i : Int32) : Int32 → sV → Prop := fun x V1 => sAg [1, 16, 17] V V1 ∧ (sFr V → x = fLetter i)
set_option maxRecDepth 100000 in
set_option maxHeartbeats 4000000 in
theorem k_letter {l : Launch} {D : va_G} {cI : ClassId} {a : Nat → Nat} (ha : sInj SX a) (V : sV) (i : Int32) : sMI l D cI SX a V yX9_letter cX9_letter 2 .int 3 [.ref (a 0), .int i] (q_letter V i) := by
  refine sMIof ha (by decide +kernel) (Nat.le_of_ble_eq_true rfl) ?_
  intro p e s m below meth c ls G X hl
  obtain ⟨hx, hb, hml, hown, hts, hlocks, hr, hK⟩ := id G
  have hl : lv_has ls 2 [(0, .ref (a 0)), (1, .int i)] := hl
  refine lv_iload_n hx hb dX9_letter_0 rfl (lv_at hl 1 rfl) ?_
  refine sZge (tgt := 11) hx hb (rfl : Int32.toInt i = _) dX9_letter_1 (by decide) (fun c1 => ?_) (fun c1 => ?_)
  · skip
    refine lv_iload_n hx hb dX9_letter_11 rfl (lv_at hl 1 rfl) ?_
    refine lv_sipush (v := 255) hx hb dX9_letter_12 (by decide) ?_
    refine sIgt (tgt := 31) hx hb (rfl : Int32.toInt i = _) (by decide : (255 : Int32).toInt = 255) dX9_letter_15 (by decide) (fun c15 => ?_) (fun c15 => ?_)
    · skip
      refine lv_aload_n hx hb dX9_letter_31 rfl (lv_at hl 0 rfl) ?_
      refine lv_bipush (v := (-6)) hx hb dX9_letter_32 (by decide) ?_
      refine scI (ci := 8) (As := [.int (-6)]) (rest := []) G X (k_refuse ha V (-6)) iy_X9_refuse ml_X9_57 rfl rfl rfl rfl hl.1 (by decide) (by decide) (Nat.le_of_ble_eq_true rfl) dX9_letter_34 (fun y34 V34 H locs p34 X => ?_)
      exact srI G X (rfl) dX9_letter_37 (by exact ⟨sAg.mono p34.1 (by decide), (fun hf => by have hg := hf.t; rw [p34.2]; unfold fLetter; (repeat' split) <;> first | rfl | (exfalso; omega))⟩)
    · skip
      refine lv_aload_n hx hb dX9_letter_18 rfl (lv_at hl 0 rfl) ?_
      refine sgR G X 0 0 rfl rfl fl_X9_10 dX9_letter_19 ?_
      refine sgR G X 2 4 rfl rfl fl_X9_61 dX9_letter_22 ?_
      refine scI (ci := 4) (As := []) (rest := []) G X (k_rowFull ha V 16 17 80 rfl rfl (by first | decide | assumption) (by first | decide | assumption)) iy_X4_isFull ml_X9_65 rfl rfl rfl rfl hl.1 (by decide) (by decide) (Nat.le_of_ble_eq_true rfl) dX9_letter_25 (fun y25 V25 H locs p25 X => ?_)
      obtain ⟨p25, z25⟩ := p25
      subst V25
      refine sZeq (tgt := 38) hx hb (rfl : Int32.toInt y25 = _) dX9_letter_28 (by decide) (fun c28 => ?_) (fun c28 => ?_)
      · skip
        refine lv_aload_n hx hb dX9_letter_38 rfl (lv_at hl 0 rfl) ?_
        refine sgR G X 0 0 rfl rfl fl_X9_10 dX9_letter_39 ?_
        refine sgR G X 2 4 rfl rfl fl_X9_61 dX9_letter_42 ?_
        refine lv_iload_n hx hb dX9_letter_45 rfl (lv_at hl 1 rfl) ?_
        refine scV (ci := 4) (As := [.int i]) (rest := []) G X (k_rowAdd ha V 16 17 80 rfl rfl (by first | decide | assumption) (by first | decide | assumption) i) iy_X4_add ml_X9_71 rfl rfl rfl rfl hl.1 (by decide) (by decide) (Nat.le_of_ble_eq_true rfl) dX9_letter_46 (fun V46 H locs p46 X => ?_)
        refine lv_aload_n hx hb dX9_letter_49 rfl (lv_at hl 0 rfl) ?_
        refine sgR G X 0 0 rfl rfl fl_X9_10 dX9_letter_50 ?_
        refine sgR G X 2 4 rfl rfl fl_X9_61 dX9_letter_53 ?_
        refine sgI G X 16 1 rfl rfl fl_X9_75 dX9_letter_56 ?_
        exact srI G X (rfl) dX9_letter_59 (by exact ⟨sAg.mono p46.1 (by decide), (fun hf => by have hg := hf.t; rw [p46.2 (by omega), hf.2.2.2.2.2.1]; unfold fLetter; (repeat' split) <;> first | rfl | (exfalso; omega))⟩)
      · skip
        refine lv_aload_n hx hb dX9_letter_31 rfl (lv_at hl 0 rfl) ?_
        refine lv_bipush (v := (-6)) hx hb dX9_letter_32 (by decide) ?_
        refine scI (ci := 8) (As := [.int (-6)]) (rest := []) G X (k_refuse ha V (-6)) iy_X9_refuse ml_X9_57 rfl rfl rfl rfl hl.1 (by decide) (by decide) (Nat.le_of_ble_eq_true rfl) dX9_letter_34 (fun y34 V34 H locs p34 X => ?_)
        exact srI G X (rfl) dX9_letter_37 (by exact ⟨sAg.mono p34.1 (by decide), (fun hf => by have hg := hf.t; rw [p34.2]; unfold fLetter; (repeat' split) <;> first | rfl | (exfalso; omega))⟩)
  · skip
    refine lv_aload_n hx hb dX9_letter_4 rfl (lv_at hl 0 rfl) ?_
    refine lv_bipush (v := (-4)) hx hb dX9_letter_5 (by decide) ?_
    refine scI (ci := 8) (As := [.int (-4)]) (rest := []) G X (k_refuse ha V (-4)) iy_X9_refuse ml_X9_57 rfl rfl rfl rfl hl.1 (by decide) (by decide) (Nat.le_of_ble_eq_true rfl) dX9_letter_7 (fun y7 V7 H locs p7 X => ?_)
    exact srI G X (rfl) dX9_letter_10 (by exact ⟨sAg.mono p7.1 (by decide), (fun hf => by have hg := hf.t; rw [p7.2]; unfold fLetter; (repeat' split) <;> first | rfl | (exfalso; omega))⟩)
def q_hole (V : sV) (i w : Int32) : Int32 → sV → Prop := fun x V1 => sAg [1] V V1 ∧ (sFr V → x = -1)
set_option maxRecDepth 100000 in
set_option maxHeartbeats 4000000 in
theorem k_hole {l : Launch} {D : va_G} {cI : ClassId} {a : Nat → Nat} (ha : sInj SX a) (V : sV) (i w : Int32) : sMI l D cI SX a V yX9_hole cX9_hole 3 .int 2 [.ref (a 0), .int i, .int w] (q_hole V i w) := by
  refine sMIof ha (by decide +kernel) (Nat.le_of_ble_eq_true rfl) ?_
  intro p e s m below meth c ls G X hl
  obtain ⟨hx, hb, hml, hown, hts, hlocks, hr, hK⟩ := id G
  have hl : lv_has ls 3 [(0, .ref (a 0)), (1, .int i), (2, .int w)] := hl
  refine lv_aload_n hx hb dX9_hole_0 rfl (lv_at hl 0 rfl) ?_
  refine sgR G X 0 0 rfl rfl fl_X9_10 dX9_hole_1 ?_
  refine sgR G X 2 1 rfl rfl fl_X9_89 dX9_hole_4 ?_
  refine lv_iload_n hx hb dX9_hole_7 rfl (lv_at hl 1 rfl) ?_
  refine scI (ci := 2) (As := [.int i]) (rest := []) G X (k_has ha V i) iy_X2_has ml_X9_93 rfl rfl rfl rfl hl.1 (by decide) (by decide) (Nat.le_of_ble_eq_true rfl) dX9_hole_8 (fun y8 V8 H locs p8 X => ?_)
  obtain ⟨p8, z8⟩ := p8
  subst V8
  refine sZne (tgt := 20) hx hb (rfl : Int32.toInt y8 = _) dX9_hole_11 (by decide) (fun c11 => ?_) (fun c11 => ?_)
  · skip
    refine lv_iload_n hx hb dX9_hole_20 rfl (lv_at hl 2 rfl) ?_
    by_cases hs21 : Int32.toInt w < 0 ∨ 6 < Int32.toInt w
    · refine lv_tableOut (tgt := 169) hx hb dX9_hole_21 hs21 (by decide) ?_
      refine lv_aload_n hx hb dX9_hole_169 rfl (lv_at hl 0 rfl) ?_
      refine lv_bipush (v := (-2)) hx hb dX9_hole_170 (by decide) ?_
      refine scI (ci := 8) (As := [.int (-2)]) (rest := []) G X (k_refuse ha V (-2)) iy_X9_refuse ml_X9_57 rfl rfl rfl rfl hl.1 (by decide) (by decide) (Nat.le_of_ble_eq_true rfl) dX9_hole_172 (fun y172 V172 H locs p172 X => ?_)
      exact srI G X (rfl) dX9_hole_175 (by exact ⟨p172.1, (fun hf => by exfalso; have hg := hf.t; omega)⟩)
    by_cases hs21_0 : Int32.toInt w = 0
    · refine lv_tableIn (tgt := 64) (off := 43) hx hb dX9_hole_21 (by rw [hs21_0]; decide) (by rw [hs21_0]; decide) (by rw [hs21_0]; rfl) (by decide) ?_
      refine lv_aload_n hx hb dX9_hole_64 rfl (lv_at hl 0 rfl) ?_
      refine sgR G X 0 0 rfl rfl fl_X9_10 dX9_hole_65 ?_
      refine sgR G X 2 1 rfl rfl fl_X9_89 dX9_hole_68 ?_
      refine sgR G X 3 0 rfl rfl fl_X9_99 dX9_hole_71 ?_
      refine lv_iload_n hx hb dX9_hole_74 rfl (lv_at hl 1 rfl) ?_
      refine scSI (As := [.ref (a 4), .int i]) (rest := []) G X (k_at ha V 4 10 rfl (by first | decide | assumption) i) iy_X5_at ml_X9_102 rfl rfl hl.1 (by decide) (by decide) (Nat.le_of_ble_eq_true rfl) dX9_hole_75 (fun y75 V75 H locs p75 X => ?_)
      obtain ⟨p75, z75⟩ := p75
      subst V75
      exact srI G X (rfl) dX9_hole_78 (by exact ⟨sAg.rf, (fun hf => by exfalso; have hg := hf.t; omega)⟩)
    by_cases hs21_1 : Int32.toInt w = 1
    · refine lv_tableIn (tgt := 79) (off := 58) hx hb dX9_hole_21 (by rw [hs21_1]; decide) (by rw [hs21_1]; decide) (by rw [hs21_1]; rfl) (by decide) ?_
      refine lv_aload_n hx hb dX9_hole_79 rfl (lv_at hl 0 rfl) ?_
      refine sgR G X 0 0 rfl rfl fl_X9_10 dX9_hole_80 ?_
      refine sgR G X 2 1 rfl rfl fl_X9_89 dX9_hole_83 ?_
      refine sgR G X 3 1 rfl rfl fl_X9_108 dX9_hole_86 ?_
      refine lv_iload_n hx hb dX9_hole_89 rfl (lv_at hl 1 rfl) ?_
      refine scSI (As := [.ref (a 5), .int i]) (rest := []) G X (k_at ha V 5 10 rfl (by first | decide | assumption) i) iy_X5_at ml_X9_102 rfl rfl hl.1 (by decide) (by decide) (Nat.le_of_ble_eq_true rfl) dX9_hole_90 (fun y90 V90 H locs p90 X => ?_)
      obtain ⟨p90, z90⟩ := p90
      subst V90
      exact srI G X (rfl) dX9_hole_93 (by exact ⟨sAg.rf, (fun hf => by exfalso; have hg := hf.t; omega)⟩)
    by_cases hs21_2 : Int32.toInt w = 2
    · refine lv_tableIn (tgt := 94) (off := 73) hx hb dX9_hole_21 (by rw [hs21_2]; decide) (by rw [hs21_2]; decide) (by rw [hs21_2]; rfl) (by decide) ?_
      refine lv_aload_n hx hb dX9_hole_94 rfl (lv_at hl 0 rfl) ?_
      refine sgR G X 0 0 rfl rfl fl_X9_10 dX9_hole_95 ?_
      refine sgR G X 2 1 rfl rfl fl_X9_89 dX9_hole_98 ?_
      refine sgR G X 3 2 rfl rfl fl_X9_111 dX9_hole_101 ?_
      refine lv_iload_n hx hb dX9_hole_104 rfl (lv_at hl 1 rfl) ?_
      refine scSI (As := [.ref (a 6), .int i]) (rest := []) G X (k_at ha V 6 10 rfl (by first | decide | assumption) i) iy_X5_at ml_X9_102 rfl rfl hl.1 (by decide) (by decide) (Nat.le_of_ble_eq_true rfl) dX9_hole_105 (fun y105 V105 H locs p105 X => ?_)
      obtain ⟨p105, z105⟩ := p105
      subst V105
      exact srI G X (rfl) dX9_hole_108 (by exact ⟨sAg.rf, (fun hf => by exfalso; have hg := hf.t; omega)⟩)
    by_cases hs21_3 : Int32.toInt w = 3
    · refine lv_tableIn (tgt := 109) (off := 88) hx hb dX9_hole_21 (by rw [hs21_3]; decide) (by rw [hs21_3]; decide) (by rw [hs21_3]; rfl) (by decide) ?_
      refine lv_aload_n hx hb dX9_hole_109 rfl (lv_at hl 0 rfl) ?_
      refine sgR G X 0 0 rfl rfl fl_X9_10 dX9_hole_110 ?_
      refine sgR G X 2 1 rfl rfl fl_X9_89 dX9_hole_113 ?_
      refine sgR G X 3 3 rfl rfl fl_X9_114 dX9_hole_116 ?_
      refine lv_iload_n hx hb dX9_hole_119 rfl (lv_at hl 1 rfl) ?_
      refine scSI (As := [.ref (a 7), .int i]) (rest := []) G X (k_at ha V 7 10 rfl (by first | decide | assumption) i) iy_X5_at ml_X9_102 rfl rfl hl.1 (by decide) (by decide) (Nat.le_of_ble_eq_true rfl) dX9_hole_120 (fun y120 V120 H locs p120 X => ?_)
      obtain ⟨p120, z120⟩ := p120
      subst V120
      exact srI G X (rfl) dX9_hole_123 (by exact ⟨sAg.rf, (fun hf => by exfalso; have hg := hf.t; omega)⟩)
    by_cases hs21_4 : Int32.toInt w = 4
    · refine lv_tableIn (tgt := 124) (off := 103) hx hb dX9_hole_21 (by rw [hs21_4]; decide) (by rw [hs21_4]; decide) (by rw [hs21_4]; rfl) (by decide) ?_
      refine lv_aload_n hx hb dX9_hole_124 rfl (lv_at hl 0 rfl) ?_
      refine sgR G X 0 0 rfl rfl fl_X9_10 dX9_hole_125 ?_
      refine sgR G X 2 1 rfl rfl fl_X9_89 dX9_hole_128 ?_
      refine sgR G X 3 4 rfl rfl fl_X9_117 dX9_hole_131 ?_
      refine lv_iload_n hx hb dX9_hole_134 rfl (lv_at hl 1 rfl) ?_
      refine scSI (As := [.ref (a 8), .int i]) (rest := []) G X (k_at ha V 8 10 rfl (by first | decide | assumption) i) iy_X5_at ml_X9_102 rfl rfl hl.1 (by decide) (by decide) (Nat.le_of_ble_eq_true rfl) dX9_hole_135 (fun y135 V135 H locs p135 X => ?_)
      obtain ⟨p135, z135⟩ := p135
      subst V135
      exact srI G X (rfl) dX9_hole_138 (by exact ⟨sAg.rf, (fun hf => by exfalso; have hg := hf.t; omega)⟩)
    by_cases hs21_5 : Int32.toInt w = 5
    · refine lv_tableIn (tgt := 139) (off := 118) hx hb dX9_hole_21 (by rw [hs21_5]; decide) (by rw [hs21_5]; decide) (by rw [hs21_5]; rfl) (by decide) ?_
      refine lv_aload_n hx hb dX9_hole_139 rfl (lv_at hl 0 rfl) ?_
      refine sgR G X 0 0 rfl rfl fl_X9_10 dX9_hole_140 ?_
      refine sgR G X 2 1 rfl rfl fl_X9_89 dX9_hole_143 ?_
      refine sgR G X 3 5 rfl rfl fl_X9_120 dX9_hole_146 ?_
      refine lv_iload_n hx hb dX9_hole_149 rfl (lv_at hl 1 rfl) ?_
      refine scSI (As := [.ref (a 9), .int i]) (rest := []) G X (k_at ha V 9 10 rfl (by first | decide | assumption) i) iy_X5_at ml_X9_102 rfl rfl hl.1 (by decide) (by decide) (Nat.le_of_ble_eq_true rfl) dX9_hole_150 (fun y150 V150 H locs p150 X => ?_)
      obtain ⟨p150, z150⟩ := p150
      subst V150
      exact srI G X (rfl) dX9_hole_153 (by exact ⟨sAg.rf, (fun hf => by exfalso; have hg := hf.t; omega)⟩)
    by_cases hs21_6 : Int32.toInt w = 6
    · refine lv_tableIn (tgt := 154) (off := 133) hx hb dX9_hole_21 (by rw [hs21_6]; decide) (by rw [hs21_6]; decide) (by rw [hs21_6]; rfl) (by decide) ?_
      refine lv_aload_n hx hb dX9_hole_154 rfl (lv_at hl 0 rfl) ?_
      refine sgR G X 0 0 rfl rfl fl_X9_10 dX9_hole_155 ?_
      refine sgR G X 2 1 rfl rfl fl_X9_89 dX9_hole_158 ?_
      refine sgR G X 3 6 rfl rfl fl_X9_123 dX9_hole_161 ?_
      refine lv_iload_n hx hb dX9_hole_164 rfl (lv_at hl 1 rfl) ?_
      refine scSI (As := [.ref (a 10), .int i]) (rest := []) G X (k_at ha V 10 10 rfl (by first | decide | assumption) i) iy_X5_at ml_X9_102 rfl rfl hl.1 (by decide) (by decide) (Nat.le_of_ble_eq_true rfl) dX9_hole_165 (fun y165 V165 H locs p165 X => ?_)
      obtain ⟨p165, z165⟩ := p165
      subst V165
      exact srI G X (rfl) dX9_hole_168 (by exact ⟨sAg.rf, (fun hf => by exfalso; have hg := hf.t; omega)⟩)
    exact absurd hs21 (by omega)
  · skip
    refine lv_aload_n hx hb dX9_hole_14 rfl (lv_at hl 0 rfl) ?_
    refine lv_iconst (v := (-1)) hx hb dX9_hole_15 (by decide) ?_
    refine scI (ci := 8) (As := [.int (-1)]) (rest := []) G X (k_refuse ha V (-1)) iy_X9_refuse ml_X9_57 rfl rfl rfl rfl hl.1 (by decide) (by decide) (Nat.le_of_ble_eq_true rfl) dX9_hole_16 (fun y16 V16 H locs p16 X => ?_)
    exact srI G X (rfl) dX9_hole_19 (by exact ⟨sAg.mono p16.1 (by decide), fun _ => p16.2⟩)
def q_weather (V : sV) (i w : Int32) : Int32 → sV → Prop := fun x V1 => sAg [1] V V1 ∧ (sFr V → x = -1)
set_option maxRecDepth 100000 in
set_option maxHeartbeats 4000000 in
theorem k_weather {l : Launch} {D : va_G} {cI : ClassId} {a : Nat → Nat} (ha : sInj SX a) (V : sV) (i w : Int32) : sMI l D cI SX a V yX9_weather cX9_weather 3 .int 2 [.ref (a 0), .int i, .int w] (q_weather V i w) := by
  refine sMIof ha (by decide +kernel) (Nat.le_of_ble_eq_true rfl) ?_
  intro p e s m below meth c ls G X hl
  obtain ⟨hx, hb, hml, hown, hts, hlocks, hr, hK⟩ := id G
  have hl : lv_has ls 3 [(0, .ref (a 0)), (1, .int i), (2, .int w)] := hl
  refine lv_iload_n hx hb dX9_weather_0 rfl (lv_at hl 1 rfl) ?_
  refine sZlt (tgt := 18) hx hb (rfl : Int32.toInt i = _) dX9_weather_1 (by decide) (fun c1 => ?_) (fun c1 => ?_)
  · skip
    refine lv_aload_n hx hb dX9_weather_18 rfl (lv_at hl 0 rfl) ?_
    refine lv_iconst (v := (-1)) hx hb dX9_weather_19 (by decide) ?_
    refine scI (ci := 8) (As := [.int (-1)]) (rest := []) G X (k_refuse ha V (-1)) iy_X9_refuse ml_X9_57 rfl rfl rfl rfl hl.1 (by decide) (by decide) (Nat.le_of_ble_eq_true rfl) dX9_weather_20 (fun y20 V20 H locs p20 X => ?_)
    exact srI G X (rfl) dX9_weather_23 (by exact ⟨sAg.mono p20.1 (by decide), fun _ => p20.2⟩)
  · skip
    refine lv_iload_n hx hb dX9_weather_4 rfl (lv_at hl 1 rfl) ?_
    refine lv_aload_n hx hb dX9_weather_5 rfl (lv_at hl 0 rfl) ?_
    refine sgR G X 0 0 rfl rfl fl_X9_10 dX9_weather_6 ?_
    refine sgR G X 2 2 rfl rfl fl_X9_126 dX9_weather_9 ?_
    refine sgI G X 11 3 rfl rfl fl_X9_130 dX9_weather_12 ?_
    refine sIlt (tgt := 24) hx hb (rfl : Int32.toInt i = _) (rfl : Int32.toInt (V 11 3) = _) dX9_weather_15 (by decide) (fun c15 => ?_) (fun c15 => ?_)
    · skip
      refine lv_iload_n hx hb dX9_weather_24 rfl (lv_at hl 2 rfl) ?_
      by_cases hs25 : Int32.toInt w < 0 ∨ 2 < Int32.toInt w
      · refine lv_tableOut (tgt := 97) hx hb dX9_weather_25 hs25 (by decide) ?_
        refine lv_aload_n hx hb dX9_weather_97 rfl (lv_at hl 0 rfl) ?_
        refine lv_bipush (v := (-2)) hx hb dX9_weather_98 (by decide) ?_
        refine scI (ci := 8) (As := [.int (-2)]) (rest := []) G X (k_refuse ha V (-2)) iy_X9_refuse ml_X9_57 rfl rfl rfl rfl hl.1 (by decide) (by decide) (Nat.le_of_ble_eq_true rfl) dX9_weather_100 (fun y100 V100 H locs p100 X => ?_)
        exact srI G X (rfl) dX9_weather_103 (by exact ⟨p100.1, (fun hf => by exfalso; have hg := hf.t; omega)⟩)
      by_cases hs25_0 : Int32.toInt w = 0
      · refine lv_tableIn (tgt := 52) (off := 27) hx hb dX9_weather_25 (by rw [hs25_0]; decide) (by rw [hs25_0]; decide) (by rw [hs25_0]; rfl) (by decide) ?_
        refine lv_aload_n hx hb dX9_weather_52 rfl (lv_at hl 0 rfl) ?_
        refine sgR G X 0 0 rfl rfl fl_X9_10 dX9_weather_53 ?_
        refine sgR G X 2 2 rfl rfl fl_X9_126 dX9_weather_56 ?_
        refine sgR G X 11 0 rfl rfl fl_X9_133 dX9_weather_59 ?_
        refine lv_iload_n hx hb dX9_weather_62 rfl (lv_at hl 1 rfl) ?_
        refine scSI (As := [.ref (a 12), .int i]) (rest := []) G X (k_at ha V 12 4 rfl (by first | decide | assumption) i) iy_X5_at ml_X9_102 rfl rfl hl.1 (by decide) (by decide) (Nat.le_of_ble_eq_true rfl) dX9_weather_63 (fun y63 V63 H locs p63 X => ?_)
        obtain ⟨p63, z63⟩ := p63
        subst V63
        exact srI G X (rfl) dX9_weather_66 (by exact ⟨sAg.rf, (fun hf => by exfalso; have hg := hf.t; omega)⟩)
      by_cases hs25_1 : Int32.toInt w = 1
      · refine lv_tableIn (tgt := 67) (off := 42) hx hb dX9_weather_25 (by rw [hs25_1]; decide) (by rw [hs25_1]; decide) (by rw [hs25_1]; rfl) (by decide) ?_
        refine lv_aload_n hx hb dX9_weather_67 rfl (lv_at hl 0 rfl) ?_
        refine sgR G X 0 0 rfl rfl fl_X9_10 dX9_weather_68 ?_
        refine sgR G X 2 2 rfl rfl fl_X9_126 dX9_weather_71 ?_
        refine sgR G X 11 1 rfl rfl fl_X9_136 dX9_weather_74 ?_
        refine lv_iload_n hx hb dX9_weather_77 rfl (lv_at hl 1 rfl) ?_
        refine scSI (As := [.ref (a 13), .int i]) (rest := []) G X (k_at ha V 13 4 rfl (by first | decide | assumption) i) iy_X5_at ml_X9_102 rfl rfl hl.1 (by decide) (by decide) (Nat.le_of_ble_eq_true rfl) dX9_weather_78 (fun y78 V78 H locs p78 X => ?_)
        obtain ⟨p78, z78⟩ := p78
        subst V78
        exact srI G X (rfl) dX9_weather_81 (by exact ⟨sAg.rf, (fun hf => by exfalso; have hg := hf.t; omega)⟩)
      by_cases hs25_2 : Int32.toInt w = 2
      · refine lv_tableIn (tgt := 82) (off := 57) hx hb dX9_weather_25 (by rw [hs25_2]; decide) (by rw [hs25_2]; decide) (by rw [hs25_2]; rfl) (by decide) ?_
        refine lv_aload_n hx hb dX9_weather_82 rfl (lv_at hl 0 rfl) ?_
        refine sgR G X 0 0 rfl rfl fl_X9_10 dX9_weather_83 ?_
        refine sgR G X 2 2 rfl rfl fl_X9_126 dX9_weather_86 ?_
        refine sgR G X 11 2 rfl rfl fl_X9_139 dX9_weather_89 ?_
        refine lv_iload_n hx hb dX9_weather_92 rfl (lv_at hl 1 rfl) ?_
        refine scSI (As := [.ref (a 14), .int i]) (rest := []) G X (k_at ha V 14 4 rfl (by first | decide | assumption) i) iy_X5_at ml_X9_102 rfl rfl hl.1 (by decide) (by decide) (Nat.le_of_ble_eq_true rfl) dX9_weather_93 (fun y93 V93 H locs p93 X => ?_)
        obtain ⟨p93, z93⟩ := p93
        subst V93
        exact srI G X (rfl) dX9_weather_96 (by exact ⟨sAg.rf, (fun hf => by exfalso; have hg := hf.t; omega)⟩)
      exact absurd hs25 (by omega)
    · skip
      refine lv_aload_n hx hb dX9_weather_18 rfl (lv_at hl 0 rfl) ?_
      refine lv_iconst (v := (-1)) hx hb dX9_weather_19 (by decide) ?_
      refine scI (ci := 8) (As := [.int (-1)]) (rest := []) G X (k_refuse ha V (-1)) iy_X9_refuse ml_X9_57 rfl rfl rfl rfl hl.1 (by decide) (by decide) (Nat.le_of_ble_eq_true rfl) dX9_weather_20 (fun y20 V20 H locs p20 X => ?_)
      exact srI G X (rfl) dX9_weather_23 (by exact ⟨sAg.mono p20.1 (by decide), fun _ => p20.2⟩)
def q_set (V : sV) (w v : Int32) : Int32 → sV → Prop := fun x V1 => sAg [1, 15] V V1 ∧ x = setX (V 15) w v ∧ V1 15 = setN (V 15) w v
set_option maxRecDepth 100000 in
set_option maxHeartbeats 4000000 in
theorem k_set {l : Launch} {D : va_G} {cI : ClassId} {a : Nat → Nat} (ha : sInj SX a) (V : sV) (w v : Int32) : sMI l D cI SX a V yX9_set cX9_set 5 .int 2 [.ref (a 0), .int w, .int v] (q_set V w v) := by
  refine sMIof ha (by decide +kernel) (Nat.le_of_ble_eq_true rfl) ?_
  intro p e s m below meth c ls G X hl
  obtain ⟨hx, hb, hml, hown, hts, hlocks, hr, hK⟩ := id G
  have hl : lv_has ls 5 [(0, .ref (a 0)), (1, .int w), (2, .int v)] := hl
  refine lv_iload_n hx hb dX9_set_0 rfl (lv_at hl 1 rfl) ?_
  refine sZlt (tgt := 9) hx hb (rfl : Int32.toInt w = _) dX9_set_1 (by decide) (fun c1 => ?_) (fun c1 => ?_)
  · skip
    refine lv_aload_n hx hb dX9_set_9 rfl (lv_at hl 0 rfl) ?_
    refine lv_bipush (v := (-2)) hx hb dX9_set_10 (by decide) ?_
    refine scI (ci := 8) (As := [.int (-2)]) (rest := []) G X (k_refuse ha V (-2)) iy_X9_refuse ml_X9_57 rfl rfl rfl rfl hl.1 (by decide) (by decide) (Nat.le_of_ble_eq_true rfl) dX9_set_12 (fun y12 V12 H locs p12 X => ?_)
    exact srI G X (rfl) dX9_set_15 (by (have hb := setX_bad (f := V 15) (show setC w v = -2 from by unfold setC; exact if_pos (by omega)) (by decide); exact ⟨sAg.mono p12.1 (by decide), by rw [p12.2]; exact hb.1, by rw [p12.1 15 (by decide)]; exact hb.2⟩))
  · skip
    refine lv_iload_n hx hb dX9_set_4 rfl (lv_at hl 1 rfl) ?_
    refine lv_iconst (v := 2) hx hb dX9_set_5 (by decide) ?_
    refine sIle (tgt := 16) hx hb (rfl : Int32.toInt w = _) (by decide : (2 : Int32).toInt = 2) dX9_set_6 (by decide) (fun c6 => ?_) (fun c6 => ?_)
    · skip
      refine lv_iload_n hx hb dX9_set_16 rfl (lv_at hl 2 rfl) ?_
      refine sZge (tgt := 27) hx hb (rfl : Int32.toInt v = _) dX9_set_17 (by decide) (fun c17 => ?_) (fun c17 => ?_)
      · skip
        refine lv_iload_n hx hb dX9_set_27 rfl (lv_at hl 1 rfl) ?_
        refine sZne (tgt := 36) hx hb (rfl : Int32.toInt w = _) dX9_set_28 (by decide) (fun c28 => ?_) (fun c28 => ?_)
        · skip
          refine lv_iload_n hx hb dX9_set_36 rfl (lv_at hl 1 rfl) ?_
          refine lv_iconst (v := 1) hx hb dX9_set_37 (by decide) ?_
          refine sIne (tgt := 46) hx hb (rfl : Int32.toInt w = _) (by decide : (1 : Int32).toInt = 1) dX9_set_38 (by decide) (fun c38 => ?_) (fun c38 => ?_)
          · skip
            refine lv_iconst (v := 3) hx hb dX9_set_46 (by decide) ?_
            refine lv_istore_n (lv' := [(3, .int 3), (0, .ref (a 0)), (1, .int w), (2, .int v)]) hx hb dX9_set_47 rfl hl (by decide) rfl (fun ls hl => ?_)
            refine lv_iload_n hx hb dX9_set_48 rfl (lv_at hl 3 rfl) ?_
            refine lv_iload_n hx hb dX9_set_49 rfl (lv_at hl 0 rfl) ?_
            refine sIle (tgt := 60) hx hb (rfl : Int32.toInt v = _) (by decide : (3 : Int32).toInt = 3) dX9_set_50 (by decide) (fun c50 => ?_) (fun c50 => ?_)
            · skip
              refine lv_aload_n hx hb dX9_set_60 rfl (lv_at hl 1 rfl) ?_
              refine lv_iload_n hx hb dX9_set_61 rfl (lv_at hl 2 rfl) ?_
              refine scI (ci := 8) (As := [.int w]) (rest := []) G X (k_nowOf ha V w) iy_X9_nowOf ml_X9_140 rfl rfl rfl rfl hl.1 (by decide) (by decide) (Nat.le_of_ble_eq_true rfl) dX9_set_62 (fun y62 V62 H locs p62 X => ?_)
              obtain ⟨p62, z62⟩ := p62
              subst V62
              refine lv_istore (lv' := [(4, .int y62), (3, .int 3), (0, .ref (a 0)), (1, .int w), (2, .int v)]) hx hb dX9_set_65 hl (by decide) rfl (fun ls hl => ?_)
              refine lv_iload_n hx hb dX9_set_67 rfl (lv_at hl 3 rfl) ?_
              refine sZne (tgt := 85) hx hb (rfl : Int32.toInt w = _) dX9_set_68 (by decide) (fun c68 => ?_) (fun c68 => ?_)
              · skip
                refine lv_iload_n hx hb dX9_set_85 rfl (lv_at hl 3 rfl) ?_
                refine lv_iconst (v := 1) hx hb dX9_set_86 (by decide) ?_
                refine sIne (tgt := 104) hx hb (rfl : Int32.toInt w = _) (by decide : (1 : Int32).toInt = 1) dX9_set_87 (by decide) (fun c87 => ?_) (fun c87 => ?_)
                · skip
                  refine lv_aload_n hx hb dX9_set_104 rfl (lv_at hl 2 rfl) ?_
                  refine sgR G X 0 0 rfl rfl fl_X9_10 dX9_set_105 ?_
                  refine sgR G X 2 3 rfl rfl fl_X9_143 dX9_set_108 ?_
                  refine lv_iload_n hx hb dX9_set_111 rfl (lv_at hl 4 rfl) ?_
                  refine spI G X 15 2 rfl rfl fp_X9_150 dX9_set_112 (fun H locs X => ?_)
                  refine lv_iload hx hb dX9_set_115 (lv_at hl 0 rfl) ?_
                  exact srI G X (rfl) dX9_set_117 (by first | (exfalso; omega) | (have ho := setX_ok (f := V 15) (show setC w v = 0 from by unfold setC; rw [if_neg (by omega), if_neg (by omega), if_neg (by (repeat' split) <;> omega)]); exact ⟨sAg.rf.up (by decide), by rw [ho.1, p62], by rw [ho.2, sUp_s]; (repeat' split) <;> first | rfl | (exfalso; omega)⟩))
                · skip
                  refine lv_aload_n hx hb dX9_set_90 rfl (lv_at hl 2 rfl) ?_
                  refine sgR G X 0 0 rfl rfl fl_X9_10 dX9_set_91 ?_
                  refine sgR G X 2 3 rfl rfl fl_X9_143 dX9_set_94 ?_
                  refine lv_iload_n hx hb dX9_set_97 rfl (lv_at hl 4 rfl) ?_
                  refine spI G X 15 1 rfl rfl fp_X9_148 dX9_set_98 (fun H locs X => ?_)
                  refine lv_goto (tgt := 115) hx hb dX9_set_101 (by decide) ?_
                  refine lv_iload hx hb dX9_set_115 (lv_at hl 0 rfl) ?_
                  exact srI G X (rfl) dX9_set_117 (by first | (exfalso; omega) | (have ho := setX_ok (f := V 15) (show setC w v = 0 from by unfold setC; rw [if_neg (by omega), if_neg (by omega), if_neg (by (repeat' split) <;> omega)]); exact ⟨sAg.rf.up (by decide), by rw [ho.1, p62], by rw [ho.2, sUp_s]; (repeat' split) <;> first | rfl | (exfalso; omega)⟩))
              · skip
                refine lv_aload_n hx hb dX9_set_71 rfl (lv_at hl 2 rfl) ?_
                refine sgR G X 0 0 rfl rfl fl_X9_10 dX9_set_72 ?_
                refine sgR G X 2 3 rfl rfl fl_X9_143 dX9_set_75 ?_
                refine lv_iload_n hx hb dX9_set_78 rfl (lv_at hl 4 rfl) ?_
                refine spI G X 15 0 rfl rfl fp_X9_146 dX9_set_79 (fun H locs X => ?_)
                refine lv_goto (tgt := 115) hx hb dX9_set_82 (by decide) ?_
                refine lv_iload hx hb dX9_set_115 (lv_at hl 0 rfl) ?_
                exact srI G X (rfl) dX9_set_117 (by first | (exfalso; omega) | (have ho := setX_ok (f := V 15) (show setC w v = 0 from by unfold setC; rw [if_neg (by omega), if_neg (by omega), if_neg (by (repeat' split) <;> omega)]); exact ⟨sAg.rf.up (by decide), by rw [ho.1, p62], by rw [ho.2, sUp_s]; (repeat' split) <;> first | rfl | (exfalso; omega)⟩))
            · skip
              refine lv_aload_n hx hb dX9_set_53 rfl (lv_at hl 1 rfl) ?_
              refine lv_bipush (v := (-6)) hx hb dX9_set_54 (by decide) ?_
              refine scI (ci := 8) (As := [.int (-6)]) (rest := []) G X (k_refuse ha V (-6)) iy_X9_refuse ml_X9_57 rfl rfl rfl rfl hl.1 (by decide) (by decide) (Nat.le_of_ble_eq_true rfl) dX9_set_56 (fun y56 V56 H locs p56 X => ?_)
              exact srI G X (rfl) dX9_set_59 (by first | (exfalso; omega) | (have hb := setX_bad (f := V 15) (show setC w v = -6 from by unfold setC; rw [if_neg (by omega), if_neg (by omega), if_pos (by (repeat' split) <;> omega)]) (by decide); exact ⟨sAg.mono p56.1 (by decide), by rw [p56.2]; exact hb.1, by rw [p56.1 15 (by decide)]; exact hb.2⟩))
          · skip
            refine lv_bipush (v := 20) hx hb dX9_set_41 (by decide) ?_
            refine lv_goto (tgt := 47) hx hb dX9_set_43 (by decide) ?_
            refine lv_istore_n (lv' := [(3, .int 20), (0, .ref (a 0)), (1, .int w), (2, .int v)]) hx hb dX9_set_47 rfl hl (by decide) rfl (fun ls hl => ?_)
            refine lv_iload_n hx hb dX9_set_48 rfl (lv_at hl 3 rfl) ?_
            refine lv_iload_n hx hb dX9_set_49 rfl (lv_at hl 0 rfl) ?_
            refine sIle (tgt := 60) hx hb (rfl : Int32.toInt v = _) (by decide : (20 : Int32).toInt = 20) dX9_set_50 (by decide) (fun c50 => ?_) (fun c50 => ?_)
            · skip
              refine lv_aload_n hx hb dX9_set_60 rfl (lv_at hl 1 rfl) ?_
              refine lv_iload_n hx hb dX9_set_61 rfl (lv_at hl 2 rfl) ?_
              refine scI (ci := 8) (As := [.int w]) (rest := []) G X (k_nowOf ha V w) iy_X9_nowOf ml_X9_140 rfl rfl rfl rfl hl.1 (by decide) (by decide) (Nat.le_of_ble_eq_true rfl) dX9_set_62 (fun y62 V62 H locs p62 X => ?_)
              obtain ⟨p62, z62⟩ := p62
              subst V62
              refine lv_istore (lv' := [(4, .int y62), (3, .int 20), (0, .ref (a 0)), (1, .int w), (2, .int v)]) hx hb dX9_set_65 hl (by decide) rfl (fun ls hl => ?_)
              refine lv_iload_n hx hb dX9_set_67 rfl (lv_at hl 3 rfl) ?_
              refine sZne (tgt := 85) hx hb (rfl : Int32.toInt w = _) dX9_set_68 (by decide) (fun c68 => ?_) (fun c68 => ?_)
              · skip
                refine lv_iload_n hx hb dX9_set_85 rfl (lv_at hl 3 rfl) ?_
                refine lv_iconst (v := 1) hx hb dX9_set_86 (by decide) ?_
                refine sIne (tgt := 104) hx hb (rfl : Int32.toInt w = _) (by decide : (1 : Int32).toInt = 1) dX9_set_87 (by decide) (fun c87 => ?_) (fun c87 => ?_)
                · skip
                  refine lv_aload_n hx hb dX9_set_104 rfl (lv_at hl 2 rfl) ?_
                  refine sgR G X 0 0 rfl rfl fl_X9_10 dX9_set_105 ?_
                  refine sgR G X 2 3 rfl rfl fl_X9_143 dX9_set_108 ?_
                  refine lv_iload_n hx hb dX9_set_111 rfl (lv_at hl 4 rfl) ?_
                  refine spI G X 15 2 rfl rfl fp_X9_150 dX9_set_112 (fun H locs X => ?_)
                  refine lv_iload hx hb dX9_set_115 (lv_at hl 0 rfl) ?_
                  exact srI G X (rfl) dX9_set_117 (by first | (exfalso; omega) | (have ho := setX_ok (f := V 15) (show setC w v = 0 from by unfold setC; rw [if_neg (by omega), if_neg (by omega), if_neg (by (repeat' split) <;> omega)]); exact ⟨sAg.rf.up (by decide), by rw [ho.1, p62], by rw [ho.2, sUp_s]; (repeat' split) <;> first | rfl | (exfalso; omega)⟩))
                · skip
                  refine lv_aload_n hx hb dX9_set_90 rfl (lv_at hl 2 rfl) ?_
                  refine sgR G X 0 0 rfl rfl fl_X9_10 dX9_set_91 ?_
                  refine sgR G X 2 3 rfl rfl fl_X9_143 dX9_set_94 ?_
                  refine lv_iload_n hx hb dX9_set_97 rfl (lv_at hl 4 rfl) ?_
                  refine spI G X 15 1 rfl rfl fp_X9_148 dX9_set_98 (fun H locs X => ?_)
                  refine lv_goto (tgt := 115) hx hb dX9_set_101 (by decide) ?_
                  refine lv_iload hx hb dX9_set_115 (lv_at hl 0 rfl) ?_
                  exact srI G X (rfl) dX9_set_117 (by first | (exfalso; omega) | (have ho := setX_ok (f := V 15) (show setC w v = 0 from by unfold setC; rw [if_neg (by omega), if_neg (by omega), if_neg (by (repeat' split) <;> omega)]); exact ⟨sAg.rf.up (by decide), by rw [ho.1, p62], by rw [ho.2, sUp_s]; (repeat' split) <;> first | rfl | (exfalso; omega)⟩))
              · skip
                refine lv_aload_n hx hb dX9_set_71 rfl (lv_at hl 2 rfl) ?_
                refine sgR G X 0 0 rfl rfl fl_X9_10 dX9_set_72 ?_
                refine sgR G X 2 3 rfl rfl fl_X9_143 dX9_set_75 ?_
                refine lv_iload_n hx hb dX9_set_78 rfl (lv_at hl 4 rfl) ?_
                refine spI G X 15 0 rfl rfl fp_X9_146 dX9_set_79 (fun H locs X => ?_)
                refine lv_goto (tgt := 115) hx hb dX9_set_82 (by decide) ?_
                refine lv_iload hx hb dX9_set_115 (lv_at hl 0 rfl) ?_
                exact srI G X (rfl) dX9_set_117 (by first | (exfalso; omega) | (have ho := setX_ok (f := V 15) (show setC w v = 0 from by unfold setC; rw [if_neg (by omega), if_neg (by omega), if_neg (by (repeat' split) <;> omega)]); exact ⟨sAg.rf.up (by decide), by rw [ho.1, p62], by rw [ho.2, sUp_s]; (repeat' split) <;> first | rfl | (exfalso; omega)⟩))
            · skip
              refine lv_aload_n hx hb dX9_set_53 rfl (lv_at hl 1 rfl) ?_
              refine lv_bipush (v := (-6)) hx hb dX9_set_54 (by decide) ?_
              refine scI (ci := 8) (As := [.int (-6)]) (rest := []) G X (k_refuse ha V (-6)) iy_X9_refuse ml_X9_57 rfl rfl rfl rfl hl.1 (by decide) (by decide) (Nat.le_of_ble_eq_true rfl) dX9_set_56 (fun y56 V56 H locs p56 X => ?_)
              exact srI G X (rfl) dX9_set_59 (by first | (exfalso; omega) | (have hb := setX_bad (f := V 15) (show setC w v = -6 from by unfold setC; rw [if_neg (by omega), if_neg (by omega), if_pos (by (repeat' split) <;> omega)]) (by decide); exact ⟨sAg.mono p56.1 (by decide), by rw [p56.2]; exact hb.1, by rw [p56.1 15 (by decide)]; exact hb.2⟩))
        · skip
          refine lv_bipush (v := 40) hx hb dX9_set_31 (by decide) ?_
          refine lv_goto (tgt := 47) hx hb dX9_set_33 (by decide) ?_
          refine lv_istore_n (lv' := [(3, .int 40), (0, .ref (a 0)), (1, .int w), (2, .int v)]) hx hb dX9_set_47 rfl hl (by decide) rfl (fun ls hl => ?_)
          refine lv_iload_n hx hb dX9_set_48 rfl (lv_at hl 3 rfl) ?_
          refine lv_iload_n hx hb dX9_set_49 rfl (lv_at hl 0 rfl) ?_
          refine sIle (tgt := 60) hx hb (rfl : Int32.toInt v = _) (by decide : (40 : Int32).toInt = 40) dX9_set_50 (by decide) (fun c50 => ?_) (fun c50 => ?_)
          · skip
            refine lv_aload_n hx hb dX9_set_60 rfl (lv_at hl 1 rfl) ?_
            refine lv_iload_n hx hb dX9_set_61 rfl (lv_at hl 2 rfl) ?_
            refine scI (ci := 8) (As := [.int w]) (rest := []) G X (k_nowOf ha V w) iy_X9_nowOf ml_X9_140 rfl rfl rfl rfl hl.1 (by decide) (by decide) (Nat.le_of_ble_eq_true rfl) dX9_set_62 (fun y62 V62 H locs p62 X => ?_)
            obtain ⟨p62, z62⟩ := p62
            subst V62
            refine lv_istore (lv' := [(4, .int y62), (3, .int 40), (0, .ref (a 0)), (1, .int w), (2, .int v)]) hx hb dX9_set_65 hl (by decide) rfl (fun ls hl => ?_)
            refine lv_iload_n hx hb dX9_set_67 rfl (lv_at hl 3 rfl) ?_
            refine sZne (tgt := 85) hx hb (rfl : Int32.toInt w = _) dX9_set_68 (by decide) (fun c68 => ?_) (fun c68 => ?_)
            · skip
              refine lv_iload_n hx hb dX9_set_85 rfl (lv_at hl 3 rfl) ?_
              refine lv_iconst (v := 1) hx hb dX9_set_86 (by decide) ?_
              refine sIne (tgt := 104) hx hb (rfl : Int32.toInt w = _) (by decide : (1 : Int32).toInt = 1) dX9_set_87 (by decide) (fun c87 => ?_) (fun c87 => ?_)
              · skip
                refine lv_aload_n hx hb dX9_set_104 rfl (lv_at hl 2 rfl) ?_
                refine sgR G X 0 0 rfl rfl fl_X9_10 dX9_set_105 ?_
                refine sgR G X 2 3 rfl rfl fl_X9_143 dX9_set_108 ?_
                refine lv_iload_n hx hb dX9_set_111 rfl (lv_at hl 4 rfl) ?_
                refine spI G X 15 2 rfl rfl fp_X9_150 dX9_set_112 (fun H locs X => ?_)
                refine lv_iload hx hb dX9_set_115 (lv_at hl 0 rfl) ?_
                exact srI G X (rfl) dX9_set_117 (by first | (exfalso; omega) | (have ho := setX_ok (f := V 15) (show setC w v = 0 from by unfold setC; rw [if_neg (by omega), if_neg (by omega), if_neg (by (repeat' split) <;> omega)]); exact ⟨sAg.rf.up (by decide), by rw [ho.1, p62], by rw [ho.2, sUp_s]; (repeat' split) <;> first | rfl | (exfalso; omega)⟩))
              · skip
                refine lv_aload_n hx hb dX9_set_90 rfl (lv_at hl 2 rfl) ?_
                refine sgR G X 0 0 rfl rfl fl_X9_10 dX9_set_91 ?_
                refine sgR G X 2 3 rfl rfl fl_X9_143 dX9_set_94 ?_
                refine lv_iload_n hx hb dX9_set_97 rfl (lv_at hl 4 rfl) ?_
                refine spI G X 15 1 rfl rfl fp_X9_148 dX9_set_98 (fun H locs X => ?_)
                refine lv_goto (tgt := 115) hx hb dX9_set_101 (by decide) ?_
                refine lv_iload hx hb dX9_set_115 (lv_at hl 0 rfl) ?_
                exact srI G X (rfl) dX9_set_117 (by first | (exfalso; omega) | (have ho := setX_ok (f := V 15) (show setC w v = 0 from by unfold setC; rw [if_neg (by omega), if_neg (by omega), if_neg (by (repeat' split) <;> omega)]); exact ⟨sAg.rf.up (by decide), by rw [ho.1, p62], by rw [ho.2, sUp_s]; (repeat' split) <;> first | rfl | (exfalso; omega)⟩))
            · skip
              refine lv_aload_n hx hb dX9_set_71 rfl (lv_at hl 2 rfl) ?_
              refine sgR G X 0 0 rfl rfl fl_X9_10 dX9_set_72 ?_
              refine sgR G X 2 3 rfl rfl fl_X9_143 dX9_set_75 ?_
              refine lv_iload_n hx hb dX9_set_78 rfl (lv_at hl 4 rfl) ?_
              refine spI G X 15 0 rfl rfl fp_X9_146 dX9_set_79 (fun H locs X => ?_)
              refine lv_goto (tgt := 115) hx hb dX9_set_82 (by decide) ?_
              refine lv_iload hx hb dX9_set_115 (lv_at hl 0 rfl) ?_
              exact srI G X (rfl) dX9_set_117 (by first | (exfalso; omega) | (have ho := setX_ok (f := V 15) (show setC w v = 0 from by unfold setC; rw [if_neg (by omega), if_neg (by omega), if_neg (by (repeat' split) <;> omega)]); exact ⟨sAg.rf.up (by decide), by rw [ho.1, p62], by rw [ho.2, sUp_s]; (repeat' split) <;> first | rfl | (exfalso; omega)⟩))
          · skip
            refine lv_aload_n hx hb dX9_set_53 rfl (lv_at hl 1 rfl) ?_
            refine lv_bipush (v := (-6)) hx hb dX9_set_54 (by decide) ?_
            refine scI (ci := 8) (As := [.int (-6)]) (rest := []) G X (k_refuse ha V (-6)) iy_X9_refuse ml_X9_57 rfl rfl rfl rfl hl.1 (by decide) (by decide) (Nat.le_of_ble_eq_true rfl) dX9_set_56 (fun y56 V56 H locs p56 X => ?_)
            exact srI G X (rfl) dX9_set_59 (by first | (exfalso; omega) | (have hb := setX_bad (f := V 15) (show setC w v = -6 from by unfold setC; rw [if_neg (by omega), if_neg (by omega), if_pos (by (repeat' split) <;> omega)]) (by decide); exact ⟨sAg.mono p56.1 (by decide), by rw [p56.2]; exact hb.1, by rw [p56.1 15 (by decide)]; exact hb.2⟩))
      · skip
        refine lv_aload_n hx hb dX9_set_20 rfl (lv_at hl 0 rfl) ?_
        refine lv_bipush (v := (-4)) hx hb dX9_set_21 (by decide) ?_
        refine scI (ci := 8) (As := [.int (-4)]) (rest := []) G X (k_refuse ha V (-4)) iy_X9_refuse ml_X9_57 rfl rfl rfl rfl hl.1 (by decide) (by decide) (Nat.le_of_ble_eq_true rfl) dX9_set_23 (fun y23 V23 H locs p23 X => ?_)
        exact srI G X (rfl) dX9_set_26 (by (have hb := setX_bad (f := V 15) (show setC w v = -4 from by unfold setC; rw [if_neg (by omega), if_pos (by omega)]) (by decide); exact ⟨sAg.mono p23.1 (by decide), by rw [p23.2]; exact hb.1, by rw [p23.1 15 (by decide)]; exact hb.2⟩))
    · skip
      refine lv_aload_n hx hb dX9_set_9 rfl (lv_at hl 0 rfl) ?_
      refine lv_bipush (v := (-2)) hx hb dX9_set_10 (by decide) ?_
      refine scI (ci := 8) (As := [.int (-2)]) (rest := []) G X (k_refuse ha V (-2)) iy_X9_refuse ml_X9_57 rfl rfl rfl rfl hl.1 (by decide) (by decide) (Nat.le_of_ble_eq_true rfl) dX9_set_12 (fun y12 V12 H locs p12 X => ?_)
      exact srI G X (rfl) dX9_set_15 (by (have hb := setX_bad (f := V 15) (show setC w v = -2 from by unfold setC; exact if_pos (by omega)) (by decide); exact ⟨sAg.mono p12.1 (by decide), by rw [p12.2]; exact hb.1, by rw [p12.1 15 (by decide)]; exact hb.2⟩))
def q_fan (V : sV) (v : Int32) : Int32 → sV → Prop := fun x V1 => sAg [1, 15] V V1 ∧ x = fanX v ∧ V1 15 = fanN (V 15) v
set_option maxRecDepth 100000 in
set_option maxHeartbeats 4000000 in
theorem k_fan {l : Launch} {D : va_G} {cI : ClassId} {a : Nat → Nat} (ha : sInj SX a) (V : sV) (v : Int32) : sMI l D cI SX a V yX9_fan cX9_fan 2 .int 2 [.ref (a 0), .int v] (q_fan V v) := by
  refine sMIof ha (by decide +kernel) (Nat.le_of_ble_eq_true rfl) ?_
  intro p e s m below meth c ls G X hl
  obtain ⟨hx, hb, hml, hown, hts, hlocks, hr, hK⟩ := id G
  have hl : lv_has ls 2 [(0, .ref (a 0)), (1, .int v)] := hl
  refine lv_iload_n hx hb dX9_fan_0 rfl (lv_at hl 1 rfl) ?_
  refine lv_bipush (v := (-50)) hx hb dX9_fan_1 (by decide) ?_
  refine sIge (tgt := 13) hx hb (rfl : Int32.toInt v = _) (by decide : ((-50) : Int32).toInt = -50) dX9_fan_3 (by decide) (fun c3 => ?_) (fun c3 => ?_)
  · skip
    refine lv_iload_n hx hb dX9_fan_13 rfl (lv_at hl 1 rfl) ?_
    refine lv_bipush (v := 50) hx hb dX9_fan_14 (by decide) ?_
    refine sIle (tgt := 26) hx hb (rfl : Int32.toInt v = _) (by decide : (50 : Int32).toInt = 50) dX9_fan_16 (by decide) (fun c16 => ?_) (fun c16 => ?_)
    · skip
      refine lv_aload_n hx hb dX9_fan_26 rfl (lv_at hl 0 rfl) ?_
      refine sgR G X 0 0 rfl rfl fl_X9_10 dX9_fan_27 ?_
      refine sgR G X 2 3 rfl rfl fl_X9_143 dX9_fan_30 ?_
      refine lv_iload_n hx hb dX9_fan_33 rfl (lv_at hl 1 rfl) ?_
      refine spI G X 15 3 rfl rfl fp_X9_152 dX9_fan_34 (fun H locs X => ?_)
      refine lv_iload_n hx hb dX9_fan_37 rfl (lv_at hl 1 rfl) ?_
      refine lv_bipush (v := 50) hx hb dX9_fan_38 (by decide) ?_
      refine lv_iadd hx hb dX9_fan_40 ?_
      refine lv_topi (fun x40 e40 => ?_)
      exact srI G X (rfl) dX9_fan_41 (by exact ⟨sAg.rf.up (by decide), by rw [e40]; unfold fanX; rw [if_neg (by omega), if_neg (by omega)], by rw [sUp_s]; unfold fanN; rw [if_neg (by omega), if_neg (by omega)]⟩)
    · skip
      refine lv_aload_n hx hb dX9_fan_19 rfl (lv_at hl 0 rfl) ?_
      refine lv_bipush (v := (-6)) hx hb dX9_fan_20 (by decide) ?_
      refine scI (ci := 8) (As := [.int (-6)]) (rest := []) G X (k_refuse ha V (-6)) iy_X9_refuse ml_X9_57 rfl rfl rfl rfl hl.1 (by decide) (by decide) (Nat.le_of_ble_eq_true rfl) dX9_fan_22 (fun y22 V22 H locs p22 X => ?_)
      exact srI G X (rfl) dX9_fan_25 (by exact ⟨sAg.mono p22.1 (by decide), by rw [p22.2]; unfold fanX; rw [if_neg (by omega), if_pos c16], by rw [p22.1 15 (by decide)]; unfold fanN; rw [if_neg (by omega), if_pos c16]⟩)
  · skip
    refine lv_aload_n hx hb dX9_fan_6 rfl (lv_at hl 0 rfl) ?_
    refine lv_bipush (v := (-4)) hx hb dX9_fan_7 (by decide) ?_
    refine scI (ci := 8) (As := [.int (-4)]) (rest := []) G X (k_refuse ha V (-4)) iy_X9_refuse ml_X9_57 rfl rfl rfl rfl hl.1 (by decide) (by decide) (Nat.le_of_ble_eq_true rfl) dX9_fan_9 (fun y9 V9 H locs p9 X => ?_)
    exact srI G X (rfl) dX9_fan_12 (by exact ⟨sAg.mono p9.1 (by decide), by rw [p9.2]; unfold fanX; rw [if_pos c3], by rw [p9.1 15 (by decide)]; unfold fanN; rw [if_pos c3]⟩)
def q_now (V : sV) (w : Int32) : Int32 → sV → Prop := fun x V1 => sAg [1] V V1 ∧ x = nowX (V 15) w
set_option maxRecDepth 100000 in
set_option maxHeartbeats 4000000 in
theorem k_now {l : Launch} {D : va_G} {cI : ClassId} {a : Nat → Nat} (ha : sInj SX a) (V : sV) (w : Int32) : sMI l D cI SX a V yX9_now cX9_now 2 .int 3 [.ref (a 0), .int w] (q_now V w) := by
  refine sMIof ha (by decide +kernel) (Nat.le_of_ble_eq_true rfl) ?_
  intro p e s m below meth c ls G X hl
  obtain ⟨hx, hb, hml, hown, hts, hlocks, hr, hK⟩ := id G
  have hl : lv_has ls 2 [(0, .ref (a 0)), (1, .int w)] := hl
  refine lv_iload_n hx hb dX9_now_0 rfl (lv_at hl 1 rfl) ?_
  refine sZlt (tgt := 9) hx hb (rfl : Int32.toInt w = _) dX9_now_1 (by decide) (fun c1 => ?_) (fun c1 => ?_)
  · skip
    refine lv_aload_n hx hb dX9_now_9 rfl (lv_at hl 0 rfl) ?_
    refine lv_bipush (v := (-2)) hx hb dX9_now_10 (by decide) ?_
    refine scI (ci := 8) (As := [.int (-2)]) (rest := []) G X (k_refuseFar ha V (-2)) iy_X9_refuseFar ml_X9_155 rfl rfl rfl rfl hl.1 (by decide) (by decide) (Nat.le_of_ble_eq_true rfl) dX9_now_12 (fun y12 V12 H locs p12 X => ?_)
    exact srI G X (rfl) dX9_now_15 (by exact ⟨p12.1, by rw [p12.2]; unfold nowX; (repeat' split) <;> first | rfl | (exfalso; omega)⟩)
  · skip
    refine lv_iload_n hx hb dX9_now_4 rfl (lv_at hl 1 rfl) ?_
    refine lv_iconst (v := 3) hx hb dX9_now_5 (by decide) ?_
    refine sIle (tgt := 16) hx hb (rfl : Int32.toInt w = _) (by decide : (3 : Int32).toInt = 3) dX9_now_6 (by decide) (fun c6 => ?_) (fun c6 => ?_)
    · skip
      refine lv_aload_n hx hb dX9_now_16 rfl (lv_at hl 0 rfl) ?_
      refine lv_iload_n hx hb dX9_now_17 rfl (lv_at hl 1 rfl) ?_
      refine scI (ci := 8) (As := [.int w]) (rest := []) G X (k_nowOf ha V w) iy_X9_nowOf ml_X9_140 rfl rfl rfl rfl hl.1 (by decide) (by decide) (Nat.le_of_ble_eq_true rfl) dX9_now_18 (fun y18 V18 H locs p18 X => ?_)
      obtain ⟨p18, z18⟩ := p18
      subst V18
      exact srI G X (rfl) dX9_now_21 (by exact ⟨sAg.rf, by rw [p18]; unfold nowX; rw [if_neg (by omega), if_neg (by omega)]⟩)
    · skip
      refine lv_aload_n hx hb dX9_now_9 rfl (lv_at hl 0 rfl) ?_
      refine lv_bipush (v := (-2)) hx hb dX9_now_10 (by decide) ?_
      refine scI (ci := 8) (As := [.int (-2)]) (rest := []) G X (k_refuseFar ha V (-2)) iy_X9_refuseFar ml_X9_155 rfl rfl rfl rfl hl.1 (by decide) (by decide) (Nat.le_of_ble_eq_true rfl) dX9_now_12 (fun y12 V12 H locs p12 X => ?_)
      exact srI G X (rfl) dX9_now_15 (by exact ⟨p12.1, by rw [p12.2]; unfold nowX; (repeat' split) <;> first | rfl | (exfalso; omega)⟩)
def q_size (V : sV) (i v : Int32) : Int32 → sV → Prop := fun x V1 => sAg [1, 7] V V1 ∧ (sFr V → x = -1)
set_option maxRecDepth 100000 in
set_option maxHeartbeats 4000000 in
theorem k_size {l : Launch} {D : va_G} {cI : ClassId} {a : Nat → Nat} (ha : sInj SX a) (V : sV) (i v : Int32) : sMI l D cI SX a V yX9_size cX9_size 4 .int 2 [.ref (a 0), .int i, .int v] (q_size V i v) := by
  refine sMIof ha (by decide +kernel) (Nat.le_of_ble_eq_true rfl) ?_
  intro p e s m below meth c ls G X hl
  obtain ⟨hx, hb, hml, hown, hts, hlocks, hr, hK⟩ := id G
  have hl : lv_has ls 4 [(0, .ref (a 0)), (1, .int i), (2, .int v)] := hl
  refine lv_aload_n hx hb dX9_size_0 rfl (lv_at hl 0 rfl) ?_
  refine sgR G X 0 0 rfl rfl fl_X9_10 dX9_size_1 ?_
  refine sgR G X 2 1 rfl rfl fl_X9_89 dX9_size_4 ?_
  refine lv_iload_n hx hb dX9_size_7 rfl (lv_at hl 1 rfl) ?_
  refine scI (ci := 2) (As := [.int i]) (rest := []) G X (k_has ha V i) iy_X2_has ml_X9_93 rfl rfl rfl rfl hl.1 (by decide) (by decide) (Nat.le_of_ble_eq_true rfl) dX9_size_8 (fun y8 V8 H locs p8 X => ?_)
  obtain ⟨p8, z8⟩ := p8
  subst V8
  refine sZne (tgt := 20) hx hb (rfl : Int32.toInt y8 = _) dX9_size_11 (by decide) (fun c11 => ?_) (fun c11 => ?_)
  · skip
    refine lv_iload_n hx hb dX9_size_20 rfl (lv_at hl 2 rfl) ?_
    refine sZge (tgt := 31) hx hb (rfl : Int32.toInt v = _) dX9_size_21 (by decide) (fun c21 => ?_) (fun c21 => ?_)
    · skip
      refine lv_iload_n hx hb dX9_size_31 rfl (lv_at hl 2 rfl) ?_
      refine lv_bipush (v := 9) hx hb dX9_size_32 (by decide) ?_
      refine sIle (tgt := 44) hx hb (rfl : Int32.toInt v = _) (by decide : (9 : Int32).toInt = 9) dX9_size_34 (by decide) (fun c34 => ?_) (fun c34 => ?_)
      · skip
        refine lv_aload_n hx hb dX9_size_44 rfl (lv_at hl 0 rfl) ?_
        refine sgR G X 0 0 rfl rfl fl_X9_10 dX9_size_45 ?_
        refine sgR G X 2 1 rfl rfl fl_X9_89 dX9_size_48 ?_
        refine sgR G X 3 3 rfl rfl fl_X9_114 dX9_size_51 ?_
        refine lv_iload_n hx hb dX9_size_54 rfl (lv_at hl 1 rfl) ?_
        refine scSI (As := [.ref (a 7), .int i]) (rest := []) G X (k_at ha V 7 10 rfl (by first | decide | assumption) i) iy_X5_at ml_X9_102 rfl rfl hl.1 (by decide) (by decide) (Nat.le_of_ble_eq_true rfl) dX9_size_55 (fun y55 V55 H locs p55 X => ?_)
        obtain ⟨p55, z55⟩ := p55
        subst V55
        refine lv_istore_n (lv' := [(3, .int y55), (0, .ref (a 0)), (1, .int i), (2, .int v)]) hx hb dX9_size_58 rfl hl (by decide) rfl (fun ls hl => ?_)
        refine lv_aload_n hx hb dX9_size_59 rfl (lv_at hl 1 rfl) ?_
        refine sgR G X 0 0 rfl rfl fl_X9_10 dX9_size_60 ?_
        refine sgR G X 2 1 rfl rfl fl_X9_89 dX9_size_63 ?_
        refine sgR G X 3 3 rfl rfl fl_X9_114 dX9_size_66 ?_
        refine lv_iload_n hx hb dX9_size_69 rfl (lv_at hl 2 rfl) ?_
        refine lv_iload_n hx hb dX9_size_70 rfl (lv_at hl 3 rfl) ?_
        refine scSV (As := [.ref (a 7), .int i, .int v]) (rest := []) G X (k_put ha V 7 10 rfl (by first | decide | assumption) i v) iy_X5_put ml_X9_158 rfl rfl hl.1 (by decide) (by decide) (Nat.le_of_ble_eq_true rfl) dX9_size_71 (fun V71 H locs p71 X => ?_)
        refine lv_iload_n hx hb dX9_size_74 rfl (lv_at hl 0 rfl) ?_
        exact srI G X (rfl) dX9_size_75 (by exact ⟨by rw [show V71 = _ from p71]; exact sAg.rf.up (by decide), (fun hf => by exfalso; have hg := hf.t; omega)⟩)
      · skip
        refine lv_aload_n hx hb dX9_size_37 rfl (lv_at hl 0 rfl) ?_
        refine lv_bipush (v := (-6)) hx hb dX9_size_38 (by decide) ?_
        refine scI (ci := 8) (As := [.int (-6)]) (rest := []) G X (k_refuse ha V (-6)) iy_X9_refuse ml_X9_57 rfl rfl rfl rfl hl.1 (by decide) (by decide) (Nat.le_of_ble_eq_true rfl) dX9_size_40 (fun y40 V40 H locs p40 X => ?_)
        exact srI G X (rfl) dX9_size_43 (by exact ⟨sAg.mono p40.1 (by decide), (fun hf => by exfalso; have hg := hf.t; omega)⟩)
    · skip
      refine lv_aload_n hx hb dX9_size_24 rfl (lv_at hl 0 rfl) ?_
      refine lv_bipush (v := (-4)) hx hb dX9_size_25 (by decide) ?_
      refine scI (ci := 8) (As := [.int (-4)]) (rest := []) G X (k_refuse ha V (-4)) iy_X9_refuse ml_X9_57 rfl rfl rfl rfl hl.1 (by decide) (by decide) (Nat.le_of_ble_eq_true rfl) dX9_size_27 (fun y27 V27 H locs p27 X => ?_)
      exact srI G X (rfl) dX9_size_30 (by exact ⟨sAg.mono p27.1 (by decide), (fun hf => by exfalso; have hg := hf.t; omega)⟩)
  · skip
    refine lv_aload_n hx hb dX9_size_14 rfl (lv_at hl 0 rfl) ?_
    refine lv_iconst (v := (-1)) hx hb dX9_size_15 (by decide) ?_
    refine scI (ci := 8) (As := [.int (-1)]) (rest := []) G X (k_refuse ha V (-1)) iy_X9_refuse ml_X9_57 rfl rfl rfl rfl hl.1 (by decide) (by decide) (Nat.le_of_ble_eq_true rfl) dX9_size_16 (fun y16 V16 H locs p16 X => ?_)
    exact srI G X (rfl) dX9_size_19 (by exact ⟨sAg.mono p16.1 (by decide), fun _ => p16.2⟩)
def q_outside (V : sV) (i : Int32) : Int32 → sV → Prop := fun x V1 => sAg [1] V V1 ∧ (sFr V → x = 1000000001)
set_option maxRecDepth 100000 in
set_option maxHeartbeats 4000000 in
theorem k_outside {l : Launch} {D : va_G} {cI : ClassId} {a : Nat → Nat} (ha : sInj SX a) (V : sV) (i : Int32) : sMI l D cI SX a V yX9_outside cX9_outside 2 .int 3 [.ref (a 0), .int i] (q_outside V i) := by
  refine sMIof ha (by decide +kernel) (Nat.le_of_ble_eq_true rfl) ?_
  intro p e s m below meth c ls G X hl
  obtain ⟨hx, hb, hml, hown, hts, hlocks, hr, hK⟩ := id G
  have hl : lv_has ls 2 [(0, .ref (a 0)), (1, .int i)] := hl
  refine lv_aload_n hx hb dX9_outside_0 rfl (lv_at hl 0 rfl) ?_
  refine sgR G X 0 0 rfl rfl fl_X9_10 dX9_outside_1 ?_
  refine sgR G X 2 1 rfl rfl fl_X9_89 dX9_outside_4 ?_
  refine lv_iload_n hx hb dX9_outside_7 rfl (lv_at hl 1 rfl) ?_
  refine scI (ci := 2) (As := [.int i]) (rest := []) G X (k_has ha V i) iy_X2_has ml_X9_93 rfl rfl rfl rfl hl.1 (by decide) (by decide) (Nat.le_of_ble_eq_true rfl) dX9_outside_8 (fun y8 V8 H locs p8 X => ?_)
  obtain ⟨p8, z8⟩ := p8
  subst V8
  refine sZne (tgt := 20) hx hb (rfl : Int32.toInt y8 = _) dX9_outside_11 (by decide) (fun c11 => ?_) (fun c11 => ?_)
  · skip
    refine lv_aload_n hx hb dX9_outside_20 rfl (lv_at hl 0 rfl) ?_
    refine sgR G X 0 0 rfl rfl fl_X9_10 dX9_outside_21 ?_
    refine sgR G X 2 1 rfl rfl fl_X9_89 dX9_outside_24 ?_
    refine lv_iload_n hx hb dX9_outside_27 rfl (lv_at hl 1 rfl) ?_
    refine scI (ci := 2) (As := [.int i]) (rest := []) G X (k_isDoor ha V i) iy_X2_isDoor ml_X9_162 rfl rfl rfl rfl hl.1 (by decide) (by decide) (Nat.le_of_ble_eq_true rfl) dX9_outside_28 (fun y28 V28 H locs p28 X => ?_)
    obtain ⟨p28, z28⟩ := p28
    subst V28
    refine sZeq (tgt := 41) hx hb (rfl : Int32.toInt y28 = _) dX9_outside_31 (by decide) (fun c31 => ?_) (fun c31 => ?_)
    · skip
      refine lv_aload_n hx hb dX9_outside_41 rfl (lv_at hl 0 rfl) ?_
      refine sgR G X 0 0 rfl rfl fl_X9_10 dX9_outside_42 ?_
      refine sgR G X 2 1 rfl rfl fl_X9_89 dX9_outside_45 ?_
      refine lv_iload_n hx hb dX9_outside_48 rfl (lv_at hl 1 rfl) ?_
      refine lv_aload_n hx hb dX9_outside_49 rfl (lv_at hl 0 rfl) ?_
      refine sgR G X 0 0 rfl rfl fl_X9_10 dX9_outside_50 ?_
      refine sgR G X 2 3 rfl rfl fl_X9_143 dX9_outside_53 ?_
      refine scI (ci := 2) (As := [.int i, .ref (a 15)]) (rest := []) G X (k_outsidePush ha V i 15 rfl) iy_X2_outsidePush ml_X9_165 rfl rfl rfl rfl hl.1 (by decide) (by decide) (Nat.le_of_ble_eq_true rfl) dX9_outside_56 (fun y56 V56 H locs p56 X => ?_)
      obtain ⟨p56, z56⟩ := p56
      subst V56
      exact srI G X (rfl) dX9_outside_59 (by exact ⟨sAg.rf, (fun hf => by exfalso; have hg := hf.t; omega)⟩)
    · skip
      refine lv_aload_n hx hb dX9_outside_34 rfl (lv_at hl 0 rfl) ?_
      refine lv_bipush (v := (-3)) hx hb dX9_outside_35 (by decide) ?_
      refine scI (ci := 8) (As := [.int (-3)]) (rest := []) G X (k_refuseFar ha V (-3)) iy_X9_refuseFar ml_X9_155 rfl rfl rfl rfl hl.1 (by decide) (by decide) (Nat.le_of_ble_eq_true rfl) dX9_outside_37 (fun y37 V37 H locs p37 X => ?_)
      exact srI G X (rfl) dX9_outside_40 (by exact ⟨sAg.mono p37.1 (by decide), (fun hf => by exfalso; have hg := hf.t; omega)⟩)
  · skip
    refine lv_aload_n hx hb dX9_outside_14 rfl (lv_at hl 0 rfl) ?_
    refine lv_iconst (v := (-1)) hx hb dX9_outside_15 (by decide) ?_
    refine scI (ci := 8) (As := [.int (-1)]) (rest := []) G X (k_refuseFar ha V (-1)) iy_X9_refuseFar ml_X9_155 rfl rfl rfl rfl hl.1 (by decide) (by decide) (Nat.le_of_ble_eq_true rfl) dX9_outside_16 (fun y16 V16 H locs p16 X => ?_)
    exact srI G X (rfl) dX9_outside_19 (by exact ⟨sAg.mono p16.1 (by decide), fun _ => by rw [p16.2]; rfl⟩)
def q_push (V : sV) (i : Int32) : Int32 → sV → Prop := fun x V1 => sAg [1, 39, 40, 41, 42, 43, 44] V V1 ∧ (sFr V → x = fPush i)
set_option maxRecDepth 100000 in
set_option maxHeartbeats 4000000 in
theorem k_push {l : Launch} {D : va_G} {cI : ClassId} {a : Nat → Nat} (ha : sInj SX a) (V : sV) (i : Int32) : sMI l D cI SX a V yX9_push cX9_push 2 .int 5 [.ref (a 0), .int i] (q_push V i) := by
  refine sMIof ha (by decide +kernel) (Nat.le_of_ble_eq_true rfl) ?_
  intro p e s m below meth c ls G X hl
  obtain ⟨hx, hb, hml, hown, hts, hlocks, hr, hK⟩ := id G
  have hl : lv_has ls 2 [(0, .ref (a 0)), (1, .int i)] := hl
  refine lv_iload_n hx hb dX9_push_0 rfl (lv_at hl 1 rfl) ?_
  refine sZlt (tgt := 15) hx hb (rfl : Int32.toInt i = _) dX9_push_1 (by decide) (fun c1 => ?_) (fun c1 => ?_)
  · skip
    refine lv_aload_n hx hb dX9_push_15 rfl (lv_at hl 0 rfl) ?_
    refine lv_iconst (v := (-1)) hx hb dX9_push_16 (by decide) ?_
    refine scI (ci := 8) (As := [.int (-1)]) (rest := []) G X (k_refuseFar ha V (-1)) iy_X9_refuseFar ml_X9_155 rfl rfl rfl rfl hl.1 (by decide) (by decide) (Nat.le_of_ble_eq_true rfl) dX9_push_17 (fun y17 V17 H locs p17 X => ?_)
    exact srI G X (rfl) dX9_push_20 (by exact ⟨sAg.mono p17.1 (by decide), (fun hf => by have hg := hf.t; rw [p17.2]; unfold fPush; (repeat' split) <;> first | rfl | (exfalso; omega))⟩)
  · skip
    refine lv_iload_n hx hb dX9_push_4 rfl (lv_at hl 1 rfl) ?_
    refine lv_aload_n hx hb dX9_push_5 rfl (lv_at hl 0 rfl) ?_
    refine sgR G X 0 0 rfl rfl fl_X9_10 dX9_push_6 ?_
    refine sgI G X 2 0 rfl rfl fl_X9_169 dX9_push_9 ?_
    refine sIlt (tgt := 21) hx hb (rfl : Int32.toInt i = _) (rfl : Int32.toInt (V 2 0) = _) dX9_push_12 (by decide) (fun c12 => ?_) (fun c12 => ?_)
    · skip
      refine lv_aload_n hx hb dX9_push_21 rfl (lv_at hl 0 rfl) ?_
      refine lv_iconst (v := 0) hx hb dX9_push_22 (by decide) ?_
      refine scV (ci := 8) (As := [.int 0]) (rest := []) G X (k_settleNow ha V 0) iy_X9_settleNow ml_X9_172 rfl rfl rfl rfl hl.1 (by decide) (by decide) (Nat.le_of_ble_eq_true rfl) dX9_push_23 (fun V23 H locs p23 X => ?_)
      refine lv_aload_n hx hb dX9_push_26 rfl (lv_at hl 0 rfl) ?_
      refine sgR G X 0 3 rfl rfl fl_X9_28 dX9_push_27 ?_
      refine sgR G X 38 5 rfl rfl fl_X9_175 dX9_push_30 ?_
      refine lv_iload_n hx hb dX9_push_33 rfl (lv_at hl 1 rfl) ?_
      refine scSI (As := [.ref (a 43), .int i]) (rest := []) G X (k_at ha V23 43 6 rfl (by first | decide | assumption) i) iy_X5_at ml_X9_102 rfl rfl hl.1 (by decide) (by decide) (Nat.le_of_ble_eq_true rfl) dX9_push_34 (fun y34 V34 H locs p34 X => ?_)
      obtain ⟨p34, z34⟩ := p34
      subst V34
      exact srI G X (rfl) dX9_push_37 (by exact ⟨sAg.mono p23.1 (by decide), (fun hf => by have hg := hf.t; rw [p34, (p23.2 hf.quiet hf.2.2.1).1 i]; unfold fPush; (repeat' split) <;> first | rfl | (exfalso; omega))⟩)
    · skip
      refine lv_aload_n hx hb dX9_push_15 rfl (lv_at hl 0 rfl) ?_
      refine lv_iconst (v := (-1)) hx hb dX9_push_16 (by decide) ?_
      refine scI (ci := 8) (As := [.int (-1)]) (rest := []) G X (k_refuseFar ha V (-1)) iy_X9_refuseFar ml_X9_155 rfl rfl rfl rfl hl.1 (by decide) (by decide) (Nat.le_of_ble_eq_true rfl) dX9_push_17 (fun y17 V17 H locs p17 X => ?_)
      exact srI G X (rfl) dX9_push_20 (by exact ⟨sAg.mono p17.1 (by decide), (fun hf => by have hg := hf.t; rw [p17.2]; unfold fPush; (repeat' split) <;> first | rfl | (exfalso; omega))⟩)
def q_flowP (V : sV) (i : Int32) : Int32 → sV → Prop := fun x V1 => sAg [1, 39, 40, 41, 42, 43, 44] V V1 ∧ (sFr V → x = 1000000001)
set_option maxRecDepth 100000 in
set_option maxHeartbeats 4000000 in
theorem k_flowP {l : Launch} {D : va_G} {cI : ClassId} {a : Nat → Nat} (ha : sInj SX a) (V : sV) (i : Int32) : sMI l D cI SX a V yX9_flow cX9_flow 2 .int 5 [.ref (a 0), .int i] (q_flowP V i) := by
  refine sMIof ha (by decide +kernel) (Nat.le_of_ble_eq_true rfl) ?_
  intro p e s m below meth c ls G X hl
  obtain ⟨hx, hb, hml, hown, hts, hlocks, hr, hK⟩ := id G
  have hl : lv_has ls 2 [(0, .ref (a 0)), (1, .int i)] := hl
  refine lv_aload_n hx hb dX9_flow_0 rfl (lv_at hl 0 rfl) ?_
  refine sgR G X 0 0 rfl rfl fl_X9_10 dX9_flow_1 ?_
  refine sgR G X 2 1 rfl rfl fl_X9_89 dX9_flow_4 ?_
  refine lv_iload_n hx hb dX9_flow_7 rfl (lv_at hl 1 rfl) ?_
  refine scI (ci := 2) (As := [.int i]) (rest := []) G X (k_has ha V i) iy_X2_has ml_X9_93 rfl rfl rfl rfl hl.1 (by decide) (by decide) (Nat.le_of_ble_eq_true rfl) dX9_flow_8 (fun y8 V8 H locs p8 X => ?_)
  obtain ⟨p8, z8⟩ := p8
  subst V8
  refine sZne (tgt := 20) hx hb (rfl : Int32.toInt y8 = _) dX9_flow_11 (by decide) (fun c11 => ?_) (fun c11 => ?_)
  · skip
    refine lv_aload_n hx hb dX9_flow_20 rfl (lv_at hl 0 rfl) ?_
    refine lv_iconst (v := 0) hx hb dX9_flow_21 (by decide) ?_
    refine scV (ci := 8) (As := [.int 0]) (rest := []) G X (k_settleNow ha V 0) iy_X9_settleNow ml_X9_172 rfl rfl rfl rfl hl.1 (by decide) (by decide) (Nat.le_of_ble_eq_true rfl) dX9_flow_22 (fun V22 H locs p22 X => ?_)
    refine lv_aload_n hx hb dX9_flow_25 rfl (lv_at hl 0 rfl) ?_
    refine sgR G X 0 3 rfl rfl fl_X9_28 dX9_flow_26 ?_
    refine lv_iload_n hx hb dX9_flow_29 rfl (lv_at hl 1 rfl) ?_
    refine scI (ci := 1) (As := [.int i]) (rest := []) G X (k_flow ha V22 i) iy_X1_flowThrough ml_X9_178 rfl rfl rfl rfl hl.1 (by decide) (by decide) (Nat.le_of_ble_eq_true rfl) dX9_flow_30 (fun y30 V30 H locs p30 X => ?_)
    obtain ⟨p30, z30⟩ := p30
    subst V30
    exact srI G X (rfl) dX9_flow_33 (by exact ⟨sAg.mono p22.1 (by decide), (fun hf => by exfalso; have hg := hf.t; omega)⟩)
  · skip
    refine lv_aload_n hx hb dX9_flow_14 rfl (lv_at hl 0 rfl) ?_
    refine lv_iconst (v := (-1)) hx hb dX9_flow_15 (by decide) ?_
    refine scI (ci := 8) (As := [.int (-1)]) (rest := []) G X (k_refuseFar ha V (-1)) iy_X9_refuseFar ml_X9_155 rfl rfl rfl rfl hl.1 (by decide) (by decide) (Nat.le_of_ble_eq_true rfl) dX9_flow_16 (fun y16 V16 H locs p16 X => ?_)
    exact srI G X (rfl) dX9_flow_19 (by exact ⟨sAg.mono p16.1 (by decide), fun _ => by rw [p16.2]; rfl⟩)
def q_lean (V : sV) (i : Int32) : Int32 → sV → Prop := fun x V1 => sAg [1, 39, 40, 41, 42, 43, 44] V V1 ∧ (sFr V → x = -1)
set_option maxRecDepth 100000 in
set_option maxHeartbeats 4000000 in
theorem k_lean {l : Launch} {D : va_G} {cI : ClassId} {a : Nat → Nat} (ha : sInj SX a) (V : sV) (i : Int32) : sMI l D cI SX a V yX9_lean cX9_lean 2 .int 5 [.ref (a 0), .int i] (q_lean V i) := by
  refine sMIof ha (by decide +kernel) (Nat.le_of_ble_eq_true rfl) ?_
  intro p e s m below meth c ls G X hl
  obtain ⟨hx, hb, hml, hown, hts, hlocks, hr, hK⟩ := id G
  have hl : lv_has ls 2 [(0, .ref (a 0)), (1, .int i)] := hl
  refine lv_aload_n hx hb dX9_lean_0 rfl (lv_at hl 0 rfl) ?_
  refine sgR G X 0 0 rfl rfl fl_X9_10 dX9_lean_1 ?_
  refine sgR G X 2 1 rfl rfl fl_X9_89 dX9_lean_4 ?_
  refine lv_iload_n hx hb dX9_lean_7 rfl (lv_at hl 1 rfl) ?_
  refine scI (ci := 2) (As := [.int i]) (rest := []) G X (k_has ha V i) iy_X2_has ml_X9_93 rfl rfl rfl rfl hl.1 (by decide) (by decide) (Nat.le_of_ble_eq_true rfl) dX9_lean_8 (fun y8 V8 H locs p8 X => ?_)
  obtain ⟨p8, z8⟩ := p8
  subst V8
  refine sZne (tgt := 20) hx hb (rfl : Int32.toInt y8 = _) dX9_lean_11 (by decide) (fun c11 => ?_) (fun c11 => ?_)
  · skip
    refine lv_aload_n hx hb dX9_lean_20 rfl (lv_at hl 0 rfl) ?_
    refine lv_iconst (v := 0) hx hb dX9_lean_21 (by decide) ?_
    refine scV (ci := 8) (As := [.int 0]) (rest := []) G X (k_settleNow ha V 0) iy_X9_settleNow ml_X9_172 rfl rfl rfl rfl hl.1 (by decide) (by decide) (Nat.le_of_ble_eq_true rfl) dX9_lean_22 (fun V22 H locs p22 X => ?_)
    refine lv_aload_n hx hb dX9_lean_25 rfl (lv_at hl 0 rfl) ?_
    refine lv_iload_n hx hb dX9_lean_26 rfl (lv_at hl 1 rfl) ?_
    refine scI (ci := 8) (As := [.int i]) (rest := []) G X (k_leanOf ha V22 i) iy_X9_leanOf ml_X9_181 rfl rfl rfl rfl hl.1 (by decide) (by decide) (Nat.le_of_ble_eq_true rfl) dX9_lean_27 (fun y27 V27 H locs p27 X => ?_)
    obtain ⟨p27, z27⟩ := p27
    subst V27
    exact srI G X (rfl) dX9_lean_30 (by exact ⟨sAg.mono p22.1 (by decide), (fun hf => by exfalso; have hg := hf.t; omega)⟩)
  · skip
    refine lv_aload_n hx hb dX9_lean_14 rfl (lv_at hl 0 rfl) ?_
    refine lv_iconst (v := (-1)) hx hb dX9_lean_15 (by decide) ?_
    refine scI (ci := 8) (As := [.int (-1)]) (rest := []) G X (k_refuse ha V (-1)) iy_X9_refuse ml_X9_57 rfl rfl rfl rfl hl.1 (by decide) (by decide) (Nat.le_of_ble_eq_true rfl) dX9_lean_16 (fun y16 V16 H locs p16 X => ?_)
    exact srI G X (rfl) dX9_lean_19 (by exact ⟨sAg.mono p16.1 (by decide), fun _ => p16.2⟩)
def q_coal (V : sV)  : Int32 → sV → Prop := fun x V1 => sAg [39, 40, 41, 42, 43, 44] V V1 ∧ (sFr V → x = 0)
set_option maxRecDepth 100000 in
set_option maxHeartbeats 4000000 in
theorem k_coal {l : Launch} {D : va_G} {cI : ClassId} {a : Nat → Nat} (ha : sInj SX a) (V : sV)  : sMI l D cI SX a V yX9_coal cX9_coal 1 .int 5 [.ref (a 0)] (q_coal V ) := by
  refine sMIof ha (by decide +kernel) (Nat.le_of_ble_eq_true rfl) ?_
  intro p e s m below meth c ls G X hl
  obtain ⟨hx, hb, hml, hown, hts, hlocks, hr, hK⟩ := id G
  have hl : lv_has ls 1 [(0, .ref (a 0))] := hl
  refine lv_aload_n hx hb dX9_coal_0 rfl (lv_at hl 0 rfl) ?_
  refine lv_iconst (v := 0) hx hb dX9_coal_1 (by decide) ?_
  refine scI (ci := 8) (As := [.int 0]) (rest := []) G X (k_coalWithout ha V 0) iy_X9_coalWithout ml_X9_184 rfl rfl rfl rfl hl.1 (by decide) (by decide) (Nat.le_of_ble_eq_true rfl) dX9_coal_2 (fun y2 V2 H locs p2 X => ?_)
  exact srI G X (rfl) dX9_coal_5 (by exact ⟨p2.1, fun hf => p2.2 hf.quiet hf.2.2.1⟩)
def q_smokes (V : sV)  : Int32 → sV → Prop := fun x V1 => sAg [39, 40, 41, 42, 43, 44] V V1 ∧ (sFr V → x = 0)
set_option maxRecDepth 100000 in
set_option maxHeartbeats 4000000 in
theorem k_smokes {l : Launch} {D : va_G} {cI : ClassId} {a : Nat → Nat} (ha : sInj SX a) (V : sV)  : sMI l D cI SX a V yX9_smokes cX9_smokes 1 .int 5 [.ref (a 0)] (q_smokes V ) := by
  refine sMIof ha (by decide +kernel) (Nat.le_of_ble_eq_true rfl) ?_
  intro p e s m below meth c ls G X hl
  obtain ⟨hx, hb, hml, hown, hts, hlocks, hr, hK⟩ := id G
  have hl : lv_has ls 1 [(0, .ref (a 0))] := hl
  refine lv_aload_n hx hb dX9_smokes_0 rfl (lv_at hl 0 rfl) ?_
  refine lv_iconst (v := 0) hx hb dX9_smokes_1 (by decide) ?_
  refine scV (ci := 8) (As := [.int 0]) (rest := []) G X (k_settleNow ha V 0) iy_X9_settleNow ml_X9_172 rfl rfl rfl rfl hl.1 (by decide) (by decide) (Nat.le_of_ble_eq_true rfl) dX9_smokes_2 (fun V2 H locs p2 X => ?_)
  refine lv_aload_n hx hb dX9_smokes_5 rfl (lv_at hl 0 rfl) ?_
  refine sgR G X 0 3 rfl rfl fl_X9_28 dX9_smokes_6 ?_
  refine scI (ci := 1) (As := []) (rest := []) G X (k_smoking ha V2 ) iy_X1_smoking ml_X9_187 rfl rfl rfl rfl hl.1 (by decide) (by decide) (Nat.le_of_ble_eq_true rfl) dX9_smokes_9 (fun y9 V9 H locs p9 X => ?_)
  obtain ⟨p9, z9⟩ := p9
  subst V9
  refine sZeq (tgt := 19) hx hb (rfl : Int32.toInt y9 = _) dX9_smokes_12 (by decide) (fun c12 => ?_) (fun c12 => ?_)
  · skip
    refine lv_iconst (v := 0) hx hb dX9_smokes_19 (by decide) ?_
    exact srI G X (rfl) dX9_smokes_20 (by first | exact ⟨p2.1, fun _ => rfl⟩ | exact ⟨p2.1, fun hf => by exfalso; rw [p9.2 (by rw [p2.1 3 (by decide)]; exact hf.many)] at c12; exact c12 rfl⟩)
  · skip
    refine lv_iconst (v := 1) hx hb dX9_smokes_15 (by decide) ?_
    refine lv_goto (tgt := 20) hx hb dX9_smokes_16 (by decide) ?_
    exact srI G X (rfl) dX9_smokes_20 (by first | exact ⟨p2.1, fun _ => rfl⟩ | exact ⟨p2.1, fun hf => by exfalso; rw [p9.2 (by rw [p2.1 3 (by decide)]; exact hf.many)] at c12; exact c12 rfl⟩)
def q_stopped (V : sV) (i : Int32) : Int32 → sV → Prop := fun x V1 => sAg [1, 39, 40, 41, 42, 43, 44] V V1 ∧ (sFr V → x = fStopped i)
set_option maxRecDepth 100000 in
set_option maxHeartbeats 4000000 in
theorem k_stopped {l : Launch} {D : va_G} {cI : ClassId} {a : Nat → Nat} (ha : sInj SX a) (V : sV) (i : Int32) : sMI l D cI SX a V yX9_stopped cX9_stopped 2 .int 5 [.ref (a 0), .int i] (q_stopped V i) := by
  refine sMIof ha (by decide +kernel) (Nat.le_of_ble_eq_true rfl) ?_
  intro p e s m below meth c ls G X hl
  obtain ⟨hx, hb, hml, hown, hts, hlocks, hr, hK⟩ := id G
  have hl : lv_has ls 2 [(0, .ref (a 0)), (1, .int i)] := hl
  refine lv_iload_n hx hb dX9_stopped_0 rfl (lv_at hl 1 rfl) ?_
  refine sZlt (tgt := 20) hx hb (rfl : Int32.toInt i = _) dX9_stopped_1 (by decide) (fun c1 => ?_) (fun c1 => ?_)
  · skip
    refine lv_aload_n hx hb dX9_stopped_20 rfl (lv_at hl 0 rfl) ?_
    refine lv_iconst (v := (-1)) hx hb dX9_stopped_21 (by decide) ?_
    refine scI (ci := 8) (As := [.int (-1)]) (rest := []) G X (k_refuse ha V (-1)) iy_X9_refuse ml_X9_57 rfl rfl rfl rfl hl.1 (by decide) (by decide) (Nat.le_of_ble_eq_true rfl) dX9_stopped_22 (fun y22 V22 H locs p22 X => ?_)
    exact srI G X (rfl) dX9_stopped_25 (by exact ⟨sAg.mono p22.1 (by decide), fun hf => by rw [p22.2]; unfold fStopped; first | rw [if_neg (by omega)] | (rw [e16, hf.1] at c17; have h9 : (1 : Int) ≤ i.toInt := c17; rw [if_neg (by omega)])⟩)
  · skip
    refine lv_iload_n hx hb dX9_stopped_4 rfl (lv_at hl 1 rfl) ?_
    refine lv_iconst (v := 1) hx hb dX9_stopped_5 (by decide) ?_
    refine lv_aload_n hx hb dX9_stopped_6 rfl (lv_at hl 0 rfl) ?_
    refine sgR G X 0 0 rfl rfl fl_X9_10 dX9_stopped_7 ?_
    refine sgR G X 2 1 rfl rfl fl_X9_89 dX9_stopped_10 ?_
    refine sgI G X 3 7 rfl rfl fl_X9_190 dX9_stopped_13 ?_
    refine lv_ishl hx hb dX9_stopped_16 ?_
    refine lv_topi (fun x16 e16 => ?_)
    refine sIlt (tgt := 26) hx hb (rfl : Int32.toInt i = _) (rfl : Int32.toInt x16 = _) dX9_stopped_17 (by decide) (fun c17 => ?_) (fun c17 => ?_)
    · skip
      refine lv_aload_n hx hb dX9_stopped_26 rfl (lv_at hl 0 rfl) ?_
      refine lv_iload_n hx hb dX9_stopped_27 rfl (lv_at hl 1 rfl) ?_
      refine scI (ci := 8) (As := [.int i]) (rest := []) G X (k_coalWithout ha V i) iy_X9_coalWithout ml_X9_184 rfl rfl rfl rfl hl.1 (by decide) (by decide) (Nat.le_of_ble_eq_true rfl) dX9_stopped_28 (fun y28 V28 H locs p28 X => ?_)
      exact srI G X (rfl) dX9_stopped_31 (by exact ⟨sAg.mono p28.1 (by decide), fun hf => by rw [p28.2 hf.quiet hf.2.2.1]; rw [e16, hf.1] at c17; have h9 : i.toInt < (1 : Int) := c17; unfold fStopped; rw [if_pos (by omega)]⟩)
    · skip
      refine lv_aload_n hx hb dX9_stopped_20 rfl (lv_at hl 0 rfl) ?_
      refine lv_iconst (v := (-1)) hx hb dX9_stopped_21 (by decide) ?_
      refine scI (ci := 8) (As := [.int (-1)]) (rest := []) G X (k_refuse ha V (-1)) iy_X9_refuse ml_X9_57 rfl rfl rfl rfl hl.1 (by decide) (by decide) (Nat.le_of_ble_eq_true rfl) dX9_stopped_22 (fun y22 V22 H locs p22 X => ?_)
      exact srI G X (rfl) dX9_stopped_25 (by exact ⟨sAg.mono p22.1 (by decide), fun hf => by rw [p22.2]; unfold fStopped; first | rw [if_neg (by omega)] | (rw [e16, hf.1] at c17; have h9 : (1 : Int) ≤ i.toInt := c17; rw [if_neg (by omega)])⟩)
end
