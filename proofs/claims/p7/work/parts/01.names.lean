-- ===== PART A: goes FIRST, ahead of the names: the tables' words, and 'selects' of the private methods out of them =====
/-- a private method of a class that the tables say can be made, by its rows of tables_1 -/
def lw_okq (q : MethodName × Nat) : Prop := (q.1.cls ≠ "java/lang/invoke/MethodHandle" ∧ q.1.cls ≠ "java/lang/invoke/VarHandle") ∧ Cond.instantiable q.1.cls q.2 ∈ tables_1 ∧ Cond.privateMethod q.1 ∈ tables_1 ∧ Cond.instanceMethod q.1 ∈ tables_1
theorem lw_p0 : lw_okq (⟨"DraughtsByCandle", "refuse", "(I)I"⟩, 8) := ⟨⟨by decide +kernel, by decide +kernel⟩, List.mem_of_getElem? (i := 20) (by decide +kernel), List.mem_of_getElem? (i := 278) (by decide +kernel), List.mem_of_getElem? (i := 279) (by decide +kernel)⟩
theorem lw_p1 : lw_okq (⟨"DraughtsByCandle$Reader", "passStatement", "()Z"⟩, 4) := ⟨⟨by decide +kernel, by decide +kernel⟩, List.mem_of_getElem? (i := 215) (by decide +kernel), List.mem_of_getElem? (i := 306) (by decide +kernel), List.mem_of_getElem? (i := 307) (by decide +kernel)⟩
theorem lw_p2 : lw_okq (⟨"DraughtsByCandle$Reader", "passPart", "(C)Z"⟩, 4) := ⟨⟨by decide +kernel, by decide +kernel⟩, List.mem_of_getElem? (i := 215) (by decide +kernel), List.mem_of_getElem? (i := 379) (by decide +kernel), List.mem_of_getElem? (i := 380) (by decide +kernel)⟩
theorem lw_p3 : lw_okq (⟨"DraughtsByCandle$Reader", "passNumber", "(I)Z"⟩, 4) := ⟨⟨by decide +kernel, by decide +kernel⟩, List.mem_of_getElem? (i := 215) (by decide +kernel), List.mem_of_getElem? (i := 383) (by decide +kernel), List.mem_of_getElem? (i := 384) (by decide +kernel)⟩
theorem lw_p4 : lw_okq (⟨"DraughtsByCandle$Reader", "passKind", "()Z"⟩, 4) := ⟨⟨by decide +kernel, by decide +kernel⟩, List.mem_of_getElem? (i := 215) (by decide +kernel), List.mem_of_getElem? (i := 388) (by decide +kernel), List.mem_of_getElem? (i := 389) (by decide +kernel)⟩
theorem lw_p5 : lw_okq (⟨"DraughtsByCandle$Reader", "passSign", "(C)Z"⟩, 4) := ⟨⟨by decide +kernel, by decide +kernel⟩, List.mem_of_getElem? (i := 215) (by decide +kernel), List.mem_of_getElem? (i := 450) (by decide +kernel), List.mem_of_getElem? (i := 451) (by decide +kernel)⟩
theorem lw_p6 : lw_okq (⟨"DraughtsByCandle$Reader", "takeStatement", "()Z"⟩, 4) := ⟨⟨by decide +kernel, by decide +kernel⟩, List.mem_of_getElem? (i := 215) (by decide +kernel), List.mem_of_getElem? (i := 458) (by decide +kernel), List.mem_of_getElem? (i := 459) (by decide +kernel)⟩
theorem lw_p7 : lw_okq (⟨"DraughtsByCandle$Reader", "takeRooms", "(I)Z"⟩, 4) := ⟨⟨by decide +kernel, by decide +kernel⟩, List.mem_of_getElem? (i := 215) (by decide +kernel), List.mem_of_getElem? (i := 462) (by decide +kernel), List.mem_of_getElem? (i := 463) (by decide +kernel)⟩
theorem lw_p8 : lw_okq (⟨"DraughtsByCandle$Reader", "takeDoor", "(III)Z"⟩, 4) := ⟨⟨by decide +kernel, by decide +kernel⟩, List.mem_of_getElem? (i := 215) (by decide +kernel), List.mem_of_getElem? (i := 472) (by decide +kernel), List.mem_of_getElem? (i := 473) (by decide +kernel)⟩
theorem lw_p9 : lw_okq (⟨"DraughtsByCandle$Reader", "takeHole", "()Z"⟩, 4) := ⟨⟨by decide +kernel, by decide +kernel⟩, List.mem_of_getElem? (i := 215) (by decide +kernel), List.mem_of_getElem? (i := 486) (by decide +kernel), List.mem_of_getElem? (i := 487) (by decide +kernel)⟩
theorem lw_p10 : lw_okq (⟨"DraughtsByCandle$Reader", "takeWeather", "(III)Z"⟩, 4) := ⟨⟨by decide +kernel, by decide +kernel⟩, List.mem_of_getElem? (i := 215) (by decide +kernel), List.mem_of_getElem? (i := 490) (by decide +kernel), List.mem_of_getElem? (i := 491) (by decide +kernel)⟩
theorem lw_p11 : lw_okq (⟨"DraughtsByCandle", "nowOf", "(I)I"⟩, 8) := ⟨⟨by decide +kernel, by decide +kernel⟩, List.mem_of_getElem? (i := 20) (by decide +kernel), List.mem_of_getElem? (i := 522) (by decide +kernel), List.mem_of_getElem? (i := 523) (by decide +kernel)⟩
theorem lw_p12 : lw_okq (⟨"DraughtsByCandle", "refuseFar", "(I)I"⟩, 8) := ⟨⟨by decide +kernel, by decide +kernel⟩, List.mem_of_getElem? (i := 20) (by decide +kernel), List.mem_of_getElem? (i := 534) (by decide +kernel), List.mem_of_getElem? (i := 535) (by decide +kernel)⟩
theorem lw_p13 : lw_okq (⟨"DraughtsByCandle", "settleNow", "(I)V"⟩, 8) := ⟨⟨by decide +kernel, by decide +kernel⟩, List.mem_of_getElem? (i := 20) (by decide +kernel), List.mem_of_getElem? (i := 563) (by decide +kernel), List.mem_of_getElem? (i := 564) (by decide +kernel)⟩
theorem lw_p14 : lw_okq (⟨"DraughtsByCandle$Draught", "begin", "(LDraughtsByCandle$Air;)V"⟩, 8) := ⟨⟨by decide +kernel, by decide +kernel⟩, List.mem_of_getElem? (i := 183) (by decide +kernel), List.mem_of_getElem? (i := 577) (by decide +kernel), List.mem_of_getElem? (i := 578) (by decide +kernel)⟩
theorem lw_p15 : lw_okq (⟨"DraughtsByCandle$Draught", "doRound", "()V"⟩, 8) := ⟨⟨by decide +kernel, by decide +kernel⟩, List.mem_of_getElem? (i := 183) (by decide +kernel), List.mem_of_getElem? (i := 586) (by decide +kernel), List.mem_of_getElem? (i := 587) (by decide +kernel)⟩
def lw_privs_1 : List (MethodName × Nat) := [(⟨"DraughtsByCandle", "refuse", "(I)I"⟩, 8), (⟨"DraughtsByCandle$Reader", "passStatement", "()Z"⟩, 4), (⟨"DraughtsByCandle$Reader", "passPart", "(C)Z"⟩, 4), (⟨"DraughtsByCandle$Reader", "passNumber", "(I)Z"⟩, 4), (⟨"DraughtsByCandle$Reader", "passKind", "()Z"⟩, 4), (⟨"DraughtsByCandle$Reader", "passSign", "(C)Z"⟩, 4), (⟨"DraughtsByCandle$Reader", "takeStatement", "()Z"⟩, 4), (⟨"DraughtsByCandle$Reader", "takeRooms", "(I)Z"⟩, 4), (⟨"DraughtsByCandle$Reader", "takeDoor", "(III)Z"⟩, 4), (⟨"DraughtsByCandle$Reader", "takeHole", "()Z"⟩, 4), (⟨"DraughtsByCandle$Reader", "takeWeather", "(III)Z"⟩, 4), (⟨"DraughtsByCandle", "nowOf", "(I)I"⟩, 8), (⟨"DraughtsByCandle", "refuseFar", "(I)I"⟩, 8), (⟨"DraughtsByCandle", "settleNow", "(I)V"⟩, 8), (⟨"DraughtsByCandle$Draught", "begin", "(LDraughtsByCandle$Air;)V"⟩, 8), (⟨"DraughtsByCandle$Draught", "doRound", "()V"⟩, 8)]
theorem lw_r1 : ∀ q ∈ lw_privs_1, lw_okq q := List.forall_mem_cons.mpr ⟨lw_p0, List.forall_mem_cons.mpr ⟨lw_p1, List.forall_mem_cons.mpr ⟨lw_p2, List.forall_mem_cons.mpr ⟨lw_p3, List.forall_mem_cons.mpr ⟨lw_p4, List.forall_mem_cons.mpr ⟨lw_p5, List.forall_mem_cons.mpr ⟨lw_p6, List.forall_mem_cons.mpr ⟨lw_p7, List.forall_mem_cons.mpr ⟨lw_p8, List.forall_mem_cons.mpr ⟨lw_p9, List.forall_mem_cons.mpr ⟨lw_p10, List.forall_mem_cons.mpr ⟨lw_p11, List.forall_mem_cons.mpr ⟨lw_p12, List.forall_mem_cons.mpr ⟨lw_p13, List.forall_mem_cons.mpr ⟨lw_p14, List.forall_mem_cons.mpr ⟨lw_p15, fun _ h => absurd h List.not_mem_nil⟩⟩⟩⟩⟩⟩⟩⟩⟩⟩⟩⟩⟩⟩⟩⟩
theorem lw_p16 : lw_okq (⟨"DraughtsByCandle$Draught", "isAsEarlier", "()Z"⟩, 8) := ⟨⟨by decide +kernel, by decide +kernel⟩, List.mem_of_getElem? (i := 183) (by decide +kernel), List.mem_of_getElem? (i := 601) (by decide +kernel), List.mem_of_getElem? (i := 602) (by decide +kernel)⟩
theorem lw_p17 : lw_okq (⟨"DraughtsByCandle", "leanOf", "(I)I"⟩, 8) := ⟨⟨by decide +kernel, by decide +kernel⟩, List.mem_of_getElem? (i := 20) (by decide +kernel), List.mem_of_getElem? (i := 614) (by decide +kernel), List.mem_of_getElem? (i := 615) (by decide +kernel)⟩
theorem lw_p18 : lw_okq (⟨"DraughtsByCandle", "coalWithout", "(I)I"⟩, 8) := ⟨⟨by decide +kernel, by decide +kernel⟩, List.mem_of_getElem? (i := 20) (by decide +kernel), List.mem_of_getElem? (i := 622) (by decide +kernel), List.mem_of_getElem? (i := 623) (by decide +kernel)⟩
theorem lw_p19 : lw_okq (⟨"DraughtsByCandle", "idleAlone", "(I)I"⟩, 8) := ⟨⟨by decide +kernel, by decide +kernel⟩, List.mem_of_getElem? (i := 20) (by decide +kernel), List.mem_of_getElem? (i := 662) (by decide +kernel), List.mem_of_getElem? (i := 663) (by decide +kernel)⟩
theorem lw_p20 : lw_okq (⟨"DraughtsByCandle", "settleSized", "(II)V"⟩, 8) := ⟨⟨by decide +kernel, by decide +kernel⟩, List.mem_of_getElem? (i := 20) (by decide +kernel), List.mem_of_getElem? (i := 683) (by decide +kernel), List.mem_of_getElem? (i := 684) (by decide +kernel)⟩
theorem lw_p21 : lw_okq (⟨"DraughtsByCandle", "settleInWeather", "(I)V"⟩, 8) := ⟨⟨by decide +kernel, by decide +kernel⟩, List.mem_of_getElem? (i := 20) (by decide +kernel), List.mem_of_getElem? (i := 703) (by decide +kernel), List.mem_of_getElem? (i := 704) (by decide +kernel)⟩
theorem lw_p22 : lw_okq (⟨"DraughtsByCandle", "firstNotSo", "()I"⟩, 8) := ⟨⟨by decide +kernel, by decide +kernel⟩, List.mem_of_getElem? (i := 20) (by decide +kernel), List.mem_of_getElem? (i := 744) (by decide +kernel), List.mem_of_getElem? (i := 745) (by decide +kernel)⟩
theorem lw_p23 : lw_okq (⟨"DraughtsByCandleModel", "no", "(I)I"⟩, 26) := ⟨⟨by decide +kernel, by decide +kernel⟩, List.mem_of_getElem? (i := 790) (by decide +kernel), List.mem_of_getElem? (i := 879) (by decide +kernel), List.mem_of_getElem? (i := 880) (by decide +kernel)⟩
theorem lw_p24 : lw_okq (⟨"DraughtsByCandleModel", "statement", "()I"⟩, 26) := ⟨⟨by decide +kernel, by decide +kernel⟩, List.mem_of_getElem? (i := 790) (by decide +kernel), List.mem_of_getElem? (i := 887) (by decide +kernel), List.mem_of_getElem? (i := 888) (by decide +kernel)⟩
theorem lw_p25 : lw_okq (⟨"DraughtsByCandleModel", "is", "(C)Z"⟩, 26) := ⟨⟨by decide +kernel, by decide +kernel⟩, List.mem_of_getElem? (i := 790) (by decide +kernel), List.mem_of_getElem? (i := 891) (by decide +kernel), List.mem_of_getElem? (i := 892) (by decide +kernel)⟩
theorem lw_p26 : lw_okq (⟨"DraughtsByCandleModel", "sign", "()I"⟩, 26) := ⟨⟨by decide +kernel, by decide +kernel⟩, List.mem_of_getElem? (i := 790) (by decide +kernel), List.mem_of_getElem? (i := 895) (by decide +kernel), List.mem_of_getElem? (i := 896) (by decide +kernel)⟩
theorem lw_p27 : lw_okq (⟨"DraughtsByCandleModel", "number", "(II)Z"⟩, 26) := ⟨⟨by decide +kernel, by decide +kernel⟩, List.mem_of_getElem? (i := 790) (by decide +kernel), List.mem_of_getElem? (i := 899) (by decide +kernel), List.mem_of_getElem? (i := 900) (by decide +kernel)⟩
theorem lw_p28 : lw_okq (⟨"DraughtsByCandleModel", "comes", "(I)Z"⟩, 26) := ⟨⟨by decide +kernel, by decide +kernel⟩, List.mem_of_getElem? (i := 790) (by decide +kernel), List.mem_of_getElem? (i := 908) (by decide +kernel), List.mem_of_getElem? (i := 909) (by decide +kernel)⟩
theorem lw_p29 : lw_okq (⟨"DraughtsByCandleModel", "toldOf", "()I"⟩, 26) := ⟨⟨by decide +kernel, by decide +kernel⟩, List.mem_of_getElem? (i := 790) (by decide +kernel), List.mem_of_getElem? (i := 912) (by decide +kernel), List.mem_of_getElem? (i := 913) (by decide +kernel)⟩
theorem lw_p30 : lw_okq (⟨"DraughtsByCandleModel", "put", "(IIIIIII)V"⟩, 26) := ⟨⟨by decide +kernel, by decide +kernel⟩, List.mem_of_getElem? (i := 790) (by decide +kernel), List.mem_of_getElem? (i := 917) (by decide +kernel), List.mem_of_getElem? (i := 918) (by decide +kernel)⟩
theorem lw_p31 : lw_okq (⟨"DraughtsByCandleModel", "isHole", "(I)Z"⟩, 26) := ⟨⟨by decide +kernel, by decide +kernel⟩, List.mem_of_getElem? (i := 790) (by decide +kernel), List.mem_of_getElem? (i := 925) (by decide +kernel), List.mem_of_getElem? (i := 926) (by decide +kernel)⟩
def lw_privs_2 : List (MethodName × Nat) := [(⟨"DraughtsByCandle$Draught", "isAsEarlier", "()Z"⟩, 8), (⟨"DraughtsByCandle", "leanOf", "(I)I"⟩, 8), (⟨"DraughtsByCandle", "coalWithout", "(I)I"⟩, 8), (⟨"DraughtsByCandle", "idleAlone", "(I)I"⟩, 8), (⟨"DraughtsByCandle", "settleSized", "(II)V"⟩, 8), (⟨"DraughtsByCandle", "settleInWeather", "(I)V"⟩, 8), (⟨"DraughtsByCandle", "firstNotSo", "()I"⟩, 8), (⟨"DraughtsByCandleModel", "no", "(I)I"⟩, 26), (⟨"DraughtsByCandleModel", "statement", "()I"⟩, 26), (⟨"DraughtsByCandleModel", "is", "(C)Z"⟩, 26), (⟨"DraughtsByCandleModel", "sign", "()I"⟩, 26), (⟨"DraughtsByCandleModel", "number", "(II)Z"⟩, 26), (⟨"DraughtsByCandleModel", "comes", "(I)Z"⟩, 26), (⟨"DraughtsByCandleModel", "toldOf", "()I"⟩, 26), (⟨"DraughtsByCandleModel", "put", "(IIIIIII)V"⟩, 26), (⟨"DraughtsByCandleModel", "isHole", "(I)Z"⟩, 26)]
theorem lw_r2 : ∀ q ∈ lw_privs_2, lw_okq q := List.forall_mem_cons.mpr ⟨lw_p16, List.forall_mem_cons.mpr ⟨lw_p17, List.forall_mem_cons.mpr ⟨lw_p18, List.forall_mem_cons.mpr ⟨lw_p19, List.forall_mem_cons.mpr ⟨lw_p20, List.forall_mem_cons.mpr ⟨lw_p21, List.forall_mem_cons.mpr ⟨lw_p22, List.forall_mem_cons.mpr ⟨lw_p23, List.forall_mem_cons.mpr ⟨lw_p24, List.forall_mem_cons.mpr ⟨lw_p25, List.forall_mem_cons.mpr ⟨lw_p26, List.forall_mem_cons.mpr ⟨lw_p27, List.forall_mem_cons.mpr ⟨lw_p28, List.forall_mem_cons.mpr ⟨lw_p29, List.forall_mem_cons.mpr ⟨lw_p30, List.forall_mem_cons.mpr ⟨lw_p31, fun _ h => absurd h List.not_mem_nil⟩⟩⟩⟩⟩⟩⟩⟩⟩⟩⟩⟩⟩⟩⟩⟩
theorem lw_p32 : lw_okq (⟨"DraughtsByCandleModel", "isDoor", "(I)Z"⟩, 26) := ⟨⟨by decide +kernel, by decide +kernel⟩, List.mem_of_getElem? (i := 790) (by decide +kernel), List.mem_of_getElem? (i := 954) (by decide +kernel), List.mem_of_getElem? (i := 955) (by decide +kernel)⟩
theorem lw_p33 : lw_okq (⟨"DraughtsByCandleModel", "outsidePush", "(I)I"⟩, 26) := ⟨⟨by decide +kernel, by decide +kernel⟩, List.mem_of_getElem? (i := 790) (by decide +kernel), List.mem_of_getElem? (i := 958) (by decide +kernel), List.mem_of_getElem? (i := 959) (by decide +kernel)⟩
theorem lw_p34 : lw_okq (⟨"DraughtsByCandleModel", "settle", "()V"⟩, 26) := ⟨⟨by decide +kernel, by decide +kernel⟩, List.mem_of_getElem? (i := 790) (by decide +kernel), List.mem_of_getElem? (i := 966) (by decide +kernel), List.mem_of_getElem? (i := 967) (by decide +kernel)⟩
theorem lw_p35 : lw_okq (⟨"DraughtsByCandleModel", "flows", "(I)I"⟩, 26) := ⟨⟨by decide +kernel, by decide +kernel⟩, List.mem_of_getElem? (i := 790) (by decide +kernel), List.mem_of_getElem? (i := 970) (by decide +kernel), List.mem_of_getElem? (i := 971) (by decide +kernel)⟩
theorem lw_p36 : lw_okq (⟨"DraughtsByCandleModel", "root", "(I)I"⟩, 26) := ⟨⟨by decide +kernel, by decide +kernel⟩, List.mem_of_getElem? (i := 790) (by decide +kernel), List.mem_of_getElem? (i := 975) (by decide +kernel), List.mem_of_getElem? (i := 976) (by decide +kernel)⟩
theorem lw_p37 : lw_okq (⟨"DraughtsByCandleModel", "leans", "(I)I"⟩, 26) := ⟨⟨by decide +kernel, by decide +kernel⟩, List.mem_of_getElem? (i := 790) (by decide +kernel), List.mem_of_getElem? (i := 987) (by decide +kernel), List.mem_of_getElem? (i := 988) (by decide +kernel)⟩
theorem lw_p38 : lw_okq (⟨"DraughtsByCandleModel", "flowsIn", "()I"⟩, 26) := ⟨⟨by decide +kernel, by decide +kernel⟩, List.mem_of_getElem? (i := 790) (by decide +kernel), List.mem_of_getElem? (i := 995) (by decide +kernel), List.mem_of_getElem? (i := 996) (by decide +kernel)⟩
theorem lw_p39 : lw_okq (⟨"DraughtsByCandleModel", "smoke", "()Z"⟩, 26) := ⟨⟨by decide +kernel, by decide +kernel⟩, List.mem_of_getElem? (i := 790) (by decide +kernel), List.mem_of_getElem? (i := 1003) (by decide +kernel), List.mem_of_getElem? (i := 1004) (by decide +kernel)⟩
theorem lw_p40 : lw_okq (⟨"DraughtsByCandleModel", "stop", "(I)J"⟩, 26) := ⟨⟨by decide +kernel, by decide +kernel⟩, List.mem_of_getElem? (i := 790) (by decide +kernel), List.mem_of_getElem? (i := 1011) (by decide +kernel), List.mem_of_getElem? (i := 1012) (by decide +kernel)⟩
theorem lw_p41 : lw_okq (⟨"DraughtsByCandleModel", "open", "(J)V"⟩, 26) := ⟨⟨by decide +kernel, by decide +kernel⟩, List.mem_of_getElem? (i := 790) (by decide +kernel), List.mem_of_getElem? (i := 1017) (by decide +kernel), List.mem_of_getElem? (i := 1018) (by decide +kernel)⟩
theorem lw_p42 : lw_okq (⟨"DraughtsByCandleModel", "by", "(IIII)I"⟩, 26) := ⟨⟨by decide +kernel, by decide +kernel⟩, List.mem_of_getElem? (i := 790) (by decide +kernel), List.mem_of_getElem? (i := 1047) (by decide +kernel), List.mem_of_getElem? (i := 1048) (by decide +kernel)⟩
theorem lw_p43 : lw_okq (⟨"DraughtsByCandleModel", "draw", "(I)I"⟩, 26) := ⟨⟨by decide +kernel, by decide +kernel⟩, List.mem_of_getElem? (i := 790) (by decide +kernel), List.mem_of_getElem? (i := 1071) (by decide +kernel), List.mem_of_getElem? (i := 1072) (by decide +kernel)⟩
def lw_privs_3 : List (MethodName × Nat) := [(⟨"DraughtsByCandleModel", "isDoor", "(I)Z"⟩, 26), (⟨"DraughtsByCandleModel", "outsidePush", "(I)I"⟩, 26), (⟨"DraughtsByCandleModel", "settle", "()V"⟩, 26), (⟨"DraughtsByCandleModel", "flows", "(I)I"⟩, 26), (⟨"DraughtsByCandleModel", "root", "(I)I"⟩, 26), (⟨"DraughtsByCandleModel", "leans", "(I)I"⟩, 26), (⟨"DraughtsByCandleModel", "flowsIn", "()I"⟩, 26), (⟨"DraughtsByCandleModel", "smoke", "()Z"⟩, 26), (⟨"DraughtsByCandleModel", "stop", "(I)J"⟩, 26), (⟨"DraughtsByCandleModel", "open", "(J)V"⟩, 26), (⟨"DraughtsByCandleModel", "by", "(IIII)I"⟩, 26), (⟨"DraughtsByCandleModel", "draw", "(I)I"⟩, 26)]
theorem lw_r3 : ∀ q ∈ lw_privs_3, lw_okq q := List.forall_mem_cons.mpr ⟨lw_p32, List.forall_mem_cons.mpr ⟨lw_p33, List.forall_mem_cons.mpr ⟨lw_p34, List.forall_mem_cons.mpr ⟨lw_p35, List.forall_mem_cons.mpr ⟨lw_p36, List.forall_mem_cons.mpr ⟨lw_p37, List.forall_mem_cons.mpr ⟨lw_p38, List.forall_mem_cons.mpr ⟨lw_p39, List.forall_mem_cons.mpr ⟨lw_p40, List.forall_mem_cons.mpr ⟨lw_p41, List.forall_mem_cons.mpr ⟨lw_p42, List.forall_mem_cons.mpr ⟨lw_p43, fun _ h => absurd h List.not_mem_nil⟩⟩⟩⟩⟩⟩⟩⟩⟩⟩⟩⟩
def lw_privs : List (MethodName × Nat) := lw_privs_1 ++ (lw_privs_2 ++ (lw_privs_3))
def lw_tbl : List Cond := k2_sels lw_privs ++ tables_1
theorem lw_privs_ok : ∀ q ∈ lw_privs, lw_okq q := by
  show ∀ q ∈ lw_privs_1 ++ (lw_privs_2 ++ (lw_privs_3)), lw_okq q
  exact List.forall_mem_append.mpr ⟨lw_r1, List.forall_mem_append.mpr ⟨lw_r2, lw_r3⟩⟩
def RX0 : String := "DraughtsByCandle$Air"
def TX0 : u_T := fun k => match k with
  | 0 => ("DraughtsByCandle$Air", "warm", "I", false)
  | 1 => ("DraughtsByCandle$Air", "wind", "I", false)
  | 2 => ("DraughtsByCandle$Air", "side", "I", false)
  | _ => ("DraughtsByCandle$Air", "fan", "I", false)
def tyX0 : Nat → FieldType := fun k => match k with
  | 0 => .int
  | 1 => .int
  | 2 => .int
  | _ => .int
abbrev wsX00 : List Cond := u_ws RX0 TX0 4
theorem nmX0 : ∀ a, a < 4 → ∀ b, b < 4 → a ≠ b → (TX0 a).2.1 ≠ (TX0 b).2.1 := by decide +kernel
theorem tyX0_ok : ∀ k, k < 4 → parseFieldDescriptor (TX0 k).2.2.1 = some (tyX0 k) := by decide +kernel
abbrev cX0_init : ByteArray := prog_2_method_1_code
def yX0_init : MethodName := ⟨RX0, "<init>", "()V"⟩
abbrev cX0_become : ByteArray := prog_2_method_2_code
def yX0_become : MethodName := ⟨RX0, "become", "(IIII)V"⟩
abbrev cX0_windAt : ByteArray := prog_2_method_3_code
def yX0_windAt : MethodName := ⟨RX0, "windAt", "(I)I"⟩
def RX1 : String := "DraughtsByCandle$Draught"
def TX1 : u_T := fun k => match k with
  | 0 => ("DraughtsByCandle$Draught", "told", "LDraughtsByCandle$Told;", true)
  | 1 => ("DraughtsByCandle$Draught", "sizes", "[I", true)
  | 2 => ("DraughtsByCandle$Draught", "from", "[I", true)
  | 3 => ("DraughtsByCandle$Draught", "into", "[I", true)
  | 4 => ("DraughtsByCandle$Draught", "outside", "[I", true)
  | 5 => ("DraughtsByCandle$Draught", "pushes", "[I", true)
  | 6 => ("DraughtsByCandle$Draught", "earlier", "[I", true)
  | _ => ("DraughtsByCandle$Draught", "roots", "[I", true)
def tyX1 : Nat → FieldType := fun k => match k with
  | 0 => .object "DraughtsByCandle$Told"
  | 1 => .array .int
  | 2 => .array .int
  | 3 => .array .int
  | 4 => .array .int
  | 5 => .array .int
  | 6 => .array .int
  | _ => .array .int
abbrev wsX10 : List Cond := u_ws RX1 TX1 8
theorem nmX1 : ∀ a, a < 8 → ∀ b, b < 8 → a ≠ b → (TX1 a).2.1 ≠ (TX1 b).2.1 := by decide +kernel
theorem tyX1_ok : ∀ k, k < 8 → parseFieldDescriptor (TX1 k).2.2.1 = some (tyX1 k) := by decide +kernel
abbrev cX1_init : ByteArray := prog_3_method_1_code
def yX1_init : MethodName := ⟨RX1, "<init>", "(LDraughtsByCandle$Told;)V"⟩
abbrev cX1_takeSizes : ByteArray := prog_3_method_2_code
def yX1_takeSizes : MethodName := ⟨RX1, "takeSizes", "(I)V"⟩
abbrev cX1_changeSize : ByteArray := prog_3_method_3_code
def yX1_changeSize : MethodName := ⟨RX1, "changeSize", "(II)V"⟩
abbrev cX1_settle : ByteArray := prog_3_method_4_code
def yX1_settle : MethodName := ⟨RX1, "settle", "(LDraughtsByCandle$Air;)V"⟩
abbrev cX1_begin : ByteArray := prog_3_method_5_code
def yX1_begin : MethodName := ⟨RX1, "begin", "(LDraughtsByCandle$Air;)V"⟩
abbrev cX1_doRound : ByteArray := prog_3_method_6_code
def yX1_doRound : MethodName := ⟨RX1, "doRound", "()V"⟩
abbrev cX1_isAsEarlier : ByteArray := prog_3_method_7_code
def yX1_isAsEarlier : MethodName := ⟨RX1, "isAsEarlier", "()Z"⟩
abbrev cX1_flowThrough : ByteArray := prog_3_method_8_code
def yX1_flowThrough : MethodName := ⟨RX1, "flowThrough", "(I)I"⟩
abbrev cX1_inflow : ByteArray := prog_3_method_9_code
def yX1_inflow : MethodName := ⟨RX1, "inflow", "()I"⟩
abbrev cX1_smoking : ByteArray := prog_3_method_10_code
def yX1_smoking : MethodName := ⟨RX1, "smoking", "()Z"⟩
abbrev cX1_throughRoom : ByteArray := prog_3_method_11_code
def yX1_throughRoom : MethodName := ⟨RX1, "throughRoom", "(I)I"⟩
def RX2 : String := "DraughtsByCandle$Openings"
def TX2 : u_T := fun k => match k with
  | 0 => ("DraughtsByCandle$Openings", "room", "[I", true)
  | 1 => ("DraughtsByCandle$Openings", "other", "[I", true)
  | 2 => ("DraughtsByCandle$Openings", "kind", "[I", true)
  | 3 => ("DraughtsByCandle$Openings", "size", "[I", true)
  | 4 => ("DraughtsByCandle$Openings", "height", "[I", true)
  | 5 => ("DraughtsByCandle$Openings", "side", "[I", true)
  | 6 => ("DraughtsByCandle$Openings", "price", "[I", true)
  | _ => ("DraughtsByCandle$Openings", "many", "I", false)
def tyX2 : Nat → FieldType := fun k => match k with
  | 0 => .array .int
  | 1 => .array .int
  | 2 => .array .int
  | 3 => .array .int
  | 4 => .array .int
  | 5 => .array .int
  | 6 => .array .int
  | _ => .int
abbrev wsX20 : List Cond := u_ws RX2 TX2 8
theorem nmX2 : ∀ a, a < 8 → ∀ b, b < 8 → a ≠ b → (TX2 a).2.1 ≠ (TX2 b).2.1 := by decide +kernel
theorem tyX2_ok : ∀ k, k < 8 → parseFieldDescriptor (TX2 k).2.2.1 = some (tyX2 k) := by decide +kernel
abbrev cX2_init : ByteArray := prog_4_method_1_code
def yX2_init : MethodName := ⟨RX2, "<init>", "()V"⟩
abbrev cX2_has : ByteArray := prog_4_method_2_code
def yX2_has : MethodName := ⟨RX2, "has", "(I)Z"⟩
abbrev cX2_isFull : ByteArray := prog_4_method_3_code
def yX2_isFull : MethodName := ⟨RX2, "isFull", "()Z"⟩
abbrev cX2_isDoor : ByteArray := prog_4_method_4_code
def yX2_isDoor : MethodName := ⟨RX2, "isDoor", "(I)Z"⟩
abbrev cX2_add : ByteArray := prog_4_method_5_code
def yX2_add : MethodName := ⟨RX2, "add", "(IIIIIII)V"⟩
abbrev cX2_dropLast : ByteArray := prog_4_method_6_code
def yX2_dropLast : MethodName := ⟨RX2, "dropLast", "()V"⟩
abbrev cX2_become : ByteArray := prog_4_method_7_code
def yX2_become : MethodName := ⟨RX2, "become", "(LDraughtsByCandle$Openings;)V"⟩
abbrev cX2_roomsToldOf : ByteArray := prog_4_method_8_code
def yX2_roomsToldOf : MethodName := ⟨RX2, "roomsToldOf", "()I"⟩
abbrev cX2_doors : ByteArray := prog_4_method_9_code
def yX2_doors : MethodName := ⟨RX2, "doors", "()I"⟩
abbrev cX2_allSizes : ByteArray := prog_4_method_10_code
def yX2_allSizes : MethodName := ⟨RX2, "allSizes", "()I"⟩
abbrev cX2_canBeStopped : ByteArray := prog_4_method_11_code
def yX2_canBeStopped : MethodName := ⟨RX2, "canBeStopped", "(II)Z"⟩
abbrev cX2_outsidePush : ByteArray := prog_4_method_12_code
def yX2_outsidePush : MethodName := ⟨RX2, "outsidePush", "(ILDraughtsByCandle$Air;)I"⟩
def RX3 : String := "DraughtsByCandle$Reader"
def TX3 : u_T := fun k => match k with
  | 0 => ("DraughtsByCandle$Reader", "told", "LDraughtsByCandle$Told;", true)
  | 1 => ("DraughtsByCandle$Reader", "numbers", "LDraughtsByCandle$Row;", true)
  | 2 => ("DraughtsByCandle$Reader", "place", "I", false)
  | _ => ("DraughtsByCandle$Reader", "verb", "I", false)
def tyX3 : Nat → FieldType := fun k => match k with
  | 0 => .object "DraughtsByCandle$Told"
  | 1 => .object "DraughtsByCandle$Row"
  | 2 => .int
  | _ => .int
abbrev wsX30 : List Cond := u_ws RX3 TX3 4
theorem nmX3 : ∀ a, a < 4 → ∀ b, b < 4 → a ≠ b → (TX3 a).2.1 ≠ (TX3 b).2.1 := by decide +kernel
theorem tyX3_ok : ∀ k, k < 4 → parseFieldDescriptor (TX3 k).2.2.1 = some (tyX3 k) := by decide +kernel
abbrev cX3_init : ByteArray := prog_5_method_1_code
def yX3_init : MethodName := ⟨RX3, "<init>", "(LDraughtsByCandle$Told;)V"⟩
abbrev cX3_faultOfLetters : ByteArray := prog_5_method_2_code
def yX3_faultOfLetters : MethodName := ⟨RX3, "faultOfLetters", "()I"⟩
abbrev cX3_takeStatements : ByteArray := prog_5_method_3_code
def yX3_takeStatements : MethodName := ⟨RX3, "takeStatements", "()I"⟩
abbrev cX3_passStatement : ByteArray := prog_5_method_4_code
def yX3_passStatement : MethodName := ⟨RX3, "passStatement", "()Z"⟩
abbrev cX3_shapeBehind : ByteArray := prog_5_method_5_code
def yX3_shapeBehind : MethodName := ⟨RX3, "shapeBehind", "(I)Ljava/lang/String;"⟩
abbrev cX3_passPart : ByteArray := prog_5_method_6_code
def yX3_passPart : MethodName := ⟨RX3, "passPart", "(C)Z"⟩
abbrev cX3_passNumber : ByteArray := prog_5_method_7_code
def yX3_passNumber : MethodName := ⟨RX3, "passNumber", "(I)Z"⟩
abbrev cX3_passKind : ByteArray := prog_5_method_8_code
def yX3_passKind : MethodName := ⟨RX3, "passKind", "()Z"⟩
abbrev cX3_passSign : ByteArray := prog_5_method_9_code
def yX3_passSign : MethodName := ⟨RX3, "passSign", "(C)Z"⟩
abbrev cX3_takeStatement : ByteArray := prog_5_method_10_code
def yX3_takeStatement : MethodName := ⟨RX3, "takeStatement", "()Z"⟩
abbrev cX3_takeRooms : ByteArray := prog_5_method_11_code
def yX3_takeRooms : MethodName := ⟨RX3, "takeRooms", "(I)Z"⟩
abbrev cX3_takeDoor : ByteArray := prog_5_method_12_code
def yX3_takeDoor : MethodName := ⟨RX3, "takeDoor", "(III)Z"⟩
abbrev cX3_takeHole : ByteArray := prog_5_method_13_code
def yX3_takeHole : MethodName := ⟨RX3, "takeHole", "()Z"⟩
abbrev cX3_takeWeather : ByteArray := prog_5_method_14_code
def yX3_takeWeather : MethodName := ⟨RX3, "takeWeather", "(III)Z"⟩
def RX4 : String := "DraughtsByCandle$Row"
def TX4 : u_T := fun k => match k with
  | 0 => ("DraughtsByCandle$Row", "numbers", "[I", true)
  | _ => ("DraughtsByCandle$Row", "many", "I", false)
def tyX4 : Nat → FieldType := fun k => match k with
  | 0 => .array .int
  | _ => .int
abbrev wsX40 : List Cond := u_ws RX4 TX4 2
theorem nmX4 : ∀ a, a < 2 → ∀ b, b < 2 → a ≠ b → (TX4 a).2.1 ≠ (TX4 b).2.1 := by decide +kernel
theorem tyX4_ok : ∀ k, k < 2 → parseFieldDescriptor (TX4 k).2.2.1 = some (tyX4 k) := by decide +kernel
abbrev cX4_init : ByteArray := prog_6_method_1_code
def yX4_init : MethodName := ⟨RX4, "<init>", "(I)V"⟩
abbrev cX4_isFull : ByteArray := prog_6_method_2_code
def yX4_isFull : MethodName := ⟨RX4, "isFull", "()Z"⟩
abbrev cX4_add : ByteArray := prog_6_method_3_code
def yX4_add : MethodName := ⟨RX4, "add", "(I)V"⟩
abbrev cX4_get : ByteArray := prog_6_method_4_code
def yX4_get : MethodName := ⟨RX4, "get", "(I)I"⟩
abbrev cX4_clear : ByteArray := prog_6_method_5_code
def yX4_clear : MethodName := ⟨RX4, "clear", "()V"⟩
abbrev cX4_become : ByteArray := prog_6_method_6_code
def yX4_become : MethodName := ⟨RX4, "become", "(LDraughtsByCandle$Row;)V"⟩
def RX5 : String := "DraughtsByCandle$Rows"
def TX5 : u_T := fun k => match k with
  | _ => ("", "", "", false)
def tyX5 : Nat → FieldType := fun k => match k with
  | _ => .int
abbrev wsX50 : List Cond := u_ws RX5 TX5 0
theorem nmX5 : ∀ a, a < 0 → ∀ b, b < 0 → a ≠ b → (TX5 a).2.1 ≠ (TX5 b).2.1 := by decide +kernel
theorem tyX5_ok : ∀ k, k < 0 → parseFieldDescriptor (TX5 k).2.2.1 = some (tyX5 k) := by decide +kernel
abbrev cX5_at : ByteArray := prog_7_method_2_code
def yX5_at : MethodName := ⟨RX5, "at", "([II)I"⟩
abbrev cX5_put : ByteArray := prog_7_method_3_code
def yX5_put : MethodName := ⟨RX5, "put", "([III)V"⟩
abbrev cX5_copy : ByteArray := prog_7_method_4_code
def yX5_copy : MethodName := ⟨RX5, "copy", "([I[I)V"⟩
def RX6 : String := "DraughtsByCandle$Seed"
def TX6 : u_T := fun k => match k with
  | _ => ("DraughtsByCandle$Seed", "z", "I", false)
def tyX6 : Nat → FieldType := fun k => match k with
  | _ => .int
abbrev wsX60 : List Cond := u_ws RX6 TX6 1
theorem nmX6 : ∀ a, a < 1 → ∀ b, b < 1 → a ≠ b → (TX6 a).2.1 ≠ (TX6 b).2.1 := by decide +kernel
theorem tyX6_ok : ∀ k, k < 1 → parseFieldDescriptor (TX6 k).2.2.1 = some (tyX6 k) := by decide +kernel
abbrev cX6_init : ByteArray := prog_8_method_1_code
def yX6_init : MethodName := ⟨RX6, "<init>", "()V"⟩
abbrev cX6_draw : ByteArray := prog_8_method_2_code
def yX6_draw : MethodName := ⟨RX6, "draw", "(I)I"⟩
def RX7 : String := "DraughtsByCandle$Told"
def TX7 : u_T := fun k => match k with
  | 0 => ("DraughtsByCandle$Told", "rooms", "I", false)
  | 1 => ("DraughtsByCandle$Told", "openings", "LDraughtsByCandle$Openings;", true)
  | 2 => ("DraughtsByCandle$Told", "weathers", "LDraughtsByCandle$Weathers;", true)
  | 3 => ("DraughtsByCandle$Told", "now", "LDraughtsByCandle$Air;", true)
  | 4 => ("DraughtsByCandle$Told", "letters", "LDraughtsByCandle$Row;", true)
  | _ => ("DraughtsByCandle$Told", "leans", "LDraughtsByCandle$Row;", true)
def tyX7 : Nat → FieldType := fun k => match k with
  | 0 => .int
  | 1 => .object "DraughtsByCandle$Openings"
  | 2 => .object "DraughtsByCandle$Weathers"
  | 3 => .object "DraughtsByCandle$Air"
  | 4 => .object "DraughtsByCandle$Row"
  | _ => .object "DraughtsByCandle$Row"
abbrev wsX70 : List Cond := u_ws RX7 TX7 6
theorem nmX7 : ∀ a, a < 6 → ∀ b, b < 6 → a ≠ b → (TX7 a).2.1 ≠ (TX7 b).2.1 := by decide +kernel
theorem tyX7_ok : ∀ k, k < 6 → parseFieldDescriptor (TX7 k).2.2.1 = some (tyX7 k) := by decide +kernel
abbrev cX7_init : ByteArray := prog_9_method_1_code
def yX7_init : MethodName := ⟨RX7, "<init>", "()V"⟩
abbrev cX7_become : ByteArray := prog_9_method_2_code
def yX7_become : MethodName := ⟨RX7, "become", "(LDraughtsByCandle$Told;)V"⟩
def RX8 : String := "DraughtsByCandle$Weathers"
def TX8 : u_T := fun k => match k with
  | 0 => ("DraughtsByCandle$Weathers", "warm", "[I", true)
  | 1 => ("DraughtsByCandle$Weathers", "wind", "[I", true)
  | 2 => ("DraughtsByCandle$Weathers", "side", "[I", true)
  | _ => ("DraughtsByCandle$Weathers", "many", "I", false)
def tyX8 : Nat → FieldType := fun k => match k with
  | 0 => .array .int
  | 1 => .array .int
  | 2 => .array .int
  | _ => .int
abbrev wsX80 : List Cond := u_ws RX8 TX8 4
theorem nmX8 : ∀ a, a < 4 → ∀ b, b < 4 → a ≠ b → (TX8 a).2.1 ≠ (TX8 b).2.1 := by decide +kernel
theorem tyX8_ok : ∀ k, k < 4 → parseFieldDescriptor (TX8 k).2.2.1 = some (tyX8 k) := by decide +kernel
abbrev cX8_init : ByteArray := prog_10_method_1_code
def yX8_init : MethodName := ⟨RX8, "<init>", "()V"⟩
abbrev cX8_isFull : ByteArray := prog_10_method_2_code
def yX8_isFull : MethodName := ⟨RX8, "isFull", "()Z"⟩
abbrev cX8_add : ByteArray := prog_10_method_3_code
def yX8_add : MethodName := ⟨RX8, "add", "(III)V"⟩
abbrev cX8_become : ByteArray := prog_10_method_4_code
def yX8_become : MethodName := ⟨RX8, "become", "(LDraughtsByCandle$Weathers;)V"⟩
def RX9 : String := "DraughtsByCandle"
def TX9 : u_T := fun k => match k with
  | 0 => ("DraughtsByCandle", "told", "LDraughtsByCandle$Told;", true)
  | 1 => ("DraughtsByCandle", "image", "LDraughtsByCandle$Told;", true)
  | 2 => ("DraughtsByCandle", "imageTaken", "Z", false)
  | 3 => ("DraughtsByCandle", "draught", "LDraughtsByCandle$Draught;", true)
  | 4 => ("DraughtsByCandle", "reader", "LDraughtsByCandle$Reader;", true)
  | 5 => ("DraughtsByCandle", "seed", "LDraughtsByCandle$Seed;", true)
  | 6 => ("DraughtsByCandle", "otherAir", "LDraughtsByCandle$Air;", true)
  | _ => ("DraughtsByCandle", "refusals", "[I", true)
def tyX9 : Nat → FieldType := fun k => match k with
  | 0 => .object "DraughtsByCandle$Told"
  | 1 => .object "DraughtsByCandle$Told"
  | 2 => .boolean
  | 3 => .object "DraughtsByCandle$Draught"
  | 4 => .object "DraughtsByCandle$Reader"
  | 5 => .object "DraughtsByCandle$Seed"
  | 6 => .object "DraughtsByCandle$Air"
  | _ => .array .int
abbrev wsX90 : List Cond := u_ws RX9 TX9 8
theorem nmX9 : ∀ a, a < 8 → ∀ b, b < 8 → a ≠ b → (TX9 a).2.1 ≠ (TX9 b).2.1 := by decide +kernel
theorem tyX9_ok : ∀ k, k < 8 → parseFieldDescriptor (TX9 k).2.2.1 = some (tyX9 k) := by decide +kernel
abbrev cX9_init : ByteArray := prog_1_method_1_code
def yX9_init : MethodName := ⟨RX9, "<init>", "()V"⟩
abbrev cX9_letter : ByteArray := prog_1_method_2_code
def yX9_letter : MethodName := ⟨RX9, "letter", "(I)I"⟩
abbrev cX9_house : ByteArray := prog_1_method_3_code
def yX9_house : MethodName := ⟨RX9, "house", "()I"⟩
abbrev cX9_hole : ByteArray := prog_1_method_4_code
def yX9_hole : MethodName := ⟨RX9, "hole", "(II)I"⟩
abbrev cX9_weather : ByteArray := prog_1_method_5_code
def yX9_weather : MethodName := ⟨RX9, "weather", "(II)I"⟩
abbrev cX9_set : ByteArray := prog_1_method_6_code
def yX9_set : MethodName := ⟨RX9, "set", "(II)I"⟩
abbrev cX9_fan : ByteArray := prog_1_method_7_code
def yX9_fan : MethodName := ⟨RX9, "fan", "(I)I"⟩
abbrev cX9_now : ByteArray := prog_1_method_8_code
def yX9_now : MethodName := ⟨RX9, "now", "(I)I"⟩
abbrev cX9_size : ByteArray := prog_1_method_9_code
def yX9_size : MethodName := ⟨RX9, "size", "(II)I"⟩
abbrev cX9_outside : ByteArray := prog_1_method_10_code
def yX9_outside : MethodName := ⟨RX9, "outside", "(I)I"⟩
abbrev cX9_push : ByteArray := prog_1_method_11_code
def yX9_push : MethodName := ⟨RX9, "push", "(I)I"⟩
abbrev cX9_flow : ByteArray := prog_1_method_12_code
def yX9_flow : MethodName := ⟨RX9, "flow", "(I)I"⟩
abbrev cX9_lean : ByteArray := prog_1_method_13_code
def yX9_lean : MethodName := ⟨RX9, "lean", "(I)I"⟩
abbrev cX9_coal : ByteArray := prog_1_method_14_code
def yX9_coal : MethodName := ⟨RX9, "coal", "()I"⟩
abbrev cX9_smokes : ByteArray := prog_1_method_15_code
def yX9_smokes : MethodName := ⟨RX9, "smokes", "()I"⟩
abbrev cX9_stopped : ByteArray := prog_1_method_16_code
def yX9_stopped : MethodName := ⟨RX9, "stopped", "(I)I"⟩
abbrev cX9_best : ByteArray := prog_1_method_17_code
def yX9_best : MethodName := ⟨RX9, "best", "(II)I"⟩
abbrev cX9_pairs : ByteArray := prog_1_method_18_code
def yX9_pairs : MethodName := ⟨RX9, "pairs", "(I)I"⟩
abbrev cX9_shut : ByteArray := prog_1_method_19_code
def yX9_shut : MethodName := ⟨RX9, "shut", "(II)I"⟩
abbrev cX9_chair : ByteArray := prog_1_method_20_code
def yX9_chair : MethodName := ⟨RX9, "chair", "()I"⟩
abbrev cX9_finger : ByteArray := prog_1_method_21_code
def yX9_finger : MethodName := ⟨RX9, "finger", "()I"⟩
abbrev cX9_number : ByteArray := prog_1_method_22_code
def yX9_number : MethodName := ⟨RX9, "number", "(I)I"⟩
abbrev cX9_winter : ByteArray := prog_1_method_23_code
def yX9_winter : MethodName := ⟨RX9, "winter", "()I"⟩
abbrev cX9_turnsAbout : ByteArray := prog_1_method_24_code
def yX9_turnsAbout : MethodName := ⟨RX9, "turnsAbout", "()I"⟩
abbrev cX9_sizes : ByteArray := prog_1_method_25_code
def yX9_sizes : MethodName := ⟨RX9, "sizes", "(III)I"⟩
abbrev cX9_hidden : ByteArray := prog_1_method_26_code
def yX9_hidden : MethodName := ⟨RX9, "hidden", "(II)I"⟩
abbrev cX9_days : ByteArray := prog_1_method_27_code
def yX9_days : MethodName := ⟨RX9, "days", "(II)I"⟩
abbrev cX9_row : ByteArray := prog_1_method_28_code
def yX9_row : MethodName := ⟨RX9, "row", "(I)I"⟩
abbrev cX9_judge : ByteArray := prog_1_method_29_code
def yX9_judge : MethodName := ⟨RX9, "judge", "()I"⟩
abbrev cX9_image : ByteArray := prog_1_method_30_code
def yX9_image : MethodName := ⟨RX9, "image", "()I"⟩
abbrev cX9_on : ByteArray := prog_1_method_31_code
def yX9_on : MethodName := ⟨RX9, "on", "()I"⟩
abbrev cX9_count : ByteArray := prog_1_method_32_code
def yX9_count : MethodName := ⟨RX9, "count", "(I)I"⟩
abbrev cX9_refuse : ByteArray := prog_1_method_33_code
def yX9_refuse : MethodName := ⟨RX9, "refuse", "(I)I"⟩
abbrev cX9_refuseFar : ByteArray := prog_1_method_34_code
def yX9_refuseFar : MethodName := ⟨RX9, "refuseFar", "(I)I"⟩
abbrev cX9_nowOf : ByteArray := prog_1_method_35_code
def yX9_nowOf : MethodName := ⟨RX9, "nowOf", "(I)I"⟩
abbrev cX9_settleNow : ByteArray := prog_1_method_36_code
def yX9_settleNow : MethodName := ⟨RX9, "settleNow", "(I)V"⟩
abbrev cX9_settleSized : ByteArray := prog_1_method_37_code
def yX9_settleSized : MethodName := ⟨RX9, "settleSized", "(II)V"⟩
abbrev cX9_settleInWeather : ByteArray := prog_1_method_38_code
def yX9_settleInWeather : MethodName := ⟨RX9, "settleInWeather", "(I)V"⟩
abbrev cX9_coalWithout : ByteArray := prog_1_method_39_code
def yX9_coalWithout : MethodName := ⟨RX9, "coalWithout", "(I)I"⟩
abbrev cX9_idleAlone : ByteArray := prog_1_method_40_code
def yX9_idleAlone : MethodName := ⟨RX9, "idleAlone", "(I)I"⟩
abbrev cX9_leanOf : ByteArray := prog_1_method_41_code
def yX9_leanOf : MethodName := ⟨RX9, "leanOf", "(I)I"⟩
abbrev cX9_firstNotSo : ByteArray := prog_1_method_42_code
def yX9_firstNotSo : MethodName := ⟨RX9, "firstNotSo", "()I"⟩
def RX10 : String := "DraughtsByCandleModel"
def TX10 : u_T := fun k => match k with
  | 0 => ("DraughtsByCandleModel", "rooms", "I", false)
  | 1 => ("DraughtsByCandleModel", "letters", "I", false)
  | 2 => ("DraughtsByCandleModel", "letter", "[I", true)
  | 3 => ("DraughtsByCandleModel", "holes", "I", false)
  | 4 => ("DraughtsByCandleModel", "room", "[I", true)
  | 5 => ("DraughtsByCandleModel", "other", "[I", true)
  | 6 => ("DraughtsByCandleModel", "kind", "[I", true)
  | 7 => ("DraughtsByCandleModel", "size", "[I", true)
  | 8 => ("DraughtsByCandleModel", "height", "[I", true)
  | 9 => ("DraughtsByCandleModel", "side", "[I", true)
  | 10 => ("DraughtsByCandleModel", "price", "[I", true)
  | 11 => ("DraughtsByCandleModel", "weathers", "I", false)
  | 12 => ("DraughtsByCandleModel", "told", "[I", true)
  | 13 => ("DraughtsByCandleModel", "now", "[I", true)
  | 14 => ("DraughtsByCandleModel", "fan", "I", false)
  | 15 => ("DraughtsByCandleModel", "rowed", "I", false)
  | 16 => ("DraughtsByCandleModel", "row", "[I", true)
  | 17 => ("DraughtsByCandleModel", "refused", "[I", true)
  | 18 => ("DraughtsByCandleModel", "push", "[I", true)
  | 19 => ("DraughtsByCandleModel", "outside", "[I", true)
  | 20 => ("DraughtsByCandleModel", "random", "I", false)
  | 21 => ("DraughtsByCandleModel", "roots", "[I", true)
  | 22 => ("DraughtsByCandleModel", "at", "I", false)
  | 23 => ("DraughtsByCandleModel", "number", "[I", true)
  | 24 => ("DraughtsByCandleModel", "imaged", "Z", false)
  | _ => ("DraughtsByCandleModel", "image", "[I", true)
def tyX10 : Nat → FieldType := fun k => match k with
  | 0 => .int
  | 1 => .int
  | 2 => .array .int
  | 3 => .int
  | 4 => .array .int
  | 5 => .array .int
  | 6 => .array .int
  | 7 => .array .int
  | 8 => .array .int
  | 9 => .array .int
  | 10 => .array .int
  | 11 => .int
  | 12 => .array .int
  | 13 => .array .int
  | 14 => .int
  | 15 => .int
  | 16 => .array .int
  | 17 => .array .int
  | 18 => .array .int
  | 19 => .array .int
  | 20 => .int
  | 21 => .array .int
  | 22 => .int
  | 23 => .array .int
  | 24 => .boolean
  | _ => .array .int
abbrev wsX100 : List Cond := u_ws RX10 TX10 26
theorem nmX10 : ∀ a, a < 26 → ∀ b, b < 26 → a ≠ b → (TX10 a).2.1 ≠ (TX10 b).2.1 := by decide +kernel
theorem tyX10_ok : ∀ k, k < 26 → parseFieldDescriptor (TX10 k).2.2.1 = some (tyX10 k) := by decide +kernel
abbrev cX10_init : ByteArray := prog_12_method_1_code
def yX10_init : MethodName := ⟨RX10, "<init>", "()V"⟩
abbrev cX10_no : ByteArray := prog_12_method_2_code
def yX10_no : MethodName := ⟨RX10, "no", "(I)I"⟩
abbrev cX10_isHole : ByteArray := prog_12_method_3_code
def yX10_isHole : MethodName := ⟨RX10, "isHole", "(I)Z"⟩
abbrev cX10_isDoor : ByteArray := prog_12_method_4_code
def yX10_isDoor : MethodName := ⟨RX10, "isDoor", "(I)Z"⟩
abbrev cX10_letter : ByteArray := prog_12_method_5_code
def yX10_letter : MethodName := ⟨RX10, "letter", "(I)I"⟩
abbrev cX10_sign : ByteArray := prog_12_method_6_code
def yX10_sign : MethodName := ⟨RX10, "sign", "()I"⟩
abbrev cX10_is : ByteArray := prog_12_method_7_code
def yX10_is : MethodName := ⟨RX10, "is", "(C)Z"⟩
abbrev cX10_isDigit : ByteArray := prog_12_method_8_code
def yX10_isDigit : MethodName := ⟨RX10, "isDigit", "(I)Z"⟩
abbrev cX10_number : ByteArray := prog_12_method_9_code
def yX10_number : MethodName := ⟨RX10, "number", "(II)Z"⟩
abbrev cX10_statement : ByteArray := prog_12_method_10_code
def yX10_statement : MethodName := ⟨RX10, "statement", "()I"⟩
abbrev cX10_toldOf : ByteArray := prog_12_method_11_code
def yX10_toldOf : MethodName := ⟨RX10, "toldOf", "()I"⟩
abbrev cX10_comes : ByteArray := prog_12_method_12_code
def yX10_comes : MethodName := ⟨RX10, "comes", "(I)Z"⟩
abbrev cX10_put : ByteArray := prog_12_method_13_code
def yX10_put : MethodName := ⟨RX10, "put", "(IIIIIII)V"⟩
abbrev cX10_house : ByteArray := prog_12_method_14_code
def yX10_house : MethodName := ⟨RX10, "house", "()I"⟩
abbrev cX10_hole : ByteArray := prog_12_method_15_code
def yX10_hole : MethodName := ⟨RX10, "hole", "(II)I"⟩
abbrev cX10_weather : ByteArray := prog_12_method_16_code
def yX10_weather : MethodName := ⟨RX10, "weather", "(II)I"⟩
abbrev cX10_set : ByteArray := prog_12_method_17_code
def yX10_set : MethodName := ⟨RX10, "set", "(II)I"⟩
abbrev cX10_fan : ByteArray := prog_12_method_18_code
def yX10_fan : MethodName := ⟨RX10, "fan", "(I)I"⟩
abbrev cX10_now : ByteArray := prog_12_method_19_code
def yX10_now : MethodName := ⟨RX10, "now", "(I)I"⟩
abbrev cX10_size : ByteArray := prog_12_method_20_code
def yX10_size : MethodName := ⟨RX10, "size", "(II)I"⟩
abbrev cX10_outsidePush : ByteArray := prog_12_method_21_code
def yX10_outsidePush : MethodName := ⟨RX10, "outsidePush", "(I)I"⟩
abbrev cX10_root : ByteArray := prog_12_method_22_code
def yX10_root : MethodName := ⟨RX10, "root", "(I)I"⟩
abbrev cX10_flows : ByteArray := prog_12_method_23_code
def yX10_flows : MethodName := ⟨RX10, "flows", "(I)I"⟩
abbrev cX10_settle : ByteArray := prog_12_method_24_code
def yX10_settle : MethodName := ⟨RX10, "settle", "()V"⟩
abbrev cX10_flowsIn : ByteArray := prog_12_method_25_code
def yX10_flowsIn : MethodName := ⟨RX10, "flowsIn", "()I"⟩
abbrev cX10_outside : ByteArray := prog_12_method_26_code
def yX10_outside : MethodName := ⟨RX10, "outside", "(I)I"⟩
abbrev cX10_push : ByteArray := prog_12_method_27_code
def yX10_push : MethodName := ⟨RX10, "push", "(I)I"⟩
abbrev cX10_flow : ByteArray := prog_12_method_28_code
def yX10_flow : MethodName := ⟨RX10, "flow", "(I)I"⟩
abbrev cX10_leans : ByteArray := prog_12_method_29_code
def yX10_leans : MethodName := ⟨RX10, "leans", "(I)I"⟩
abbrev cX10_lean : ByteArray := prog_12_method_30_code
def yX10_lean : MethodName := ⟨RX10, "lean", "(I)I"⟩
abbrev cX10_coal : ByteArray := prog_12_method_31_code
def yX10_coal : MethodName := ⟨RX10, "coal", "()I"⟩
abbrev cX10_smoke : ByteArray := prog_12_method_32_code
def yX10_smoke : MethodName := ⟨RX10, "smoke", "()Z"⟩
abbrev cX10_smokes : ByteArray := prog_12_method_33_code
def yX10_smokes : MethodName := ⟨RX10, "smokes", "()I"⟩
abbrev cX10_stop : ByteArray := prog_12_method_34_code
def yX10_stop : MethodName := ⟨RX10, "stop", "(I)J"⟩
abbrev cX10_open : ByteArray := prog_12_method_35_code
def yX10_open : MethodName := ⟨RX10, "open", "(J)V"⟩
abbrev cX10_stopped : ByteArray := prog_12_method_36_code
def yX10_stopped : MethodName := ⟨RX10, "stopped", "(I)I"⟩
abbrev cX10_best : ByteArray := prog_12_method_37_code
def yX10_best : MethodName := ⟨RX10, "best", "(II)I"⟩
abbrev cX10_pairs : ByteArray := prog_12_method_38_code
def yX10_pairs : MethodName := ⟨RX10, "pairs", "(I)I"⟩
abbrev cX10_shut : ByteArray := prog_12_method_39_code
def yX10_shut : MethodName := ⟨RX10, "shut", "(II)I"⟩
abbrev cX10_chair : ByteArray := prog_12_method_40_code
def yX10_chair : MethodName := ⟨RX10, "chair", "()I"⟩
abbrev cX10_finger : ByteArray := prog_12_method_41_code
def yX10_finger : MethodName := ⟨RX10, "finger", "()I"⟩
abbrev cX10_by : ByteArray := prog_12_method_42_code
def yX10_by : MethodName := ⟨RX10, "by", "(IIII)I"⟩
abbrev cX10_number_ : ByteArray := prog_12_method_43_code
def yX10_number_ : MethodName := ⟨RX10, "number", "(I)I"⟩
abbrev cX10_winter : ByteArray := prog_12_method_44_code
def yX10_winter : MethodName := ⟨RX10, "winter", "()I"⟩
abbrev cX10_turnsAbout : ByteArray := prog_12_method_45_code
def yX10_turnsAbout : MethodName := ⟨RX10, "turnsAbout", "()I"⟩
abbrev cX10_sizes : ByteArray := prog_12_method_46_code
def yX10_sizes : MethodName := ⟨RX10, "sizes", "(III)I"⟩
abbrev cX10_hidden : ByteArray := prog_12_method_47_code
def yX10_hidden : MethodName := ⟨RX10, "hidden", "(II)I"⟩
abbrev cX10_draw : ByteArray := prog_12_method_48_code
def yX10_draw : MethodName := ⟨RX10, "draw", "(I)I"⟩
abbrev cX10_days : ByteArray := prog_12_method_49_code
def yX10_days : MethodName := ⟨RX10, "days", "(II)I"⟩
abbrev cX10_row : ByteArray := prog_12_method_50_code
def yX10_row : MethodName := ⟨RX10, "row", "(I)I"⟩
abbrev cX10_judge : ByteArray := prog_12_method_51_code
def yX10_judge : MethodName := ⟨RX10, "judge", "()I"⟩
abbrev cX10_image : ByteArray := prog_12_method_52_code
def yX10_image : MethodName := ⟨RX10, "image", "()I"⟩
abbrev cX10_on : ByteArray := prog_12_method_53_code
def yX10_on : MethodName := ⟨RX10, "on", "()I"⟩
abbrev cX10_count : ByteArray := prog_12_method_54_code
def yX10_count : MethodName := ⟨RX10, "count", "(I)I"⟩
def RJ11 : String := "java/lang/Character"
def TJ11 : u_T := fun k => match k with
  | _ => ("", "", "", false)
def tyJ11 : Nat → FieldType := fun k => match k with
  | _ => .int
theorem nmJ11 : ∀ a, a < 0 → ∀ b, b < 0 → a ≠ b → (TJ11 a).2.1 ≠ (TJ11 b).2.1 := by decide +kernel
theorem tyJ11_ok : ∀ k, k < 0 → parseFieldDescriptor (TJ11 k).2.2.1 = some (tyJ11 k) := by decide +kernel
abbrev cJ11_isValidCodePoint_9a6ad : ByteArray := prog_13_method_11_code
def yJ11_isValidCodePoint_9a6ad : MethodName := ⟨RJ11, "isValidCodePoint", "(I)Z"⟩
abbrev cJ11_highSurrogate_5068e : ByteArray := prog_13_method_28_code
def yJ11_highSurrogate_5068e : MethodName := ⟨RJ11, "highSurrogate", "(I)C"⟩
abbrev cJ11_lowSurrogate_5068e : ByteArray := prog_13_method_29_code
def yJ11_lowSurrogate_5068e : MethodName := ⟨RJ11, "lowSurrogate", "(I)C"⟩
def RJ6 : String := "java/lang/Integer"
def TJ6 : u_T := fun k => match k with
  | _ => ("", "", "", false)
def tyJ6 : Nat → FieldType := fun k => match k with
  | _ => .int
theorem nmJ6 : ∀ a, a < 0 → ∀ b, b < 0 → a ≠ b → (TJ6 a).2.1 ≠ (TJ6 b).2.1 := by decide +kernel
theorem tyJ6_ok : ∀ k, k < 0 → parseFieldDescriptor (TJ6 k).2.2.1 = some (tyJ6 k) := by decide +kernel
abbrev cJ6_compare_7cf53 : ByteArray := prog_14_method_40_code
def yJ6_compare_7cf53 : MethodName := ⟨RJ6, "compare", "(II)I"⟩
abbrev cJ6_bitCount_0f7a4 : ByteArray := prog_14_method_49_code
def yJ6_bitCount_0f7a4 : MethodName := ⟨RJ6, "bitCount", "(I)I"⟩
def RJ9 : String := "java/lang/Math"
def TJ9 : u_T := fun k => match k with
  | _ => ("", "", "", false)
def tyJ9 : Nat → FieldType := fun k => match k with
  | _ => .int
theorem nmJ9 : ∀ a, a < 0 → ∀ b, b < 0 → a ≠ b → (TJ9 a).2.1 ≠ (TJ9 b).2.1 := by decide +kernel
theorem tyJ9_ok : ∀ k, k < 0 → parseFieldDescriptor (TJ9 k).2.2.1 = some (tyJ9 k) := by decide +kernel
abbrev cJ9_abs_0f7a4 : ByteArray := prog_15_method_59_code
def yJ9_abs_0f7a4 : MethodName := ⟨RJ9, "abs", "(I)I"⟩
abbrev cJ9_max_7cf53 : ByteArray := prog_15_method_65_code
def yJ9_max_7cf53 : MethodName := ⟨RJ9, "max", "(II)I"⟩
abbrev cJ9_min_7cf53 : ByteArray := prog_15_method_69_code
def yJ9_min_7cf53 : MethodName := ⟨RJ9, "min", "(II)I"⟩
def RJ0 : String := "java/lang/String"
def TJ0 : u_T := fun k => match k with
  | _ => ("", "", "", false)
def tyJ0 : Nat → FieldType := fun k => match k with
  | _ => .int
theorem nmJ0 : ∀ a, a < 0 → ∀ b, b < 0 → a ≠ b → (TJ0 a).2.1 ≠ (TJ0 b).2.1 := by decide +kernel
theorem tyJ0_ok : ∀ k, k < 0 → parseFieldDescriptor (TJ0 k).2.2.1 = some (tyJ0 k) := by decide +kernel
abbrev cJ0_length_8abf5 : ByteArray := prog_16_method_54_code
def yJ0_length_8abf5 : MethodName := ⟨RJ0, "length", "()I"⟩
abbrev cJ0_isEmpty_aae02 : ByteArray := prog_16_method_55_code
def yJ0_isEmpty_aae02 : MethodName := ⟨RJ0, "isEmpty", "()Z"⟩
abbrev cJ0_charAt_5068e : ByteArray := prog_16_method_56_code
def yJ0_charAt_5068e : MethodName := ⟨RJ0, "charAt", "(I)C"⟩
abbrev cJ0_indexOf_0f7a4 : ByteArray := prog_16_method_79_code
def yJ0_indexOf_0f7a4 : MethodName := ⟨RJ0, "indexOf", "(I)I"⟩
abbrev cJ0_indexOf_7cf53 : ByteArray := prog_16_method_80_code
def yJ0_indexOf_7cf53 : MethodName := ⟨RJ0, "indexOf", "(II)I"⟩
abbrev cJ0_coder_7d493 : ByteArray := prog_16_method_152_code
def yJ0_coder_7d493 : MethodName := ⟨RJ0, "coder", "()B"⟩
abbrev cJ0_isLatin1_aae02 : ByteArray := prog_16_method_154_code
def yJ0_isLatin1_aae02 : MethodName := ⟨RJ0, "isLatin1", "()Z"⟩
abbrev cJ0_checkIndex_df160 : ByteArray := prog_16_method_155_code
def yJ0_checkIndex_df160 : MethodName := ⟨RJ0, "checkIndex", "(II)V"⟩
abbrev cJ0_checkBoundsBeginEnd_23922 : ByteArray := prog_16_method_158_code
def yJ0_checkBoundsBeginEnd_23922 : MethodName := ⟨RJ0, "checkBoundsBeginEnd", "(III)V"⟩
def RJ1 : String := "java/lang/StringLatin1"
def TJ1 : u_T := fun k => match k with
  | _ => ("", "", "", false)
def tyJ1 : Nat → FieldType := fun k => match k with
  | _ => .int
theorem nmJ1 : ∀ a, a < 0 → ∀ b, b < 0 → a ≠ b → (TJ1 a).2.1 ≠ (TJ1 b).2.1 := by decide +kernel
theorem tyJ1_ok : ∀ k, k < 0 → parseFieldDescriptor (TJ1 k).2.2.1 = some (tyJ1 k) := by decide +kernel
abbrev cJ1_charAt_3b067 : ByteArray := prog_17_method_2_code
def yJ1_charAt_3b067 : MethodName := ⟨RJ1, "charAt", "([BI)C"⟩
abbrev cJ1_canEncode_9a6ad : ByteArray := prog_17_method_4_code
def yJ1_canEncode_9a6ad : MethodName := ⟨RJ1, "canEncode", "(I)Z"⟩
abbrev cJ1_indexOf_4cfef : ByteArray := prog_17_method_22_code
def yJ1_indexOf_4cfef : MethodName := ⟨RJ1, "indexOf", "([BIII)I"⟩
abbrev cJ1_indexOfChar_4cfef : ByteArray := prog_17_method_23_code
def yJ1_indexOfChar_4cfef : MethodName := ⟨RJ1, "indexOfChar", "([BIII)I"⟩
def RJ2 : String := "java/lang/StringUTF16"
def TJ2 : u_T := fun k => match k with
  | _ => ("", "", "", false)
def tyJ2 : Nat → FieldType := fun k => match k with
  | _ => .int
theorem nmJ2 : ∀ a, a < 0 → ∀ b, b < 0 → a ≠ b → (TJ2 a).2.1 ≠ (TJ2 b).2.1 := by decide +kernel
theorem tyJ2_ok : ∀ k, k < 0 → parseFieldDescriptor (TJ2 k).2.2.1 = some (tyJ2 k) := by decide +kernel
abbrev cJ2_getChar_3b067 : ByteArray := prog_18_method_5_code
def yJ2_getChar_3b067 : MethodName := ⟨RJ2, "getChar", "([BI)C"⟩
abbrev cJ2_length_9d52b : ByteArray := prog_18_method_6_code
def yJ2_length_9d52b : MethodName := ⟨RJ2, "length", "([B)I"⟩
abbrev cJ2_indexOf_4cfef : ByteArray := prog_18_method_40_code
def yJ2_indexOf_4cfef : MethodName := ⟨RJ2, "indexOf", "([BIII)I"⟩
abbrev cJ2_indexOfChar_4cfef : ByteArray := prog_18_method_47_code
def yJ2_indexOfChar_4cfef : MethodName := ⟨RJ2, "indexOfChar", "([BIII)I"⟩
abbrev cJ2_indexOfCharUnsafe_4cfef : ByteArray := prog_18_method_48_code
def yJ2_indexOfCharUnsafe_4cfef : MethodName := ⟨RJ2, "indexOfCharUnsafe", "([BIII)I"⟩
abbrev cJ2_indexOfSupplementary_4cfef : ByteArray := prog_18_method_49_code
def yJ2_indexOfSupplementary_4cfef : MethodName := ⟨RJ2, "indexOfSupplementary", "([BIII)I"⟩
abbrev cJ2_charAt_3b067 : ByteArray := prog_18_method_83_code
def yJ2_charAt_3b067 : MethodName := ⟨RJ2, "charAt", "([BI)C"⟩
abbrev cJ2_checkIndex_2214a : ByteArray := prog_18_method_91_code
def yJ2_checkIndex_2214a : MethodName := ⟨RJ2, "checkIndex", "(I[B)V"⟩
abbrev cJ2_checkBoundsBeginEnd_d044e : ByteArray := prog_18_method_93_code
def yJ2_checkBoundsBeginEnd_d044e : MethodName := ⟨RJ2, "checkBoundsBeginEnd", "(II[B)V"⟩
def RJ3 : String := "jdk/internal/util/Preconditions"
def TJ3 : u_T := fun k => match k with
  | _ => ("", "", "", false)
def tyJ3 : Nat → FieldType := fun k => match k with
  | _ => .int
theorem nmJ3 : ∀ a, a < 0 → ∀ b, b < 0 → a ≠ b → (TJ3 a).2.1 ≠ (TJ3 b).2.1 := by decide +kernel
theorem tyJ3_ok : ∀ k, k < 0 → parseFieldDescriptor (TJ3 k).2.2.1 = some (tyJ3 k) := by decide +kernel
abbrev cJ3_checkIndex_8e157 : ByteArray := prog_19_method_11_code
def yJ3_checkIndex_8e157 : MethodName := ⟨RJ3, "checkIndex", "(IILjava/util/function/BiFunction;)I"⟩
abbrev cJ3_checkFromToIndex_8c36e : ByteArray := prog_19_method_12_code
def yJ3_checkFromToIndex_8c36e : MethodName := ⟨RJ3, "checkFromToIndex", "(IIILjava/util/function/BiFunction;)I"⟩
def RL : String := "DraughtsByCandleLaw"
abbrev cL_law : ByteArray := code
def yL_law : MethodName := ⟨RL, "law", "([I)Z"⟩
abbrev vwCl : List vw_C := [(RX0, TX0, 4), (RX1, TX1, 8), (RX2, TX2, 8), (RX3, TX3, 4), (RX4, TX4, 2), (RX6, TX6, 1), (RX7, TX7, 6), (RX8, TX8, 4), (RX9, TX9, 8), (RX10, TX10, 26)]
