/-- a private method of a class that the tables say can be made, by its rows of tables_1 -/
def lw_okq (q : MethodName × Nat) : Prop := (q.1.cls ≠ "java/lang/invoke/MethodHandle" ∧ q.1.cls ≠ "java/lang/invoke/VarHandle") ∧ Cond.instantiable q.1.cls q.2 ∈ tables_1 ∧ Cond.privateMethod q.1 ∈ tables_1 ∧ Cond.instanceMethod q.1 ∈ tables_1
theorem lw_p0 : lw_okq (⟨"EdgeEchoes$Text", "skipBlanks", "()V"⟩, 5) := ⟨⟨by decide +kernel, by decide +kernel⟩, List.mem_of_getElem? (i := 29) (by decide +kernel), List.mem_of_getElem? (i := 366) (by decide +kernel), List.mem_of_getElem? (i := 367) (by decide +kernel)⟩
theorem lw_p1 : lw_okq (⟨"EdgeEchoes$Text", "letterHere", "()I"⟩, 5) := ⟨⟨by decide +kernel, by decide +kernel⟩, List.mem_of_getElem? (i := 29) (by decide +kernel), List.mem_of_getElem? (i := 370) (by decide +kernel), List.mem_of_getElem? (i := 371) (by decide +kernel)⟩
theorem lw_p2 : lw_okq (⟨"EdgeEchoes$Text", "readClause", "(LEdgeEchoes$Line;)I"⟩, 5) := ⟨⟨by decide +kernel, by decide +kernel⟩, List.mem_of_getElem? (i := 29) (by decide +kernel), List.mem_of_getElem? (i := 374) (by decide +kernel), List.mem_of_getElem? (i := 375) (by decide +kernel)⟩
theorem lw_p3 : lw_okq (⟨"EdgeEchoes$Text", "wordHere", "()I"⟩, 5) := ⟨⟨by decide +kernel, by decide +kernel⟩, List.mem_of_getElem? (i := 29) (by decide +kernel), List.mem_of_getElem? (i := 378) (by decide +kernel), List.mem_of_getElem? (i := 379) (by decide +kernel)⟩
theorem lw_p4 : lw_okq (⟨"EdgeEchoes$Text", "isTooMany", "(ILEdgeEchoes$Line;)Z"⟩, 5) := ⟨⟨by decide +kernel, by decide +kernel⟩, List.mem_of_getElem? (i := 29) (by decide +kernel), List.mem_of_getElem? (i := 471) (by decide +kernel), List.mem_of_getElem? (i := 472) (by decide +kernel)⟩
theorem lw_p5 : lw_okq (⟨"EdgeEchoes$Text", "readNumber", "(II)I"⟩, 5) := ⟨⟨by decide +kernel, by decide +kernel⟩, List.mem_of_getElem? (i := 29) (by decide +kernel), List.mem_of_getElem? (i := 475) (by decide +kernel), List.mem_of_getElem? (i := 476) (by decide +kernel)⟩
theorem lw_p6 : lw_okq (⟨"EdgeEchoes$Text", "takeClause", "(ILEdgeEchoes$Line;)V"⟩, 5) := ⟨⟨by decide +kernel, by decide +kernel⟩, List.mem_of_getElem? (i := 29) (by decide +kernel), List.mem_of_getElem? (i := 489) (by decide +kernel), List.mem_of_getElem? (i := 490) (by decide +kernel)⟩
theorem lw_p7 : lw_okq (⟨"EdgeEchoes$Wire", "part", "(III)V"⟩, 13) := ⟨⟨by decide +kernel, by decide +kernel⟩, List.mem_of_getElem? (i := 60) (by decide +kernel), List.mem_of_getElem? (i := 577) (by decide +kernel), List.mem_of_getElem? (i := 578) (by decide +kernel)⟩
theorem lw_p8 : lw_okq (⟨"EdgeEchoes$Wire", "thrownBack", "(I)I"⟩, 13) := ⟨⟨by decide +kernel, by decide +kernel⟩, List.mem_of_getElem? (i := 60) (by decide +kernel), List.mem_of_getElem? (i := 585) (by decide +kernel), List.mem_of_getElem? (i := 586) (by decide +kernel)⟩
theorem lw_p9 : lw_okq (⟨"EdgeEchoes$Gates", "nextSight", "(II)I"⟩, 7) := ⟨⟨by decide +kernel, by decide +kernel⟩, List.mem_of_getElem? (i := 126) (by decide +kernel), List.mem_of_getElem? (i := 649) (by decide +kernel), List.mem_of_getElem? (i := 650) (by decide +kernel)⟩
theorem lw_p10 : lw_okq (⟨"EdgeEchoes$Gates", "slowSight", "(II)I"⟩, 7) := ⟨⟨by decide +kernel, by decide +kernel⟩, List.mem_of_getElem? (i := 126) (by decide +kernel), List.mem_of_getElem? (i := 654) (by decide +kernel), List.mem_of_getElem? (i := 655) (by decide +kernel)⟩
theorem lw_p11 : lw_okq (⟨"EdgeEchoes", "refusalToPass", "(I)I"⟩, 9) := ⟨⟨by decide +kernel, by decide +kernel⟩, List.mem_of_getElem? (i := 21) (by decide +kernel), List.mem_of_getElem? (i := 663) (by decide +kernel), List.mem_of_getElem? (i := 664) (by decide +kernel)⟩
theorem lw_p12 : lw_okq (⟨"EdgeEchoes", "turnPlace", "(II)I"⟩, 9) := ⟨⟨by decide +kernel, by decide +kernel⟩, List.mem_of_getElem? (i := 21) (by decide +kernel), List.mem_of_getElem? (i := 684) (by decide +kernel), List.mem_of_getElem? (i := 685) (by decide +kernel)⟩
theorem lw_p13 : lw_okq (⟨"EdgeEchoes", "driftOnce", "()V"⟩, 9) := ⟨⟨by decide +kernel, by decide +kernel⟩, List.mem_of_getElem? (i := 21) (by decide +kernel), List.mem_of_getElem? (i := 723) (by decide +kernel), List.mem_of_getElem? (i := 724) (by decide +kernel)⟩
theorem lw_p14 : lw_okq (⟨"EdgeEchoes", "draw", "(I)I"⟩, 9) := ⟨⟨by decide +kernel, by decide +kernel⟩, List.mem_of_getElem? (i := 21) (by decide +kernel), List.mem_of_getElem? (i := 727) (by decide +kernel), List.mem_of_getElem? (i := 728) (by decide +kernel)⟩
theorem lw_p15 : lw_okq (⟨"EdgeEchoes$Suspects", "trySuspect", "(LEdgeEchoes$Line;LEdgeEchoes$Trial;IIZ)V"⟩, 8) := ⟨⟨by decide +kernel, by decide +kernel⟩, List.mem_of_getElem? (i := 223) (by decide +kernel), List.mem_of_getElem? (i := 806) (by decide +kernel), List.mem_of_getElem? (i := 807) (by decide +kernel)⟩
def lw_privs_1 : List (MethodName × Nat) := [(⟨"EdgeEchoes$Text", "skipBlanks", "()V"⟩, 5), (⟨"EdgeEchoes$Text", "letterHere", "()I"⟩, 5), (⟨"EdgeEchoes$Text", "readClause", "(LEdgeEchoes$Line;)I"⟩, 5), (⟨"EdgeEchoes$Text", "wordHere", "()I"⟩, 5), (⟨"EdgeEchoes$Text", "isTooMany", "(ILEdgeEchoes$Line;)Z"⟩, 5), (⟨"EdgeEchoes$Text", "readNumber", "(II)I"⟩, 5), (⟨"EdgeEchoes$Text", "takeClause", "(ILEdgeEchoes$Line;)V"⟩, 5), (⟨"EdgeEchoes$Wire", "part", "(III)V"⟩, 13), (⟨"EdgeEchoes$Wire", "thrownBack", "(I)I"⟩, 13), (⟨"EdgeEchoes$Gates", "nextSight", "(II)I"⟩, 7), (⟨"EdgeEchoes$Gates", "slowSight", "(II)I"⟩, 7), (⟨"EdgeEchoes", "refusalToPass", "(I)I"⟩, 9), (⟨"EdgeEchoes", "turnPlace", "(II)I"⟩, 9), (⟨"EdgeEchoes", "driftOnce", "()V"⟩, 9), (⟨"EdgeEchoes", "draw", "(I)I"⟩, 9), (⟨"EdgeEchoes$Suspects", "trySuspect", "(LEdgeEchoes$Line;LEdgeEchoes$Trial;IIZ)V"⟩, 8)]
theorem lw_r1 : ∀ q ∈ lw_privs_1, lw_okq q := List.forall_mem_cons.mpr ⟨lw_p0, List.forall_mem_cons.mpr ⟨lw_p1, List.forall_mem_cons.mpr ⟨lw_p2, List.forall_mem_cons.mpr ⟨lw_p3, List.forall_mem_cons.mpr ⟨lw_p4, List.forall_mem_cons.mpr ⟨lw_p5, List.forall_mem_cons.mpr ⟨lw_p6, List.forall_mem_cons.mpr ⟨lw_p7, List.forall_mem_cons.mpr ⟨lw_p8, List.forall_mem_cons.mpr ⟨lw_p9, List.forall_mem_cons.mpr ⟨lw_p10, List.forall_mem_cons.mpr ⟨lw_p11, List.forall_mem_cons.mpr ⟨lw_p12, List.forall_mem_cons.mpr ⟨lw_p13, List.forall_mem_cons.mpr ⟨lw_p14, List.forall_mem_cons.mpr ⟨lw_p15, fun _ h => absurd h List.not_mem_nil⟩⟩⟩⟩⟩⟩⟩⟩⟩⟩⟩⟩⟩⟩⟩⟩
theorem lw_p16 : lw_okq (⟨"EdgeEchoes$Suspects", "lastSeenTick", "()I"⟩, 8) := ⟨⟨by decide +kernel, by decide +kernel⟩, List.mem_of_getElem? (i := 223) (by decide +kernel), List.mem_of_getElem? (i := 811) (by decide +kernel), List.mem_of_getElem? (i := 812) (by decide +kernel)⟩
theorem lw_p17 : lw_okq (⟨"EdgeEchoes$Suspects", "isAgainst", "(II)Z"⟩, 8) := ⟨⟨by decide +kernel, by decide +kernel⟩, List.mem_of_getElem? (i := 223) (by decide +kernel), List.mem_of_getElem? (i := 818) (by decide +kernel), List.mem_of_getElem? (i := 819) (by decide +kernel)⟩
theorem lw_p18 : lw_okq (⟨"EdgeEchoes$Suspects", "trace", "(II)V"⟩, 8) := ⟨⟨by decide +kernel, by decide +kernel⟩, List.mem_of_getElem? (i := 223) (by decide +kernel), List.mem_of_getElem? (i := 822) (by decide +kernel), List.mem_of_getElem? (i := 823) (by decide +kernel)⟩
theorem lw_p19 : lw_okq (⟨"EdgeEchoes$Suspects", "mostAlike", "(I)I"⟩, 8) := ⟨⟨by decide +kernel, by decide +kernel⟩, List.mem_of_getElem? (i := 223) (by decide +kernel), List.mem_of_getElem? (i := 834) (by decide +kernel), List.mem_of_getElem? (i := 835) (by decide +kernel)⟩
theorem lw_p20 : lw_okq (⟨"EdgeEchoesModel", "reads", "()Z"⟩, 25) := ⟨⟨by decide +kernel, by decide +kernel⟩, List.mem_of_getElem? (i := 871) (by decide +kernel), List.mem_of_getElem? (i := 967) (by decide +kernel), List.mem_of_getElem? (i := 968) (by decide +kernel)⟩
theorem lw_p21 : lw_okq (⟨"EdgeEchoesModel", "pass", "()V"⟩, 25) := ⟨⟨by decide +kernel, by decide +kernel⟩, List.mem_of_getElem? (i := 871) (by decide +kernel), List.mem_of_getElem? (i := 971) (by decide +kernel), List.mem_of_getElem? (i := 972) (by decide +kernel)⟩
theorem lw_p22 : lw_okq (⟨"EdgeEchoesModel", "readsClause", "()Z"⟩, 25) := ⟨⟨by decide +kernel, by decide +kernel⟩, List.mem_of_getElem? (i := 871) (by decide +kernel), List.mem_of_getElem? (i := 975) (by decide +kernel), List.mem_of_getElem? (i := 976) (by decide +kernel)⟩
theorem lw_p23 : lw_okq (⟨"EdgeEchoesModel", "refuse", "(II)Z"⟩, 25) := ⟨⟨by decide +kernel, by decide +kernel⟩, List.mem_of_getElem? (i := 871) (by decide +kernel), List.mem_of_getElem? (i := 979) (by decide +kernel), List.mem_of_getElem? (i := 980) (by decide +kernel)⟩
theorem lw_p24 : lw_okq (⟨"EdgeEchoesModel", "readsPiece", "()Z"⟩, 25) := ⟨⟨by decide +kernel, by decide +kernel⟩, List.mem_of_getElem? (i := 871) (by decide +kernel), List.mem_of_getElem? (i := 983) (by decide +kernel), List.mem_of_getElem? (i := 984) (by decide +kernel)⟩
theorem lw_p25 : lw_okq (⟨"EdgeEchoesModel", "readsNumber", "(II)Z"⟩, 25) := ⟨⟨by decide +kernel, by decide +kernel⟩, List.mem_of_getElem? (i := 871) (by decide +kernel), List.mem_of_getElem? (i := 987) (by decide +kernel), List.mem_of_getElem? (i := 988) (by decide +kernel)⟩
theorem lw_p26 : lw_okq (⟨"EdgeEchoesModel", "isFigure", "(I)Z"⟩, 25) := ⟨⟨by decide +kernel, by decide +kernel⟩, List.mem_of_getElem? (i := 871) (by decide +kernel), List.mem_of_getElem? (i := 991) (by decide +kernel), List.mem_of_getElem? (i := 992) (by decide +kernel)⟩
theorem lw_p27 : lw_okq (⟨"EdgeEchoesModel", "readsEnd", "()Z"⟩, 25) := ⟨⟨by decide +kernel, by decide +kernel⟩, List.mem_of_getElem? (i := 871) (by decide +kernel), List.mem_of_getElem? (i := 997) (by decide +kernel), List.mem_of_getElem? (i := 998) (by decide +kernel)⟩
theorem lw_p28 : lw_okq (⟨"EdgeEchoesModel", "readsTheEnd", "()Z"⟩, 25) := ⟨⟨by decide +kernel, by decide +kernel⟩, List.mem_of_getElem? (i := 871) (by decide +kernel), List.mem_of_getElem? (i := 1001) (by decide +kernel), List.mem_of_getElem? (i := 1002) (by decide +kernel)⟩
theorem lw_p29 : lw_okq (⟨"EdgeEchoesModel", "readsGate", "()Z"⟩, 25) := ⟨⟨by decide +kernel, by decide +kernel⟩, List.mem_of_getElem? (i := 871) (by decide +kernel), List.mem_of_getElem? (i := 1005) (by decide +kernel), List.mem_of_getElem? (i := 1006) (by decide +kernel)⟩
theorem lw_p30 : lw_okq (⟨"EdgeEchoesModel", "readsDriver", "()Z"⟩, 25) := ⟨⟨by decide +kernel, by decide +kernel⟩, List.mem_of_getElem? (i := 871) (by decide +kernel), List.mem_of_getElem? (i := 1009) (by decide +kernel), List.mem_of_getElem? (i := 1010) (by decide +kernel)⟩
theorem lw_p31 : lw_okq (⟨"EdgeEchoesModel", "copyRow", "(III)V"⟩, 25) := ⟨⟨by decide +kernel, by decide +kernel⟩, List.mem_of_getElem? (i := 871) (by decide +kernel), List.mem_of_getElem? (i := 1013) (by decide +kernel), List.mem_of_getElem? (i := 1014) (by decide +kernel)⟩
def lw_privs_2 : List (MethodName × Nat) := [(⟨"EdgeEchoes$Suspects", "lastSeenTick", "()I"⟩, 8), (⟨"EdgeEchoes$Suspects", "isAgainst", "(II)Z"⟩, 8), (⟨"EdgeEchoes$Suspects", "trace", "(II)V"⟩, 8), (⟨"EdgeEchoes$Suspects", "mostAlike", "(I)I"⟩, 8), (⟨"EdgeEchoesModel", "reads", "()Z"⟩, 25), (⟨"EdgeEchoesModel", "pass", "()V"⟩, 25), (⟨"EdgeEchoesModel", "readsClause", "()Z"⟩, 25), (⟨"EdgeEchoesModel", "refuse", "(II)Z"⟩, 25), (⟨"EdgeEchoesModel", "readsPiece", "()Z"⟩, 25), (⟨"EdgeEchoesModel", "readsNumber", "(II)Z"⟩, 25), (⟨"EdgeEchoesModel", "isFigure", "(I)Z"⟩, 25), (⟨"EdgeEchoesModel", "readsEnd", "()Z"⟩, 25), (⟨"EdgeEchoesModel", "readsTheEnd", "()Z"⟩, 25), (⟨"EdgeEchoesModel", "readsGate", "()Z"⟩, 25), (⟨"EdgeEchoesModel", "readsDriver", "()Z"⟩, 25), (⟨"EdgeEchoesModel", "copyRow", "(III)V"⟩, 25)]
theorem lw_r2 : ∀ q ∈ lw_privs_2, lw_okq q := List.forall_mem_cons.mpr ⟨lw_p16, List.forall_mem_cons.mpr ⟨lw_p17, List.forall_mem_cons.mpr ⟨lw_p18, List.forall_mem_cons.mpr ⟨lw_p19, List.forall_mem_cons.mpr ⟨lw_p20, List.forall_mem_cons.mpr ⟨lw_p21, List.forall_mem_cons.mpr ⟨lw_p22, List.forall_mem_cons.mpr ⟨lw_p23, List.forall_mem_cons.mpr ⟨lw_p24, List.forall_mem_cons.mpr ⟨lw_p25, List.forall_mem_cons.mpr ⟨lw_p26, List.forall_mem_cons.mpr ⟨lw_p27, List.forall_mem_cons.mpr ⟨lw_p28, List.forall_mem_cons.mpr ⟨lw_p29, List.forall_mem_cons.mpr ⟨lw_p30, List.forall_mem_cons.mpr ⟨lw_p31, fun _ h => absurd h List.not_mem_nil⟩⟩⟩⟩⟩⟩⟩⟩⟩⟩⟩⟩⟩⟩⟩⟩
theorem lw_p32 : lw_okq (⟨"EdgeEchoesModel", "seesAll", "()I"⟩, 25) := ⟨⟨by decide +kernel, by decide +kernel⟩, List.mem_of_getElem? (i := 871) (by decide +kernel), List.mem_of_getElem? (i := 1025) (by decide +kernel), List.mem_of_getElem? (i := 1026) (by decide +kernel)⟩
theorem lw_p33 : lw_okq (⟨"EdgeEchoesModel", "isLine", "()Z"⟩, 25) := ⟨⟨by decide +kernel, by decide +kernel⟩, List.mem_of_getElem? (i := 871) (by decide +kernel), List.mem_of_getElem? (i := 1029) (by decide +kernel), List.mem_of_getElem? (i := 1030) (by decide +kernel)⟩
theorem lw_p34 : lw_okq (⟨"EdgeEchoesModel", "overBy", "(I)I"⟩, 25) := ⟨⟨by decide +kernel, by decide +kernel⟩, List.mem_of_getElem? (i := 871) (by decide +kernel), List.mem_of_getElem? (i := 1033) (by decide +kernel), List.mem_of_getElem? (i := 1034) (by decide +kernel)⟩
theorem lw_p35 : lw_okq (⟨"EdgeEchoesModel", "layQuiet", "()V"⟩, 25) := ⟨⟨by decide +kernel, by decide +kernel⟩, List.mem_of_getElem? (i := 871) (by decide +kernel), List.mem_of_getElem? (i := 1037) (by decide +kernel), List.mem_of_getElem? (i := 1038) (by decide +kernel)⟩
theorem lw_p36 : lw_okq (⟨"EdgeEchoesModel", "hush", "(I)V"⟩, 25) := ⟨⟨by decide +kernel, by decide +kernel⟩, List.mem_of_getElem? (i := 871) (by decide +kernel), List.mem_of_getElem? (i := 1041) (by decide +kernel), List.mem_of_getElem? (i := 1042) (by decide +kernel)⟩
theorem lw_p37 : lw_okq (⟨"EdgeEchoesModel", "ticks", "(II)V"⟩, 25) := ⟨⟨by decide +kernel, by decide +kernel⟩, List.mem_of_getElem? (i := 871) (by decide +kernel), List.mem_of_getElem? (i := 1047) (by decide +kernel), List.mem_of_getElem? (i := 1048) (by decide +kernel)⟩
theorem lw_p38 : lw_okq (⟨"EdgeEchoesModel", "meets", "(II)V"⟩, 25) := ⟨⟨by decide +kernel, by decide +kernel⟩, List.mem_of_getElem? (i := 871) (by decide +kernel), List.mem_of_getElem? (i := 1051) (by decide +kernel), List.mem_of_getElem? (i := 1052) (by decide +kernel)⟩
theorem lw_p39 : lw_okq (⟨"EdgeEchoesModel", "ohmsOf", "(II)I"⟩, 25) := ⟨⟨by decide +kernel, by decide +kernel⟩, List.mem_of_getElem? (i := 871) (by decide +kernel), List.mem_of_getElem? (i := 1055) (by decide +kernel), List.mem_of_getElem? (i := 1056) (by decide +kernel)⟩
theorem lw_p40 : lw_okq (⟨"EdgeEchoesModel", "ends", "(I)V"⟩, 25) := ⟨⟨by decide +kernel, by decide +kernel⟩, List.mem_of_getElem? (i := 871) (by decide +kernel), List.mem_of_getElem? (i := 1059) (by decide +kernel), List.mem_of_getElem? (i := 1060) (by decide +kernel)⟩
theorem lw_p41 : lw_okq (⟨"EdgeEchoesModel", "source", "(I)I"⟩, 25) := ⟨⟨by decide +kernel, by decide +kernel⟩, List.mem_of_getElem? (i := 871) (by decide +kernel), List.mem_of_getElem? (i := 1063) (by decide +kernel), List.mem_of_getElem? (i := 1064) (by decide +kernel)⟩
theorem lw_p42 : lw_okq (⟨"EdgeEchoesModel", "looks", "(II)V"⟩, 25) := ⟨⟨by decide +kernel, by decide +kernel⟩, List.mem_of_getElem? (i := 871) (by decide +kernel), List.mem_of_getElem? (i := 1072) (by decide +kernel), List.mem_of_getElem? (i := 1073) (by decide +kernel)⟩
theorem lw_p43 : lw_okq (⟨"EdgeEchoesModel", "voltsOf", "(II)I"⟩, 25) := ⟨⟨by decide +kernel, by decide +kernel⟩, List.mem_of_getElem? (i := 871) (by decide +kernel), List.mem_of_getElem? (i := 1076) (by decide +kernel), List.mem_of_getElem? (i := 1077) (by decide +kernel)⟩
theorem lw_p44 : lw_okq (⟨"EdgeEchoesModel", "isCell", "(I)Z"⟩, 25) := ⟨⟨by decide +kernel, by decide +kernel⟩, List.mem_of_getElem? (i := 871) (by decide +kernel), List.mem_of_getElem? (i := 1080) (by decide +kernel), List.mem_of_getElem? (i := 1081) (by decide +kernel)⟩
theorem lw_p45 : lw_okq (⟨"EdgeEchoesModel", "bestDriver", "()I"⟩, 25) := ⟨⟨by decide +kernel, by decide +kernel⟩, List.mem_of_getElem? (i := 871) (by decide +kernel), List.mem_of_getElem? (i := 1084) (by decide +kernel), List.mem_of_getElem? (i := 1085) (by decide +kernel)⟩
theorem lw_p46 : lw_okq (⟨"EdgeEchoesModel", "comesBack", "()I"⟩, 25) := ⟨⟨by decide +kernel, by decide +kernel⟩, List.mem_of_getElem? (i := 871) (by decide +kernel), List.mem_of_getElem? (i := 1088) (by decide +kernel), List.mem_of_getElem? (i := 1089) (by decide +kernel)⟩
theorem lw_p47 : lw_okq (⟨"EdgeEchoesModel", "isPiece", "(I)Z"⟩, 25) := ⟨⟨by decide +kernel, by decide +kernel⟩, List.mem_of_getElem? (i := 871) (by decide +kernel), List.mem_of_getElem? (i := 1096) (by decide +kernel), List.mem_of_getElem? (i := 1097) (by decide +kernel)⟩
def lw_privs_3 : List (MethodName × Nat) := [(⟨"EdgeEchoesModel", "seesAll", "()I"⟩, 25), (⟨"EdgeEchoesModel", "isLine", "()Z"⟩, 25), (⟨"EdgeEchoesModel", "overBy", "(I)I"⟩, 25), (⟨"EdgeEchoesModel", "layQuiet", "()V"⟩, 25), (⟨"EdgeEchoesModel", "hush", "(I)V"⟩, 25), (⟨"EdgeEchoesModel", "ticks", "(II)V"⟩, 25), (⟨"EdgeEchoesModel", "meets", "(II)V"⟩, 25), (⟨"EdgeEchoesModel", "ohmsOf", "(II)I"⟩, 25), (⟨"EdgeEchoesModel", "ends", "(I)V"⟩, 25), (⟨"EdgeEchoesModel", "source", "(I)I"⟩, 25), (⟨"EdgeEchoesModel", "looks", "(II)V"⟩, 25), (⟨"EdgeEchoesModel", "voltsOf", "(II)I"⟩, 25), (⟨"EdgeEchoesModel", "isCell", "(I)Z"⟩, 25), (⟨"EdgeEchoesModel", "bestDriver", "()I"⟩, 25), (⟨"EdgeEchoesModel", "comesBack", "()I"⟩, 25), (⟨"EdgeEchoesModel", "isPiece", "(I)Z"⟩, 25)]
theorem lw_r3 : ∀ q ∈ lw_privs_3, lw_okq q := List.forall_mem_cons.mpr ⟨lw_p32, List.forall_mem_cons.mpr ⟨lw_p33, List.forall_mem_cons.mpr ⟨lw_p34, List.forall_mem_cons.mpr ⟨lw_p35, List.forall_mem_cons.mpr ⟨lw_p36, List.forall_mem_cons.mpr ⟨lw_p37, List.forall_mem_cons.mpr ⟨lw_p38, List.forall_mem_cons.mpr ⟨lw_p39, List.forall_mem_cons.mpr ⟨lw_p40, List.forall_mem_cons.mpr ⟨lw_p41, List.forall_mem_cons.mpr ⟨lw_p42, List.forall_mem_cons.mpr ⟨lw_p43, List.forall_mem_cons.mpr ⟨lw_p44, List.forall_mem_cons.mpr ⟨lw_p45, List.forall_mem_cons.mpr ⟨lw_p46, List.forall_mem_cons.mpr ⟨lw_p47, fun _ h => absurd h List.not_mem_nil⟩⟩⟩⟩⟩⟩⟩⟩⟩⟩⟩⟩⟩⟩⟩⟩
theorem lw_p48 : lw_okq (⟨"EdgeEchoesModel", "isPlace", "(I)Z"⟩, 25) := ⟨⟨by decide +kernel, by decide +kernel⟩, List.mem_of_getElem? (i := 871) (by decide +kernel), List.mem_of_getElem? (i := 1112) (by decide +kernel), List.mem_of_getElem? (i := 1113) (by decide +kernel)⟩
theorem lw_p49 : lw_okq (⟨"EdgeEchoesModel", "isGate", "(I)Z"⟩, 25) := ⟨⟨by decide +kernel, by decide +kernel⟩, List.mem_of_getElem? (i := 871) (by decide +kernel), List.mem_of_getElem? (i := 1120) (by decide +kernel), List.mem_of_getElem? (i := 1121) (by decide +kernel)⟩
theorem lw_p50 : lw_okq (⟨"EdgeEchoesModel", "firstOne", "(I)I"⟩, 25) := ⟨⟨by decide +kernel, by decide +kernel⟩, List.mem_of_getElem? (i := 871) (by decide +kernel), List.mem_of_getElem? (i := 1124) (by decide +kernel), List.mem_of_getElem? (i := 1125) (by decide +kernel)⟩
theorem lw_p51 : lw_okq (⟨"EdgeEchoesModel", "keepPast", "()V"⟩, 25) := ⟨⟨by decide +kernel, by decide +kernel⟩, List.mem_of_getElem? (i := 871) (by decide +kernel), List.mem_of_getElem? (i := 1135) (by decide +kernel), List.mem_of_getElem? (i := 1136) (by decide +kernel)⟩
theorem lw_p52 : lw_okq (⟨"EdgeEchoesModel", "become", "(II)I"⟩, 25) := ⟨⟨by decide +kernel, by decide +kernel⟩, List.mem_of_getElem? (i := 871) (by decide +kernel), List.mem_of_getElem? (i := 1143) (by decide +kernel), List.mem_of_getElem? (i := 1144) (by decide +kernel)⟩
theorem lw_p53 : lw_okq (⟨"EdgeEchoesModel", "makePlace", "(II)I"⟩, 25) := ⟨⟨by decide +kernel, by decide +kernel⟩, List.mem_of_getElem? (i := 871) (by decide +kernel), List.mem_of_getElem? (i := 1151) (by decide +kernel), List.mem_of_getElem? (i := 1152) (by decide +kernel)⟩
theorem lw_p54 : lw_okq (⟨"EdgeEchoesModel", "allEdges", "(I)I"⟩, 25) := ⟨⟨by decide +kernel, by decide +kernel⟩, List.mem_of_getElem? (i := 871) (by decide +kernel), List.mem_of_getElem? (i := 1180) (by decide +kernel), List.mem_of_getElem? (i := 1181) (by decide +kernel)⟩
theorem lw_p55 : lw_okq (⟨"EdgeEchoesModel", "drifts", "()V"⟩, 25) := ⟨⟨by decide +kernel, by decide +kernel⟩, List.mem_of_getElem? (i := 871) (by decide +kernel), List.mem_of_getElem? (i := 1188) (by decide +kernel), List.mem_of_getElem? (i := 1189) (by decide +kernel)⟩
theorem lw_p56 : lw_okq (⟨"EdgeEchoesModel", "draw", "(I)I"⟩, 25) := ⟨⟨by decide +kernel, by decide +kernel⟩, List.mem_of_getElem? (i := 871) (by decide +kernel), List.mem_of_getElem? (i := 1192) (by decide +kernel), List.mem_of_getElem? (i := 1193) (by decide +kernel)⟩
theorem lw_p57 : lw_okq (⟨"EdgeEchoesModel", "couldBeIt", "(I)Z"⟩, 25) := ⟨⟨by decide +kernel, by decide +kernel⟩, List.mem_of_getElem? (i := 871) (by decide +kernel), List.mem_of_getElem? (i := 1237) (by decide +kernel), List.mem_of_getElem? (i := 1238) (by decide +kernel)⟩
theorem lw_p58 : lw_okq (⟨"EdgeEchoesModel", "laysFault", "(I)Z"⟩, 25) := ⟨⟨by decide +kernel, by decide +kernel⟩, List.mem_of_getElem? (i := 871) (by decide +kernel), List.mem_of_getElem? (i := 1241) (by decide +kernel), List.mem_of_getElem? (i := 1242) (by decide +kernel)⟩
theorem lw_p59 : lw_okq (⟨"EdgeEchoesModel", "latestSeen", "()I"⟩, 25) := ⟨⟨by decide +kernel, by decide +kernel⟩, List.mem_of_getElem? (i := 871) (by decide +kernel), List.mem_of_getElem? (i := 1245) (by decide +kernel), List.mem_of_getElem? (i := 1246) (by decide +kernel)⟩
theorem lw_p60 : lw_okq (⟨"EdgeEchoesModel", "isSo", "(I)Z"⟩, 25) := ⟨⟨by decide +kernel, by decide +kernel⟩, List.mem_of_getElem? (i := 871) (by decide +kernel), List.mem_of_getElem? (i := 1249) (by decide +kernel), List.mem_of_getElem? (i := 1250) (by decide +kernel)⟩
def lw_privs_4 : List (MethodName × Nat) := [(⟨"EdgeEchoesModel", "isPlace", "(I)Z"⟩, 25), (⟨"EdgeEchoesModel", "isGate", "(I)Z"⟩, 25), (⟨"EdgeEchoesModel", "firstOne", "(I)I"⟩, 25), (⟨"EdgeEchoesModel", "keepPast", "()V"⟩, 25), (⟨"EdgeEchoesModel", "become", "(II)I"⟩, 25), (⟨"EdgeEchoesModel", "makePlace", "(II)I"⟩, 25), (⟨"EdgeEchoesModel", "allEdges", "(I)I"⟩, 25), (⟨"EdgeEchoesModel", "drifts", "()V"⟩, 25), (⟨"EdgeEchoesModel", "draw", "(I)I"⟩, 25), (⟨"EdgeEchoesModel", "couldBeIt", "(I)Z"⟩, 25), (⟨"EdgeEchoesModel", "laysFault", "(I)Z"⟩, 25), (⟨"EdgeEchoesModel", "latestSeen", "()I"⟩, 25), (⟨"EdgeEchoesModel", "isSo", "(I)Z"⟩, 25)]
theorem lw_r4 : ∀ q ∈ lw_privs_4, lw_okq q := List.forall_mem_cons.mpr ⟨lw_p48, List.forall_mem_cons.mpr ⟨lw_p49, List.forall_mem_cons.mpr ⟨lw_p50, List.forall_mem_cons.mpr ⟨lw_p51, List.forall_mem_cons.mpr ⟨lw_p52, List.forall_mem_cons.mpr ⟨lw_p53, List.forall_mem_cons.mpr ⟨lw_p54, List.forall_mem_cons.mpr ⟨lw_p55, List.forall_mem_cons.mpr ⟨lw_p56, List.forall_mem_cons.mpr ⟨lw_p57, List.forall_mem_cons.mpr ⟨lw_p58, List.forall_mem_cons.mpr ⟨lw_p59, List.forall_mem_cons.mpr ⟨lw_p60, fun _ h => absurd h List.not_mem_nil⟩⟩⟩⟩⟩⟩⟩⟩⟩⟩⟩⟩⟩
def lw_privs : List (MethodName × Nat) := lw_privs_1 ++ (lw_privs_2 ++ (lw_privs_3 ++ (lw_privs_4)))
def lw_tbl : List Cond := k2_sels lw_privs ++ tables_1
theorem lw_privs_ok : ∀ q ∈ lw_privs, lw_okq q := by
  show ∀ q ∈ lw_privs_1 ++ (lw_privs_2 ++ (lw_privs_3 ++ (lw_privs_4))), lw_okq q
  exact List.forall_mem_append.mpr ⟨lw_r1, List.forall_mem_append.mpr ⟨lw_r2, List.forall_mem_append.mpr ⟨lw_r3, lw_r4⟩⟩⟩

def RX0 : String := "EdgeEchoes$Book"
def TX0 : u_T := fun k => match k with
  | 0 => ("EdgeEchoes$Book", "gates", "[I", true)
  | 1 => ("EdgeEchoes$Book", "edges", "[I", true)
  | _ => ("EdgeEchoes$Book", "count", "I", false)
def tyX0 : Nat → FieldType := fun k => match k with
  | 0 => .array .int
  | 1 => .array .int
  | _ => .int
abbrev wsX00 : List Cond := u_ws RX0 TX0 3
theorem nmX0 : ∀ a, a < 3 → ∀ b, b < 3 → a ≠ b → (TX0 a).2.1 ≠ (TX0 b).2.1 := by decide +kernel
theorem tyX0_ok : ∀ k, k < 3 → parseFieldDescriptor (TX0 k).2.2.1 = some (tyX0 k) := by decide +kernel
abbrev cX0_init : ByteArray := prog_2_method_1_code
def yX0_init : MethodName := ⟨RX0, "<init>", "()V"⟩
abbrev cX0_append : ByteArray := prog_2_method_2_code
def yX0_append : MethodName := ⟨RX0, "append", "(II)Z"⟩
abbrev cX0_firstWrong : ByteArray := prog_2_method_3_code
def yX0_firstWrong : MethodName := ⟨RX0, "firstWrong", "(LEdgeEchoes$Gates;)I"⟩
def RX1 : String := "EdgeEchoes$Gates"
def TX1 : u_T := fun k => match k with
  | 0 => ("EdgeEchoes$Gates", "kind", "[I", true)
  | 1 => ("EdgeEchoes$Gates", "cell", "[I", true)
  | 2 => ("EdgeEchoes$Gates", "volts", "[I", true)
  | 3 => ("EdgeEchoes$Gates", "sight", "[I", true)
  | 4 => ("EdgeEchoes$Gates", "edges", "[I", true)
  | 5 => ("EdgeEchoes$Gates", "otherwise", "[I", true)
  | _ => ("EdgeEchoes$Gates", "count", "I", false)
def tyX1 : Nat → FieldType := fun k => match k with
  | 0 => .array .int
  | 1 => .array .int
  | 2 => .array .int
  | 3 => .array .int
  | 4 => .array .int
  | 5 => .array .int
  | _ => .int
abbrev wsX10 : List Cond := u_ws RX1 TX1 7
theorem nmX1 : ∀ a, a < 7 → ∀ b, b < 7 → a ≠ b → (TX1 a).2.1 ≠ (TX1 b).2.1 := by decide +kernel
theorem tyX1_ok : ∀ k, k < 7 → parseFieldDescriptor (TX1 k).2.2.1 = some (tyX1 k) := by decide +kernel
abbrev cX1_init : ByteArray := prog_3_method_1_code
def yX1_init : MethodName := ⟨RX1, "<init>", "()V"⟩
abbrev cX1_clear : ByteArray := prog_3_method_2_code
def yX1_clear : MethodName := ⟨RX1, "clear", "()V"⟩
abbrev cX1_copyFrom : ByteArray := prog_3_method_3_code
def yX1_copyFrom : MethodName := ⟨RX1, "copyFrom", "(LEdgeEchoes$Gates;)V"⟩
abbrev cX1_calmSights : ByteArray := prog_3_method_4_code
def yX1_calmSights : MethodName := ⟨RX1, "calmSights", "()V"⟩
abbrev cX1_has : ByteArray := prog_3_method_5_code
def yX1_has : MethodName := ⟨RX1, "has", "(I)Z"⟩
abbrev cX1_add : ByteArray := prog_3_method_6_code
def yX1_add : MethodName := ⟨RX1, "add", "(III)V"⟩
abbrev cX1_sightSet : ByteArray := prog_3_method_7_code
def yX1_sightSet : MethodName := ⟨RX1, "sightSet", "()I"⟩
abbrev cX1_allEdges : ByteArray := prog_3_method_8_code
def yX1_allEdges : MethodName := ⟨RX1, "allEdges", "()I"⟩
abbrev cX1_watch : ByteArray := prog_3_method_9_code
def yX1_watch : MethodName := ⟨RX1, "watch", "(LEdgeEchoes$Wire;)V"⟩
abbrev cX1_nextSight : ByteArray := prog_3_method_10_code
def yX1_nextSight : MethodName := ⟨RX1, "nextSight", "(II)I"⟩
abbrev cX1_slowSight : ByteArray := prog_3_method_11_code
def yX1_slowSight : MethodName := ⟨RX1, "slowSight", "(II)I"⟩
def RX2 : String := "EdgeEchoes$Image"
def TX2 : u_T := fun k => match k with
  | 0 => ("EdgeEchoes$Image", "line", "LEdgeEchoes$Line;", true)
  | 1 => ("EdgeEchoes$Image", "seed", "I", false)
  | _ => ("EdgeEchoes$Image", "kept", "Z", false)
def tyX2 : Nat → FieldType := fun k => match k with
  | 0 => .object "EdgeEchoes$Line"
  | 1 => .int
  | _ => .boolean
abbrev wsX20 : List Cond := u_ws RX2 TX2 3
theorem nmX2 : ∀ a, a < 3 → ∀ b, b < 3 → a ≠ b → (TX2 a).2.1 ≠ (TX2 b).2.1 := by decide +kernel
theorem tyX2_ok : ∀ k, k < 3 → parseFieldDescriptor (TX2 k).2.2.1 = some (tyX2 k) := by decide +kernel
abbrev cX2_init : ByteArray := prog_4_method_1_code
def yX2_init : MethodName := ⟨RX2, "<init>", "()V"⟩
def RX3 : String := "EdgeEchoes$Line"
def TX3 : u_T := fun k => match k with
  | 0 => ("EdgeEchoes$Line", "wire", "LEdgeEchoes$Wire;", true)
  | 1 => ("EdgeEchoes$Line", "gates", "LEdgeEchoes$Gates;", true)
  | 2 => ("EdgeEchoes$Line", "told", "Z", false)
  | _ => ("EdgeEchoes$Line", "ticks", "I", false)
def tyX3 : Nat → FieldType := fun k => match k with
  | 0 => .object "EdgeEchoes$Wire"
  | 1 => .object "EdgeEchoes$Gates"
  | 2 => .boolean
  | _ => .int
abbrev wsX30 : List Cond := u_ws RX3 TX3 4
theorem nmX3 : ∀ a, a < 4 → ∀ b, b < 4 → a ≠ b → (TX3 a).2.1 ≠ (TX3 b).2.1 := by decide +kernel
theorem tyX3_ok : ∀ k, k < 4 → parseFieldDescriptor (TX3 k).2.2.1 = some (tyX3 k) := by decide +kernel
abbrev cX3_init : ByteArray := prog_5_method_1_code
def yX3_init : MethodName := ⟨RX3, "<init>", "()V"⟩
abbrev cX3_clear : ByteArray := prog_5_method_2_code
def yX3_clear : MethodName := ⟨RX3, "clear", "()V"⟩
abbrev cX3_copyFrom : ByteArray := prog_5_method_3_code
def yX3_copyFrom : MethodName := ⟨RX3, "copyFrom", "(LEdgeEchoes$Line;)V"⟩
abbrev cX3_calm : ByteArray := prog_5_method_4_code
def yX3_calm : MethodName := ⟨RX3, "calm", "()V"⟩
abbrev cX3_pass : ByteArray := prog_5_method_5_code
def yX3_pass : MethodName := ⟨RX3, "pass", "()V"⟩
def RX4 : String := "EdgeEchoes$Past"
def TX4 : u_T := fun k => match k with
  | 0 => ("EdgeEchoes$Past", "lines", "[LEdgeEchoes$Line;", true)
  | 1 => ("EdgeEchoes$Past", "count", "I", false)
  | _ => ("EdgeEchoes$Past", "next", "I", false)
def tyX4 : Nat → FieldType := fun k => match k with
  | 0 => .array (.object "EdgeEchoes$Line")
  | 1 => .int
  | _ => .int
abbrev wsX40 : List Cond := u_ws RX4 TX4 3
theorem nmX4 : ∀ a, a < 3 → ∀ b, b < 3 → a ≠ b → (TX4 a).2.1 ≠ (TX4 b).2.1 := by decide +kernel
theorem tyX4_ok : ∀ k, k < 3 → parseFieldDescriptor (TX4 k).2.2.1 = some (tyX4 k) := by decide +kernel
abbrev cX4_init : ByteArray := prog_6_method_1_code
def yX4_init : MethodName := ⟨RX4, "<init>", "()V"⟩
abbrev cX4_remember : ByteArray := prog_6_method_2_code
def yX4_remember : MethodName := ⟨RX4, "remember", "(LEdgeEchoes$Line;)V"⟩
abbrev cX4_bringBack : ByteArray := prog_6_method_3_code
def yX4_bringBack : MethodName := ⟨RX4, "bringBack", "(LEdgeEchoes$Line;I)V"⟩
def RX5 : String := "EdgeEchoes$Suspects"
def TX5 : u_T := fun k => match k with
  | 0 => ("EdgeEchoes$Suspects", "seenTick", "[I", true)
  | 1 => ("EdgeEchoes$Suspects", "seenVolts", "[I", true)
  | 2 => ("EdgeEchoes$Suspects", "seenIs", "[Z", true)
  | 3 => ("EdgeEchoes$Suspects", "traces", "[I", false)
  | 4 => ("EdgeEchoes$Suspects", "count", "I", false)
  | 5 => ("EdgeEchoes$Suspects", "fitting", "I", false)
  | 6 => ("EdgeEchoes$Suspects", "least", "I", false)
  | _ => ("EdgeEchoes$Suspects", "greatest", "I", false)
def tyX5 : Nat → FieldType := fun k => match k with
  | 0 => .array .int
  | 1 => .array .int
  | 2 => .array .boolean
  | 3 => .array .int
  | 4 => .int
  | 5 => .int
  | 6 => .int
  | _ => .int
abbrev wsX50 : List Cond := u_ws RX5 TX5 8
theorem nmX5 : ∀ a, a < 8 → ∀ b, b < 8 → a ≠ b → (TX5 a).2.1 ≠ (TX5 b).2.1 := by decide +kernel
theorem tyX5_ok : ∀ k, k < 8 → parseFieldDescriptor (TX5 k).2.2.1 = some (tyX5 k) := by decide +kernel
abbrev cX5_init : ByteArray := prog_7_method_1_code
def yX5_init : MethodName := ⟨RX5, "<init>", "()V"⟩
abbrev cX5_append : ByteArray := prog_7_method_2_code
def yX5_append : MethodName := ⟨RX5, "append", "(IIZ)Z"⟩
abbrev cX5_gather : ByteArray := prog_7_method_3_code
def yX5_gather : MethodName := ⟨RX5, "gather", "(LEdgeEchoes$Line;LEdgeEchoes$Trial;Z)V"⟩
abbrev cX5_trySuspect : ByteArray := prog_7_method_4_code
def yX5_trySuspect : MethodName := ⟨RX5, "trySuspect", "(LEdgeEchoes$Line;LEdgeEchoes$Trial;IIZ)V"⟩
abbrev cX5_lastSeenTick : ByteArray := prog_7_method_5_code
def yX5_lastSeenTick : MethodName := ⟨RX5, "lastSeenTick", "()I"⟩
abbrev cX5_isAgainst : ByteArray := prog_7_method_6_code
def yX5_isAgainst : MethodName := ⟨RX5, "isAgainst", "(II)Z"⟩
abbrev cX5_trace : ByteArray := prog_7_method_7_code
def yX5_trace : MethodName := ⟨RX5, "trace", "(II)V"⟩
abbrev cX5_bestLook : ByteArray := prog_7_method_8_code
def yX5_bestLook : MethodName := ⟨RX5, "bestLook", "()I"⟩
abbrev cX5_mostAlike : ByteArray := prog_7_method_9_code
def yX5_mostAlike : MethodName := ⟨RX5, "mostAlike", "(I)I"⟩
def RX6 : String := "EdgeEchoes$Text"
def TX6 : u_T := fun k => match k with
  | 0 => ("EdgeEchoes$Text", "letters", "[I", true)
  | 1 => ("EdgeEchoes$Text", "numbers", "[I", true)
  | 2 => ("EdgeEchoes$Text", "count", "I", false)
  | 3 => ("EdgeEchoes$Text", "at", "I", false)
  | _ => ("EdgeEchoes$Text", "endTold", "Z", false)
def tyX6 : Nat → FieldType := fun k => match k with
  | 0 => .array .int
  | 1 => .array .int
  | 2 => .int
  | 3 => .int
  | _ => .boolean
abbrev wsX60 : List Cond := u_ws RX6 TX6 5
theorem nmX6 : ∀ a, a < 5 → ∀ b, b < 5 → a ≠ b → (TX6 a).2.1 ≠ (TX6 b).2.1 := by decide +kernel
theorem tyX6_ok : ∀ k, k < 5 → parseFieldDescriptor (TX6 k).2.2.1 = some (tyX6 k) := by decide +kernel
abbrev cX6_init : ByteArray := prog_8_method_1_code
def yX6_init : MethodName := ⟨RX6, "<init>", "()V"⟩
abbrev cX6_append : ByteArray := prog_8_method_2_code
def yX6_append : MethodName := ⟨RX6, "append", "(I)Z"⟩
abbrev cX6_readInto : ByteArray := prog_8_method_3_code
def yX6_readInto : MethodName := ⟨RX6, "readInto", "(LEdgeEchoes$Line;)I"⟩
abbrev cX6_readClause : ByteArray := prog_8_method_4_code
def yX6_readClause : MethodName := ⟨RX6, "readClause", "(LEdgeEchoes$Line;)I"⟩
abbrev cX6_wordHere : ByteArray := prog_8_method_5_code
def yX6_wordHere : MethodName := ⟨RX6, "wordHere", "()I"⟩
abbrev cX6_isTooMany : ByteArray := prog_8_method_6_code
def yX6_isTooMany : MethodName := ⟨RX6, "isTooMany", "(ILEdgeEchoes$Line;)Z"⟩
abbrev cX6_readNumber : ByteArray := prog_8_method_7_code
def yX6_readNumber : MethodName := ⟨RX6, "readNumber", "(II)I"⟩
abbrev cX6_isWithin : ByteArray := prog_8_method_8_code
def yX6_isWithin : MethodName := ⟨RX6, "isWithin", "(II)Z"⟩
abbrev cX6_isFigure : ByteArray := prog_8_method_9_code
def yX6_isFigure : MethodName := ⟨RX6, "isFigure", "(I)Z"⟩
abbrev cX6_takeClause : ByteArray := prog_8_method_10_code
def yX6_takeClause : MethodName := ⟨RX6, "takeClause", "(ILEdgeEchoes$Line;)V"⟩
abbrev cX6_skipBlanks : ByteArray := prog_8_method_11_code
def yX6_skipBlanks : MethodName := ⟨RX6, "skipBlanks", "()V"⟩
abbrev cX6_letterHere : ByteArray := prog_8_method_12_code
def yX6_letterHere : MethodName := ⟨RX6, "letterHere", "()I"⟩
def RX7 : String := "EdgeEchoes$Trial"
def TX7 : u_T := fun k => match k with
  | 0 => ("EdgeEchoes$Trial", "line", "LEdgeEchoes$Line;", true)
  | _ => ("EdgeEchoes$Trial", "row", "[I", true)
def tyX7 : Nat → FieldType := fun k => match k with
  | 0 => .object "EdgeEchoes$Line"
  | _ => .array .int
abbrev wsX70 : List Cond := u_ws RX7 TX7 2
theorem nmX7 : ∀ a, a < 2 → ∀ b, b < 2 → a ≠ b → (TX7 a).2.1 ≠ (TX7 b).2.1 := by decide +kernel
theorem tyX7_ok : ∀ k, k < 2 → parseFieldDescriptor (TX7 k).2.2.1 = some (tyX7 k) := by decide +kernel
abbrev cX7_init : ByteArray := prog_9_method_1_code
def yX7_init : MethodName := ⟨RX7, "<init>", "()V"⟩
abbrev cX7_goOn : ByteArray := prog_9_method_2_code
def yX7_goOn : MethodName := ⟨RX7, "goOn", "(LEdgeEchoes$Line;I)V"⟩
abbrev cX7_startQuiet : ByteArray := prog_9_method_3_code
def yX7_startQuiet : MethodName := ⟨RX7, "startQuiet", "(LEdgeEchoes$Line;)V"⟩
abbrev cX7_voltsBehind : ByteArray := prog_9_method_4_code
def yX7_voltsBehind : MethodName := ⟨RX7, "voltsBehind", "(LEdgeEchoes$Line;II)I"⟩
abbrev cX7_peakUpTo : ByteArray := prog_9_method_5_code
def yX7_peakUpTo : MethodName := ⟨RX7, "peakUpTo", "(LEdgeEchoes$Line;II)I"⟩
abbrev cX7_leastUpTo : ByteArray := prog_9_method_6_code
def yX7_leastUpTo : MethodName := ⟨RX7, "leastUpTo", "(LEdgeEchoes$Line;II)I"⟩
abbrev cX7_restOf : ByteArray := prog_9_method_7_code
def yX7_restOf : MethodName := ⟨RX7, "restOf", "(LEdgeEchoes$Line;I)I"⟩
abbrev cX7_firstOneOf : ByteArray := prog_9_method_8_code
def yX7_firstOneOf : MethodName := ⟨RX7, "firstOneOf", "(LEdgeEchoes$Line;I)I"⟩
abbrev cX7_overOf : ByteArray := prog_9_method_9_code
def yX7_overOf : MethodName := ⟨RX7, "overOf", "(LEdgeEchoes$Line;II)I"⟩
abbrev cX7_bestDriverOf : ByteArray := prog_9_method_10_code
def yX7_bestDriverOf : MethodName := ⟨RX7, "bestDriverOf", "(LEdgeEchoes$Line;)I"⟩
abbrev cX7_firstBackOf : ByteArray := prog_9_method_11_code
def yX7_firstBackOf : MethodName := ⟨RX7, "firstBackOf", "(LEdgeEchoes$Line;)I"⟩
def RX8 : String := "EdgeEchoes$Wire"
def TX8 : u_T := fun k => match k with
  | 0 => ("EdgeEchoes$Wire", "pieceOhms", "[I", true)
  | 1 => ("EdgeEchoes$Wire", "pieceCells", "[I", true)
  | 2 => ("EdgeEchoes$Wire", "cellOhms", "[I", true)
  | 3 => ("EdgeEchoes$Wire", "on", "[I", true)
  | 4 => ("EdgeEchoes$Wire", "back", "[I", true)
  | 5 => ("EdgeEchoes$Wire", "places", "[I", true)
  | 6 => ("EdgeEchoes$Wire", "pieces", "I", false)
  | 7 => ("EdgeEchoes$Wire", "cells", "I", false)
  | 8 => ("EdgeEchoes$Wire", "driverOhms", "I", false)
  | 9 => ("EdgeEchoes$Wire", "driverVolts", "I", false)
  | 10 => ("EdgeEchoes$Wire", "endKind", "I", false)
  | 11 => ("EdgeEchoes$Wire", "endOhms", "I", false)
  | _ => ("EdgeEchoes$Wire", "high", "Z", false)
def tyX8 : Nat → FieldType := fun k => match k with
  | 0 => .array .int
  | 1 => .array .int
  | 2 => .array .int
  | 3 => .array .int
  | 4 => .array .int
  | 5 => .array .int
  | 6 => .int
  | 7 => .int
  | 8 => .int
  | 9 => .int
  | 10 => .int
  | 11 => .int
  | _ => .boolean
abbrev wsX80 : List Cond := u_ws RX8 TX8 13
theorem nmX8 : ∀ a, a < 13 → ∀ b, b < 13 → a ≠ b → (TX8 a).2.1 ≠ (TX8 b).2.1 := by decide +kernel
theorem tyX8_ok : ∀ k, k < 13 → parseFieldDescriptor (TX8 k).2.2.1 = some (tyX8 k) := by decide +kernel
abbrev cX8_init : ByteArray := prog_10_method_1_code
def yX8_init : MethodName := ⟨RX8, "<init>", "()V"⟩
abbrev cX8_clear : ByteArray := prog_10_method_2_code
def yX8_clear : MethodName := ⟨RX8, "clear", "()V"⟩
abbrev cX8_copyFrom : ByteArray := prog_10_method_3_code
def yX8_copyFrom : MethodName := ⟨RX8, "copyFrom", "(LEdgeEchoes$Wire;)V"⟩
abbrev cX8_calmWaves : ByteArray := prog_10_method_4_code
def yX8_calmWaves : MethodName := ⟨RX8, "calmWaves", "()V"⟩
abbrev cX8_hasPiece : ByteArray := prog_10_method_5_code
def yX8_hasPiece : MethodName := ⟨RX8, "hasPiece", "(I)Z"⟩
abbrev cX8_hasPlace : ByteArray := prog_10_method_6_code
def yX8_hasPlace : MethodName := ⟨RX8, "hasPlace", "(I)Z"⟩
abbrev cX8_addPiece : ByteArray := prog_10_method_7_code
def yX8_addPiece : MethodName := ⟨RX8, "addPiece", "(II)V"⟩
abbrev cX8_firstCellOf : ByteArray := prog_10_method_8_code
def yX8_firstCellOf : MethodName := ⟨RX8, "firstCellOf", "(I)I"⟩
abbrev cX8_changePiece : ByteArray := prog_10_method_9_code
def yX8_changePiece : MethodName := ⟨RX8, "changePiece", "(II)V"⟩
abbrev cX8_changeEnd : ByteArray := prog_10_method_10_code
def yX8_changeEnd : MethodName := ⟨RX8, "changeEnd", "(II)V"⟩
abbrev cX8_sourceVolts : ByteArray := prog_10_method_11_code
def yX8_sourceVolts : MethodName := ⟨RX8, "sourceVolts", "()I"⟩
abbrev cX8_voltsAt : ByteArray := prog_10_method_12_code
def yX8_voltsAt : MethodName := ⟨RX8, "voltsAt", "(I)I"⟩
abbrev cX8_step : ByteArray := prog_10_method_13_code
def yX8_step : MethodName := ⟨RX8, "step", "()V"⟩
abbrev cX8_part : ByteArray := prog_10_method_14_code
def yX8_part : MethodName := ⟨RX8, "part", "(III)V"⟩
abbrev cX8_thrownBack : ByteArray := prog_10_method_15_code
def yX8_thrownBack : MethodName := ⟨RX8, "thrownBack", "(I)I"⟩
abbrev cX8_shared : ByteArray := prog_10_method_16_code
def yX8_shared : MethodName := ⟨RX8, "shared", "(II)I"⟩
def RX9 : String := "EdgeEchoes"
def TX9 : u_T := fun k => match k with
  | 0 => ("EdgeEchoes", "text", "LEdgeEchoes$Text;", true)
  | 1 => ("EdgeEchoes", "now", "LEdgeEchoes$Line;", true)
  | 2 => ("EdgeEchoes", "trial", "LEdgeEchoes$Trial;", true)
  | 3 => ("EdgeEchoes", "past", "LEdgeEchoes$Past;", true)
  | 4 => ("EdgeEchoes", "suspects", "LEdgeEchoes$Suspects;", true)
  | 5 => ("EdgeEchoes", "book", "LEdgeEchoes$Book;", true)
  | 6 => ("EdgeEchoes", "images", "[LEdgeEchoes$Image;", true)
  | 7 => ("EdgeEchoes", "faultLetter", "I", false)
  | _ => ("EdgeEchoes", "drawn", "I", false)
def tyX9 : Nat → FieldType := fun k => match k with
  | 0 => .object "EdgeEchoes$Text"
  | 1 => .object "EdgeEchoes$Line"
  | 2 => .object "EdgeEchoes$Trial"
  | 3 => .object "EdgeEchoes$Past"
  | 4 => .object "EdgeEchoes$Suspects"
  | 5 => .object "EdgeEchoes$Book"
  | 6 => .array (.object "EdgeEchoes$Image")
  | 7 => .int
  | _ => .int
abbrev wsX90 : List Cond := u_ws RX9 TX9 9
theorem nmX9 : ∀ a, a < 9 → ∀ b, b < 9 → a ≠ b → (TX9 a).2.1 ≠ (TX9 b).2.1 := by decide +kernel
theorem tyX9_ok : ∀ k, k < 9 → parseFieldDescriptor (TX9 k).2.2.1 = some (tyX9 k) := by decide +kernel
abbrev cX9_init : ByteArray := prog_1_method_1_code
def yX9_init : MethodName := ⟨RX9, "<init>", "()V"⟩
abbrev cX9_feed : ByteArray := prog_1_method_2_code
def yX9_feed : MethodName := ⟨RX9, "feed", "(I)I"⟩
abbrev cX9_line : ByteArray := prog_1_method_3_code
def yX9_line : MethodName := ⟨RX9, "line", "()I"⟩
abbrev cX9_fault : ByteArray := prog_1_method_4_code
def yX9_fault : MethodName := ⟨RX9, "fault", "()I"⟩
abbrev cX9_told : ByteArray := prog_1_method_5_code
def yX9_told : MethodName := ⟨RX9, "told", "(I)I"⟩
abbrev cX9_wire : ByteArray := prog_1_method_6_code
def yX9_wire : MethodName := ⟨RX9, "wire", "(II)I"⟩
abbrev cX9_cell : ByteArray := prog_1_method_7_code
def yX9_cell : MethodName := ⟨RX9, "cell", "(II)I"⟩
abbrev cX9_place : ByteArray := prog_1_method_8_code
def yX9_place : MethodName := ⟨RX9, "place", "(I)I"⟩
abbrev cX9_gate : ByteArray := prog_1_method_9_code
def yX9_gate : MethodName := ⟨RX9, "gate", "(II)I"⟩
abbrev cX9_tick : ByteArray := prog_1_method_10_code
def yX9_tick : MethodName := ⟨RX9, "tick", "(I)I"⟩
abbrev cX9_drive : ByteArray := prog_1_method_11_code
def yX9_drive : MethodName := ⟨RX9, "drive", "(Z)I"⟩
abbrev cX9_cut : ByteArray := prog_1_method_12_code
def yX9_cut : MethodName := ⟨RX9, "cut", "(I)I"⟩
abbrev cX9_brief : ByteArray := prog_1_method_13_code
def yX9_brief : MethodName := ⟨RX9, "brief", "(I)I"⟩
abbrev cX9_mend : ByteArray := prog_1_method_14_code
def yX9_mend : MethodName := ⟨RX9, "mend", "(I)I"⟩
abbrev cX9_piece : ByteArray := prog_1_method_15_code
def yX9_piece : MethodName := ⟨RX9, "piece", "(II)I"⟩
abbrev cX9_end : ByteArray := prog_1_method_16_code
def yX9_end : MethodName := ⟨RX9, "end", "(II)I"⟩
abbrev cX9_ohms : ByteArray := prog_1_method_17_code
def yX9_ohms : MethodName := ⟨RX9, "ohms", "(I)I"⟩
abbrev cX9_quiet : ByteArray := prog_1_method_18_code
def yX9_quiet : MethodName := ⟨RX9, "quiet", "()I"⟩
abbrev cX9_drift : ByteArray := prog_1_method_19_code
def yX9_drift : MethodName := ⟨RX9, "drift", "(I)I"⟩
abbrev cX9_undo : ByteArray := prog_1_method_20_code
def yX9_undo : MethodName := ⟨RX9, "undo", "(I)I"⟩
abbrev cX9_volts : ByteArray := prog_1_method_21_code
def yX9_volts : MethodName := ⟨RX9, "volts", "(III)I"⟩
abbrev cX9_rest : ByteArray := prog_1_method_22_code
def yX9_rest : MethodName := ⟨RX9, "rest", "(I)I"⟩
abbrev cX9_sees : ByteArray := prog_1_method_23_code
def yX9_sees : MethodName := ⟨RX9, "sees", "(III)I"⟩
abbrev cX9_noNoise : ByteArray := prog_1_method_24_code
def yX9_noNoise : MethodName := ⟨RX9, "noNoise", "(II)I"⟩
abbrev cX9_see : ByteArray := prog_1_method_25_code
def yX9_see : MethodName := ⟨RX9, "see", "(IIZ)I"⟩
abbrev cX9_couldBe : ByteArray := prog_1_method_26_code
def yX9_couldBe : MethodName := ⟨RX9, "couldBe", "(I)I"⟩
abbrev cX9_look : ByteArray := prog_1_method_27_code
def yX9_look : MethodName := ⟨RX9, "look", "()I"⟩
abbrev cX9_write : ByteArray := prog_1_method_28_code
def yX9_write : MethodName := ⟨RX9, "write", "(II)I"⟩
abbrev cX9_judge : ByteArray := prog_1_method_29_code
def yX9_judge : MethodName := ⟨RX9, "judge", "()I"⟩
abbrev cX9_tear : ByteArray := prog_1_method_30_code
def yX9_tear : MethodName := ⟨RX9, "tear", "()I"⟩
abbrev cX9_seed : ByteArray := prog_1_method_31_code
def yX9_seed : MethodName := ⟨RX9, "seed", "(I)I"⟩
abbrev cX9_keep : ByteArray := prog_1_method_32_code
def yX9_keep : MethodName := ⟨RX9, "keep", "(I)I"⟩
abbrev cX9_goBack : ByteArray := prog_1_method_33_code
def yX9_goBack : MethodName := ⟨RX9, "goBack", "(I)I"⟩
abbrev cX9_isPlaceNumber : ByteArray := prog_1_method_34_code
def yX9_isPlaceNumber : MethodName := ⟨RX9, "isPlaceNumber", "(I)Z"⟩
abbrev cX9_refusalToPass : ByteArray := prog_1_method_35_code
def yX9_refusalToPass : MethodName := ⟨RX9, "refusalToPass", "(I)I"⟩
abbrev cX9_turnPlace : ByteArray := prog_1_method_36_code
def yX9_turnPlace : MethodName := ⟨RX9, "turnPlace", "(II)I"⟩
abbrev cX9_draw : ByteArray := prog_1_method_37_code
def yX9_draw : MethodName := ⟨RX9, "draw", "(I)I"⟩
abbrev cX9_driftOnce : ByteArray := prog_1_method_38_code
def yX9_driftOnce : MethodName := ⟨RX9, "driftOnce", "()V"⟩
def RX10 : String := "EdgeEchoesModel"
def TX10 : u_T := fun k => match k with
  | 0 => ("EdgeEchoesModel", "row", "[I", true)
  | 1 => ("EdgeEchoesModel", "pieceOf", "[I", true)
  | 2 => ("EdgeEchoesModel", "undos", "I", false)
  | 3 => ("EdgeEchoesModel", "seed", "I", false)
  | 4 => ("EdgeEchoesModel", "isKept", "[Z", true)
  | 5 => ("EdgeEchoesModel", "seeds", "[I", true)
  | 6 => ("EdgeEchoesModel", "text", "[I", true)
  | 7 => ("EdgeEchoesModel", "length", "I", false)
  | 8 => ("EdgeEchoesModel", "fault", "I", false)
  | 9 => ("EdgeEchoesModel", "seenMany", "I", false)
  | 10 => ("EdgeEchoesModel", "seenTicks", "[I", true)
  | 11 => ("EdgeEchoesModel", "seenVolts", "[I", true)
  | 12 => ("EdgeEchoesModel", "seenIs", "[Z", true)
  | 13 => ("EdgeEchoesModel", "bookMany", "I", false)
  | 14 => ("EdgeEchoesModel", "bookGates", "[I", true)
  | 15 => ("EdgeEchoesModel", "bookEdges", "[I", true)
  | 16 => ("EdgeEchoesModel", "at", "I", false)
  | 17 => ("EdgeEchoesModel", "wrong", "I", false)
  | 18 => ("EdgeEchoesModel", "wrongAt", "I", false)
  | 19 => ("EdgeEchoesModel", "number", "I", false)
  | 20 => ("EdgeEchoesModel", "hasEnd", "Z", false)
  | 21 => ("EdgeEchoesModel", "newOn", "[I", true)
  | 22 => ("EdgeEchoesModel", "newBack", "[I", true)
  | 23 => ("EdgeEchoesModel", "curve", "[I", true)
  | _ => ("EdgeEchoesModel", "told", "[I", true)
def tyX10 : Nat → FieldType := fun k => match k with
  | 0 => .array .int
  | 1 => .array .int
  | 2 => .int
  | 3 => .int
  | 4 => .array .boolean
  | 5 => .array .int
  | 6 => .array .int
  | 7 => .int
  | 8 => .int
  | 9 => .int
  | 10 => .array .int
  | 11 => .array .int
  | 12 => .array .boolean
  | 13 => .int
  | 14 => .array .int
  | 15 => .array .int
  | 16 => .int
  | 17 => .int
  | 18 => .int
  | 19 => .int
  | 20 => .boolean
  | 21 => .array .int
  | 22 => .array .int
  | 23 => .array .int
  | _ => .array .int
abbrev wsX100 : List Cond := u_ws RX10 TX10 25
theorem nmX10 : ∀ a, a < 25 → ∀ b, b < 25 → a ≠ b → (TX10 a).2.1 ≠ (TX10 b).2.1 := by decide +kernel
theorem tyX10_ok : ∀ k, k < 25 → parseFieldDescriptor (TX10 k).2.2.1 = some (tyX10 k) := by decide +kernel
abbrev cX10_init : ByteArray := prog_12_method_1_code
def yX10_init : MethodName := ⟨RX10, "<init>", "()V"⟩
abbrev cX10_in : ByteArray := prog_12_method_2_code
def yX10_in : MethodName := ⟨RX10, "in", "(JJJ)Z"⟩
abbrev cX10_copyRow : ByteArray := prog_12_method_3_code
def yX10_copyRow : MethodName := ⟨RX10, "copyRow", "(III)V"⟩
abbrev cX10_feed : ByteArray := prog_12_method_4_code
def yX10_feed : MethodName := ⟨RX10, "feed", "(I)I"⟩
abbrev cX10_pass : ByteArray := prog_12_method_5_code
def yX10_pass : MethodName := ⟨RX10, "pass", "()V"⟩
abbrev cX10_refuse : ByteArray := prog_12_method_6_code
def yX10_refuse : MethodName := ⟨RX10, "refuse", "(II)Z"⟩
abbrev cX10_isFigure : ByteArray := prog_12_method_7_code
def yX10_isFigure : MethodName := ⟨RX10, "isFigure", "(I)Z"⟩
abbrev cX10_readsNumber : ByteArray := prog_12_method_8_code
def yX10_readsNumber : MethodName := ⟨RX10, "readsNumber", "(II)Z"⟩
abbrev cX10_readsEnd : ByteArray := prog_12_method_9_code
def yX10_readsEnd : MethodName := ⟨RX10, "readsEnd", "()Z"⟩
abbrev cX10_readsDriver : ByteArray := prog_12_method_10_code
def yX10_readsDriver : MethodName := ⟨RX10, "readsDriver", "()Z"⟩
abbrev cX10_readsPiece : ByteArray := prog_12_method_11_code
def yX10_readsPiece : MethodName := ⟨RX10, "readsPiece", "()Z"⟩
abbrev cX10_readsTheEnd : ByteArray := prog_12_method_12_code
def yX10_readsTheEnd : MethodName := ⟨RX10, "readsTheEnd", "()Z"⟩
abbrev cX10_readsGate : ByteArray := prog_12_method_13_code
def yX10_readsGate : MethodName := ⟨RX10, "readsGate", "()Z"⟩
abbrev cX10_readsClause : ByteArray := prog_12_method_14_code
def yX10_readsClause : MethodName := ⟨RX10, "readsClause", "()Z"⟩
abbrev cX10_reads : ByteArray := prog_12_method_15_code
def yX10_reads : MethodName := ⟨RX10, "reads", "()Z"⟩
abbrev cX10_line : ByteArray := prog_12_method_16_code
def yX10_line : MethodName := ⟨RX10, "line", "()I"⟩
abbrev cX10_fault : ByteArray := prog_12_method_17_code
def yX10_fault : MethodName := ⟨RX10, "fault", "()I"⟩
abbrev cX10_isLine : ByteArray := prog_12_method_18_code
def yX10_isLine : MethodName := ⟨RX10, "isLine", "()Z"⟩
abbrev cX10_isCell : ByteArray := prog_12_method_19_code
def yX10_isCell : MethodName := ⟨RX10, "isCell", "(I)Z"⟩
abbrev cX10_isPlace : ByteArray := prog_12_method_20_code
def yX10_isPlace : MethodName := ⟨RX10, "isPlace", "(I)Z"⟩
abbrev cX10_isGate : ByteArray := prog_12_method_21_code
def yX10_isGate : MethodName := ⟨RX10, "isGate", "(I)Z"⟩
abbrev cX10_isPiece : ByteArray := prog_12_method_22_code
def yX10_isPiece : MethodName := ⟨RX10, "isPiece", "(I)Z"⟩
abbrev cX10_bound : ByteArray := prog_12_method_23_code
def yX10_bound : MethodName := ⟨RX10, "bound", "(I)I"⟩
abbrev cX10_ohmsOf : ByteArray := prog_12_method_24_code
def yX10_ohmsOf : MethodName := ⟨RX10, "ohmsOf", "(II)I"⟩
abbrev cX10_meets : ByteArray := prog_12_method_25_code
def yX10_meets : MethodName := ⟨RX10, "meets", "(II)V"⟩
abbrev cX10_source : ByteArray := prog_12_method_26_code
def yX10_source : MethodName := ⟨RX10, "source", "(I)I"⟩
abbrev cX10_ends : ByteArray := prog_12_method_27_code
def yX10_ends : MethodName := ⟨RX10, "ends", "(I)V"⟩
abbrev cX10_voltsOf : ByteArray := prog_12_method_28_code
def yX10_voltsOf : MethodName := ⟨RX10, "voltsOf", "(II)I"⟩
abbrev cX10_looks : ByteArray := prog_12_method_29_code
def yX10_looks : MethodName := ⟨RX10, "looks", "(II)V"⟩
abbrev cX10_ticks : ByteArray := prog_12_method_30_code
def yX10_ticks : MethodName := ⟨RX10, "ticks", "(II)V"⟩
abbrev cX10_allEdges : ByteArray := prog_12_method_31_code
def yX10_allEdges : MethodName := ⟨RX10, "allEdges", "(I)I"⟩
abbrev cX10_hush : ByteArray := prog_12_method_32_code
def yX10_hush : MethodName := ⟨RX10, "hush", "(I)V"⟩
abbrev cX10_seesAll : ByteArray := prog_12_method_33_code
def yX10_seesAll : MethodName := ⟨RX10, "seesAll", "()I"⟩
abbrev cX10_layQuiet : ByteArray := prog_12_method_34_code
def yX10_layQuiet : MethodName := ⟨RX10, "layQuiet", "()V"⟩
abbrev cX10_overBy : ByteArray := prog_12_method_35_code
def yX10_overBy : MethodName := ⟨RX10, "overBy", "(I)I"⟩
abbrev cX10_bestDriver : ByteArray := prog_12_method_36_code
def yX10_bestDriver : MethodName := ⟨RX10, "bestDriver", "()I"⟩
abbrev cX10_comesBack : ByteArray := prog_12_method_37_code
def yX10_comesBack : MethodName := ⟨RX10, "comesBack", "()I"⟩
abbrev cX10_told : ByteArray := prog_12_method_38_code
def yX10_told : MethodName := ⟨RX10, "told", "(I)I"⟩
abbrev cX10_wire : ByteArray := prog_12_method_39_code
def yX10_wire : MethodName := ⟨RX10, "wire", "(II)I"⟩
abbrev cX10_cell : ByteArray := prog_12_method_40_code
def yX10_cell : MethodName := ⟨RX10, "cell", "(II)I"⟩
abbrev cX10_place : ByteArray := prog_12_method_41_code
def yX10_place : MethodName := ⟨RX10, "place", "(I)I"⟩
abbrev cX10_firstOne : ByteArray := prog_12_method_42_code
def yX10_firstOne : MethodName := ⟨RX10, "firstOne", "(I)I"⟩
abbrev cX10_gate : ByteArray := prog_12_method_43_code
def yX10_gate : MethodName := ⟨RX10, "gate", "(II)I"⟩
abbrev cX10_keepPast : ByteArray := prog_12_method_44_code
def yX10_keepPast : MethodName := ⟨RX10, "keepPast", "()V"⟩
abbrev cX10_tick : ByteArray := prog_12_method_45_code
def yX10_tick : MethodName := ⟨RX10, "tick", "(I)I"⟩
abbrev cX10_become : ByteArray := prog_12_method_46_code
def yX10_become : MethodName := ⟨RX10, "become", "(II)I"⟩
abbrev cX10_drive : ByteArray := prog_12_method_47_code
def yX10_drive : MethodName := ⟨RX10, "drive", "(Z)I"⟩
abbrev cX10_makePlace : ByteArray := prog_12_method_48_code
def yX10_makePlace : MethodName := ⟨RX10, "makePlace", "(II)I"⟩
abbrev cX10_cut : ByteArray := prog_12_method_49_code
def yX10_cut : MethodName := ⟨RX10, "cut", "(I)I"⟩
abbrev cX10_brief : ByteArray := prog_12_method_50_code
def yX10_brief : MethodName := ⟨RX10, "brief", "(I)I"⟩
abbrev cX10_mend : ByteArray := prog_12_method_51_code
def yX10_mend : MethodName := ⟨RX10, "mend", "(I)I"⟩
abbrev cX10_piece : ByteArray := prog_12_method_52_code
def yX10_piece : MethodName := ⟨RX10, "piece", "(II)I"⟩
abbrev cX10_end : ByteArray := prog_12_method_53_code
def yX10_end : MethodName := ⟨RX10, "end", "(II)I"⟩
abbrev cX10_ohms : ByteArray := prog_12_method_54_code
def yX10_ohms : MethodName := ⟨RX10, "ohms", "(I)I"⟩
abbrev cX10_quiet : ByteArray := prog_12_method_55_code
def yX10_quiet : MethodName := ⟨RX10, "quiet", "()I"⟩
abbrev cX10_draw : ByteArray := prog_12_method_56_code
def yX10_draw : MethodName := ⟨RX10, "draw", "(I)I"⟩
abbrev cX10_drifts : ByteArray := prog_12_method_57_code
def yX10_drifts : MethodName := ⟨RX10, "drifts", "()V"⟩
abbrev cX10_drift : ByteArray := prog_12_method_58_code
def yX10_drift : MethodName := ⟨RX10, "drift", "(I)I"⟩
abbrev cX10_undo : ByteArray := prog_12_method_59_code
def yX10_undo : MethodName := ⟨RX10, "undo", "(I)I"⟩
abbrev cX10_volts : ByteArray := prog_12_method_60_code
def yX10_volts : MethodName := ⟨RX10, "volts", "(III)I"⟩
abbrev cX10_rest : ByteArray := prog_12_method_61_code
def yX10_rest : MethodName := ⟨RX10, "rest", "(I)I"⟩
abbrev cX10_sees : ByteArray := prog_12_method_62_code
def yX10_sees : MethodName := ⟨RX10, "sees", "(III)I"⟩
abbrev cX10_noNoise : ByteArray := prog_12_method_63_code
def yX10_noNoise : MethodName := ⟨RX10, "noNoise", "(II)I"⟩
abbrev cX10_see : ByteArray := prog_12_method_64_code
def yX10_see : MethodName := ⟨RX10, "see", "(IIZ)I"⟩
abbrev cX10_laysFault : ByteArray := prog_12_method_65_code
def yX10_laysFault : MethodName := ⟨RX10, "laysFault", "(I)Z"⟩
abbrev cX10_isSo : ByteArray := prog_12_method_66_code
def yX10_isSo : MethodName := ⟨RX10, "isSo", "(I)Z"⟩
abbrev cX10_latestSeen : ByteArray := prog_12_method_67_code
def yX10_latestSeen : MethodName := ⟨RX10, "latestSeen", "()I"⟩
abbrev cX10_couldBeIt : ByteArray := prog_12_method_68_code
def yX10_couldBeIt : MethodName := ⟨RX10, "couldBeIt", "(I)Z"⟩
abbrev cX10_couldBe : ByteArray := prog_12_method_69_code
def yX10_couldBe : MethodName := ⟨RX10, "couldBe", "(I)I"⟩
abbrev cX10_look : ByteArray := prog_12_method_70_code
def yX10_look : MethodName := ⟨RX10, "look", "()I"⟩
abbrev cX10_write : ByteArray := prog_12_method_71_code
def yX10_write : MethodName := ⟨RX10, "write", "(II)I"⟩
abbrev cX10_judge : ByteArray := prog_12_method_72_code
def yX10_judge : MethodName := ⟨RX10, "judge", "()I"⟩
abbrev cX10_tear : ByteArray := prog_12_method_73_code
def yX10_tear : MethodName := ⟨RX10, "tear", "()I"⟩
abbrev cX10_seed : ByteArray := prog_12_method_74_code
def yX10_seed : MethodName := ⟨RX10, "seed", "(I)I"⟩
abbrev cX10_keep : ByteArray := prog_12_method_75_code
def yX10_keep : MethodName := ⟨RX10, "keep", "(I)I"⟩
abbrev cX10_goBack : ByteArray := prog_12_method_76_code
def yX10_goBack : MethodName := ⟨RX10, "goBack", "(I)I"⟩
def RJx145de : String := "java/io/Serializable"
def TJx145de : u_T := fun k => match k with
  | _ => ("", "", "", false)
def tyJx145de : Nat → FieldType := fun k => match k with
  | _ => .int
abbrev wsJx145de0 : List Cond := u_ws RJx145de TJx145de 0
theorem nmJx145de : ∀ a, a < 0 → ∀ b, b < 0 → a ≠ b → (TJx145de a).2.1 ≠ (TJx145de b).2.1 := by decide +kernel
theorem tyJx145de_ok : ∀ k, k < 0 → parseFieldDescriptor (TJx145de k).2.2.1 = some (tyJx145de k) := by decide +kernel
def RJx9f9b0 : String := "java/lang/CharSequence"
def TJx9f9b0 : u_T := fun k => match k with
  | _ => ("", "", "", false)
def tyJx9f9b0 : Nat → FieldType := fun k => match k with
  | _ => .int
abbrev wsJx9f9b00 : List Cond := u_ws RJx9f9b0 TJx9f9b0 0
theorem nmJx9f9b0 : ∀ a, a < 0 → ∀ b, b < 0 → a ≠ b → (TJx9f9b0 a).2.1 ≠ (TJx9f9b0 b).2.1 := by decide +kernel
theorem tyJx9f9b0_ok : ∀ k, k < 0 → parseFieldDescriptor (TJx9f9b0 k).2.2.1 = some (tyJx9f9b0 k) := by decide +kernel
def RJ11 : String := "java/lang/Character"
def TJ11 : u_T := fun k => match k with
  | _ => ("", "", "", false)
def tyJ11 : Nat → FieldType := fun k => match k with
  | _ => .int
abbrev wsJ110 : List Cond := u_ws RJ11 TJ11 0
theorem nmJ11 : ∀ a, a < 0 → ∀ b, b < 0 → a ≠ b → (TJ11 a).2.1 ≠ (TJ11 b).2.1 := by decide +kernel
theorem tyJ11_ok : ∀ k, k < 0 → parseFieldDescriptor (TJ11 k).2.2.1 = some (tyJ11 k) := by decide +kernel
abbrev cJ11_isValidCodePoint_9a6ad : ByteArray := prog_13_method_11_code
def yJ11_isValidCodePoint_9a6ad : MethodName := ⟨RJ11, "isValidCodePoint", "(I)Z"⟩
abbrev cJ11_highSurrogate_5068e : ByteArray := prog_13_method_28_code
def yJ11_highSurrogate_5068e : MethodName := ⟨RJ11, "highSurrogate", "(I)C"⟩
abbrev cJ11_lowSurrogate_5068e : ByteArray := prog_13_method_29_code
def yJ11_lowSurrogate_5068e : MethodName := ⟨RJ11, "lowSurrogate", "(I)C"⟩
def RJxb160c : String := "java/lang/Comparable"
def TJxb160c : u_T := fun k => match k with
  | _ => ("", "", "", false)
def tyJxb160c : Nat → FieldType := fun k => match k with
  | _ => .int
abbrev wsJxb160c0 : List Cond := u_ws RJxb160c TJxb160c 0
theorem nmJxb160c : ∀ a, a < 0 → ∀ b, b < 0 → a ≠ b → (TJxb160c a).2.1 ≠ (TJxb160c b).2.1 := by decide +kernel
theorem tyJxb160c_ok : ∀ k, k < 0 → parseFieldDescriptor (TJxb160c k).2.2.1 = some (tyJxb160c k) := by decide +kernel
def RJ9 : String := "java/lang/Math"
def TJ9 : u_T := fun k => match k with
  | _ => ("", "", "", false)
def tyJ9 : Nat → FieldType := fun k => match k with
  | _ => .int
abbrev wsJ90 : List Cond := u_ws RJ9 TJ9 0
theorem nmJ9 : ∀ a, a < 0 → ∀ b, b < 0 → a ≠ b → (TJ9 a).2.1 ≠ (TJ9 b).2.1 := by decide +kernel
theorem tyJ9_ok : ∀ k, k < 0 → parseFieldDescriptor (TJ9 k).2.2.1 = some (tyJ9 k) := by decide +kernel
abbrev cJ9_floorMod_7cf53 : ByteArray := prog_14_method_50_code
def yJ9_floorMod_7cf53 : MethodName := ⟨RJ9, "floorMod", "(II)I"⟩
abbrev cJ9_abs_0f7a4 : ByteArray := prog_14_method_59_code
def yJ9_abs_0f7a4 : MethodName := ⟨RJ9, "abs", "(I)I"⟩
abbrev cJ9_max_7cf53 : ByteArray := prog_14_method_65_code
def yJ9_max_7cf53 : MethodName := ⟨RJ9, "max", "(II)I"⟩
abbrev cJ9_min_7cf53 : ByteArray := prog_14_method_69_code
def yJ9_min_7cf53 : MethodName := ⟨RJ9, "min", "(II)I"⟩
def RJ0 : String := "java/lang/String"
def TJ0 : u_T := fun k => match k with
  | _ => ("", "", "", false)
def tyJ0 : Nat → FieldType := fun k => match k with
  | _ => .int
abbrev wsJ00 : List Cond := u_ws RJ0 TJ0 0
theorem nmJ0 : ∀ a, a < 0 → ∀ b, b < 0 → a ≠ b → (TJ0 a).2.1 ≠ (TJ0 b).2.1 := by decide +kernel
theorem tyJ0_ok : ∀ k, k < 0 → parseFieldDescriptor (TJ0 k).2.2.1 = some (tyJ0 k) := by decide +kernel
abbrev cJ0_length_8abf5 : ByteArray := prog_15_method_54_code
def yJ0_length_8abf5 : MethodName := ⟨RJ0, "length", "()I"⟩
abbrev cJ0_indexOf_0f7a4 : ByteArray := prog_15_method_79_code
def yJ0_indexOf_0f7a4 : MethodName := ⟨RJ0, "indexOf", "(I)I"⟩
abbrev cJ0_indexOf_7cf53 : ByteArray := prog_15_method_80_code
def yJ0_indexOf_7cf53 : MethodName := ⟨RJ0, "indexOf", "(II)I"⟩
abbrev cJ0_coder_7d493 : ByteArray := prog_15_method_152_code
def yJ0_coder_7d493 : MethodName := ⟨RJ0, "coder", "()B"⟩
abbrev cJ0_isLatin1_aae02 : ByteArray := prog_15_method_154_code
def yJ0_isLatin1_aae02 : MethodName := ⟨RJ0, "isLatin1", "()Z"⟩
abbrev cJ0_checkBoundsBeginEnd_23922 : ByteArray := prog_15_method_158_code
def yJ0_checkBoundsBeginEnd_23922 : MethodName := ⟨RJ0, "checkBoundsBeginEnd", "(III)V"⟩
def RJ1 : String := "java/lang/StringLatin1"
def TJ1 : u_T := fun k => match k with
  | _ => ("", "", "", false)
def tyJ1 : Nat → FieldType := fun k => match k with
  | _ => .int
abbrev wsJ10 : List Cond := u_ws RJ1 TJ1 0
theorem nmJ1 : ∀ a, a < 0 → ∀ b, b < 0 → a ≠ b → (TJ1 a).2.1 ≠ (TJ1 b).2.1 := by decide +kernel
theorem tyJ1_ok : ∀ k, k < 0 → parseFieldDescriptor (TJ1 k).2.2.1 = some (tyJ1 k) := by decide +kernel
abbrev cJ1_canEncode_9a6ad : ByteArray := prog_16_method_4_code
def yJ1_canEncode_9a6ad : MethodName := ⟨RJ1, "canEncode", "(I)Z"⟩
abbrev cJ1_indexOf_4cfef : ByteArray := prog_16_method_22_code
def yJ1_indexOf_4cfef : MethodName := ⟨RJ1, "indexOf", "([BIII)I"⟩
abbrev cJ1_indexOfChar_4cfef : ByteArray := prog_16_method_23_code
def yJ1_indexOfChar_4cfef : MethodName := ⟨RJ1, "indexOfChar", "([BIII)I"⟩
def RJ2 : String := "java/lang/StringUTF16"
def TJ2 : u_T := fun k => match k with
  | _ => ("", "", "", false)
def tyJ2 : Nat → FieldType := fun k => match k with
  | _ => .int
abbrev wsJ20 : List Cond := u_ws RJ2 TJ2 0
theorem nmJ2 : ∀ a, a < 0 → ∀ b, b < 0 → a ≠ b → (TJ2 a).2.1 ≠ (TJ2 b).2.1 := by decide +kernel
theorem tyJ2_ok : ∀ k, k < 0 → parseFieldDescriptor (TJ2 k).2.2.1 = some (tyJ2 k) := by decide +kernel
abbrev cJ2_getChar_3b067 : ByteArray := prog_17_method_5_code
def yJ2_getChar_3b067 : MethodName := ⟨RJ2, "getChar", "([BI)C"⟩
abbrev cJ2_length_9d52b : ByteArray := prog_17_method_6_code
def yJ2_length_9d52b : MethodName := ⟨RJ2, "length", "([B)I"⟩
abbrev cJ2_indexOf_4cfef : ByteArray := prog_17_method_40_code
def yJ2_indexOf_4cfef : MethodName := ⟨RJ2, "indexOf", "([BIII)I"⟩
abbrev cJ2_indexOfChar_4cfef : ByteArray := prog_17_method_47_code
def yJ2_indexOfChar_4cfef : MethodName := ⟨RJ2, "indexOfChar", "([BIII)I"⟩
abbrev cJ2_indexOfCharUnsafe_4cfef : ByteArray := prog_17_method_48_code
def yJ2_indexOfCharUnsafe_4cfef : MethodName := ⟨RJ2, "indexOfCharUnsafe", "([BIII)I"⟩
abbrev cJ2_indexOfSupplementary_4cfef : ByteArray := prog_17_method_49_code
def yJ2_indexOfSupplementary_4cfef : MethodName := ⟨RJ2, "indexOfSupplementary", "([BIII)I"⟩
abbrev cJ2_checkBoundsBeginEnd_d044e : ByteArray := prog_17_method_93_code
def yJ2_checkBoundsBeginEnd_d044e : MethodName := ⟨RJ2, "checkBoundsBeginEnd", "(II[B)V"⟩
def RJ10 : String := "java/lang/System"
def TJ10 : u_T := fun k => match k with
  | _ => ("", "", "", false)
def tyJ10 : Nat → FieldType := fun k => match k with
  | _ => .int
abbrev wsJ100 : List Cond := u_ws RJ10 TJ10 0
theorem nmJ10 : ∀ a, a < 0 → ∀ b, b < 0 → a ≠ b → (TJ10 a).2.1 ≠ (TJ10 b).2.1 := by decide +kernel
theorem tyJ10_ok : ∀ k, k < 0 → parseFieldDescriptor (TJ10 k).2.2.1 = some (tyJ10 k) := by decide +kernel
def RJxfd54e : String := "java/lang/constant/Constable"
def TJxfd54e : u_T := fun k => match k with
  | _ => ("", "", "", false)
def tyJxfd54e : Nat → FieldType := fun k => match k with
  | _ => .int
abbrev wsJxfd54e0 : List Cond := u_ws RJxfd54e TJxfd54e 0
theorem nmJxfd54e : ∀ a, a < 0 → ∀ b, b < 0 → a ≠ b → (TJxfd54e a).2.1 ≠ (TJxfd54e b).2.1 := by decide +kernel
theorem tyJxfd54e_ok : ∀ k, k < 0 → parseFieldDescriptor (TJxfd54e k).2.2.1 = some (tyJxfd54e k) := by decide +kernel
def RJx3cf43 : String := "java/lang/constant/ConstantDesc"
def TJx3cf43 : u_T := fun k => match k with
  | _ => ("", "", "", false)
def tyJx3cf43 : Nat → FieldType := fun k => match k with
  | _ => .int
abbrev wsJx3cf430 : List Cond := u_ws RJx3cf43 TJx3cf43 0
theorem nmJx3cf43 : ∀ a, a < 0 → ∀ b, b < 0 → a ≠ b → (TJx3cf43 a).2.1 ≠ (TJx3cf43 b).2.1 := by decide +kernel
theorem tyJx3cf43_ok : ∀ k, k < 0 → parseFieldDescriptor (TJx3cf43 k).2.2.1 = some (tyJx3cf43 k) := by decide +kernel
def RJ7 : String := "java/util/Arrays"
def TJ7 : u_T := fun k => match k with
  | _ => ("", "", "", false)
def tyJ7 : Nat → FieldType := fun k => match k with
  | _ => .int
abbrev wsJ70 : List Cond := u_ws RJ7 TJ7 0
theorem nmJ7 : ∀ a, a < 0 → ∀ b, b < 0 → a ≠ b → (TJ7 a).2.1 ≠ (TJ7 b).2.1 := by decide +kernel
theorem tyJ7_ok : ∀ k, k < 0 → parseFieldDescriptor (TJ7 k).2.2.1 = some (tyJ7 k) := by decide +kernel
abbrev cJ7_fill_53178 : ByteArray := prog_19_method_103_code
def yJ7_fill_53178 : MethodName := ⟨RJ7, "fill", "([II)V"⟩
def RJ3 : String := "jdk/internal/util/Preconditions"
def TJ3 : u_T := fun k => match k with
  | _ => ("", "", "", false)
def tyJ3 : Nat → FieldType := fun k => match k with
  | _ => .int
abbrev wsJ30 : List Cond := u_ws RJ3 TJ3 0
theorem nmJ3 : ∀ a, a < 0 → ∀ b, b < 0 → a ≠ b → (TJ3 a).2.1 ≠ (TJ3 b).2.1 := by decide +kernel
theorem tyJ3_ok : ∀ k, k < 0 → parseFieldDescriptor (TJ3 k).2.2.1 = some (tyJ3 k) := by decide +kernel
abbrev cJ3_checkFromToIndex_8c36e : ByteArray := prog_20_method_12_code
def yJ3_checkFromToIndex_8c36e : MethodName := ⟨RJ3, "checkFromToIndex", "(IIILjava/util/function/BiFunction;)I"⟩
def RL : String := "EdgeEchoesLaw"
abbrev cL_law : ByteArray := code
def yL_law : MethodName := ⟨RL, "law", "([I)Z"⟩
abbrev vwCl : List vw_C := [(RX0, TX0, 3), (RX1, TX1, 7), (RX2, TX2, 3), (RX3, TX3, 4), (RX4, TX4, 3), (RX5, TX5, 8), (RX6, TX6, 5), (RX7, TX7, 2), (RX8, TX8, 13), (RX9, TX9, 9), (RX10, TX10, 25)]

/-- the words that every contract here bears -/
def BG : List Cond := lw_tbl.filter goodWord
theorem bg_in {w : Cond} (h : w ∈ lw_tbl) (hg : goodWord w = true) : w ∈ BG := List.mem_filter.mpr ⟨h, hg⟩
theorem bg_of {w : Cond} (h : w ∈ BG) : w ∈ lw_tbl := (List.mem_filter.mp h).1
theorem bg_good {w : Cond} (h : w ∈ BG) : goodWord w = true := (List.mem_filter.mp h).2
