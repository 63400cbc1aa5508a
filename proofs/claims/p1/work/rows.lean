section
-- ===== PART A: goes FIRST, ahead of the names: the tables' words, and 'selects' of the private methods out of them =====
/-- a private method of a class that the tables say can be made, by its rows of tables_1 -/
def lw_okq (q : MethodName × Nat) : Prop := (q.1.cls ≠ "java/lang/invoke/MethodHandle" ∧ q.1.cls ≠ "java/lang/invoke/VarHandle") ∧ Cond.instantiable q.1.cls q.2 ∈ tables_1 ∧ Cond.privateMethod q.1 ∈ tables_1 ∧ Cond.instanceMethod q.1 ∈ tables_1
theorem lw_p0 : lw_okq (⟨"SagaDesk$Reader", "advance", "()V"⟩, 7) := ⟨⟨by decide +kernel, by decide +kernel⟩, List.mem_of_getElem? (i := 27) (by decide +kernel), List.mem_of_getElem? (i := 319) (by decide +kernel), List.mem_of_getElem? (i := 320) (by decide +kernel)⟩
theorem lw_p1 : lw_okq (⟨"SagaDesk$Reader", "skipRun", "(II)V"⟩, 7) := ⟨⟨by decide +kernel, by decide +kernel⟩, List.mem_of_getElem? (i := 27) (by decide +kernel), List.mem_of_getElem? (i := 324) (by decide +kernel), List.mem_of_getElem? (i := 325) (by decide +kernel)⟩
theorem lw_p2 : lw_okq (⟨"SagaDesk$Reader", "readLine", "(II)I"⟩, 7) := ⟨⟨by decide +kernel, by decide +kernel⟩, List.mem_of_getElem? (i := 27) (by decide +kernel), List.mem_of_getElem? (i := 328) (by decide +kernel), List.mem_of_getElem? (i := 329) (by decide +kernel)⟩
theorem lw_p3 : lw_okq (⟨"SagaDesk$Reader", "readPart", "(II)I"⟩, 7) := ⟨⟨by decide +kernel, by decide +kernel⟩, List.mem_of_getElem? (i := 27) (by decide +kernel), List.mem_of_getElem? (i := 332) (by decide +kernel), List.mem_of_getElem? (i := 333) (by decide +kernel)⟩
theorem lw_p4 : lw_okq (⟨"SagaDesk$Reader", "readStep", "(I)I"⟩, 7) := ⟨⟨by decide +kernel, by decide +kernel⟩, List.mem_of_getElem? (i := 27) (by decide +kernel), List.mem_of_getElem? (i := 336) (by decide +kernel), List.mem_of_getElem? (i := 337) (by decide +kernel)⟩
theorem lw_p5 : lw_okq (⟨"SagaDesk$Reader", "kindOfWord", "()I"⟩, 7) := ⟨⟨by decide +kernel, by decide +kernel⟩, List.mem_of_getElem? (i := 27) (by decide +kernel), List.mem_of_getElem? (i := 340) (by decide +kernel), List.mem_of_getElem? (i := 341) (by decide +kernel)⟩
theorem lw_p6 : lw_okq (⟨"SagaDesk$Reader", "isWord", "(Ljava/lang/String;)Z"⟩, 7) := ⟨⟨by decide +kernel, by decide +kernel⟩, List.mem_of_getElem? (i := 27) (by decide +kernel), List.mem_of_getElem? (i := 353) (by decide +kernel), List.mem_of_getElem? (i := 354) (by decide +kernel)⟩
theorem lw_p7 : lw_okq (⟨"SagaDesk$Reader", "refuse", "()V"⟩, 7) := ⟨⟨by decide +kernel, by decide +kernel⟩, List.mem_of_getElem? (i := 27) (by decide +kernel), List.mem_of_getElem? (i := 405) (by decide +kernel), List.mem_of_getElem? (i := 406) (by decide +kernel)⟩
theorem lw_p8 : lw_okq (⟨"SagaDesk$Reader", "readAccount", "()I"⟩, 7) := ⟨⟨by decide +kernel, by decide +kernel⟩, List.mem_of_getElem? (i := 27) (by decide +kernel), List.mem_of_getElem? (i := 411) (by decide +kernel), List.mem_of_getElem? (i := 412) (by decide +kernel)⟩
theorem lw_p9 : lw_okq (⟨"SagaDesk$Reader", "readNumber", "()I"⟩, 7) := ⟨⟨by decide +kernel, by decide +kernel⟩, List.mem_of_getElem? (i := 27) (by decide +kernel), List.mem_of_getElem? (i := 421) (by decide +kernel), List.mem_of_getElem? (i := 422) (by decide +kernel)⟩
theorem lw_p10 : lw_okq (⟨"SagaDesk$Reader", "readBranches", "(II)I"⟩, 7) := ⟨⟨by decide +kernel, by decide +kernel⟩, List.mem_of_getElem? (i := 27) (by decide +kernel), List.mem_of_getElem? (i := 429) (by decide +kernel), List.mem_of_getElem? (i := 430) (by decide +kernel)⟩
theorem lw_p11 : lw_okq (⟨"SagaDesk$Reader", "expect", "(I)V"⟩, 7) := ⟨⟨by decide +kernel, by decide +kernel⟩, List.mem_of_getElem? (i := 27) (by decide +kernel), List.mem_of_getElem? (i := 433) (by decide +kernel), List.mem_of_getElem? (i := 434) (by decide +kernel)⟩
theorem lw_p12 : lw_okq (⟨"SagaDesk", "isText", "(I)Z"⟩, 8) := ⟨⟨by decide +kernel, by decide +kernel⟩, List.mem_of_getElem? (i := 19) (by decide +kernel), List.mem_of_getElem? (i := 442) (by decide +kernel), List.mem_of_getElem? (i := 443) (by decide +kernel)⟩
theorem lw_p13 : lw_okq (⟨"SagaDesk$Purse", "beyond", "(II)I"⟩, 3) := ⟨⟨by decide +kernel, by decide +kernel⟩, List.mem_of_getElem? (i := 141) (by decide +kernel), List.mem_of_getElem? (i := 508) (by decide +kernel), List.mem_of_getElem? (i := 509) (by decide +kernel)⟩
theorem lw_p14 : lw_okq (⟨"SagaDesk$Purse", "put", "(II)V"⟩, 3) := ⟨⟨by decide +kernel, by decide +kernel⟩, List.mem_of_getElem? (i := 141) (by decide +kernel), List.mem_of_getElem? (i := 520) (by decide +kernel), List.mem_of_getElem? (i := 521) (by decide +kernel)⟩
theorem lw_p15 : lw_okq (⟨"SagaDesk$Purse", "exchange", "(II)V"⟩, 3) := ⟨⟨by decide +kernel, by decide +kernel⟩, List.mem_of_getElem? (i := 141) (by decide +kernel), List.mem_of_getElem? (i := 524) (by decide +kernel), List.mem_of_getElem? (i := 525) (by decide +kernel)⟩
def lw_privs_1 : List (MethodName × Nat) := [(⟨"SagaDesk$Reader", "advance", "()V"⟩, 7), (⟨"SagaDesk$Reader", "skipRun", "(II)V"⟩, 7), (⟨"SagaDesk$Reader", "readLine", "(II)I"⟩, 7), (⟨"SagaDesk$Reader", "readPart", "(II)I"⟩, 7), (⟨"SagaDesk$Reader", "readStep", "(I)I"⟩, 7), (⟨"SagaDesk$Reader", "kindOfWord", "()I"⟩, 7), (⟨"SagaDesk$Reader", "isWord", "(Ljava/lang/String;)Z"⟩, 7), (⟨"SagaDesk$Reader", "refuse", "()V"⟩, 7), (⟨"SagaDesk$Reader", "readAccount", "()I"⟩, 7), (⟨"SagaDesk$Reader", "readNumber", "()I"⟩, 7), (⟨"SagaDesk$Reader", "readBranches", "(II)I"⟩, 7), (⟨"SagaDesk$Reader", "expect", "(I)V"⟩, 7), (⟨"SagaDesk", "isText", "(I)Z"⟩, 8), (⟨"SagaDesk$Purse", "beyond", "(II)I"⟩, 3), (⟨"SagaDesk$Purse", "put", "(II)V"⟩, 3), (⟨"SagaDesk$Purse", "exchange", "(II)V"⟩, 3)]
theorem lw_r1 : ∀ q ∈ lw_privs_1, lw_okq q := List.forall_mem_cons.mpr ⟨lw_p0, List.forall_mem_cons.mpr ⟨lw_p1, List.forall_mem_cons.mpr ⟨lw_p2, List.forall_mem_cons.mpr ⟨lw_p3, List.forall_mem_cons.mpr ⟨lw_p4, List.forall_mem_cons.mpr ⟨lw_p5, List.forall_mem_cons.mpr ⟨lw_p6, List.forall_mem_cons.mpr ⟨lw_p7, List.forall_mem_cons.mpr ⟨lw_p8, List.forall_mem_cons.mpr ⟨lw_p9, List.forall_mem_cons.mpr ⟨lw_p10, List.forall_mem_cons.mpr ⟨lw_p11, List.forall_mem_cons.mpr ⟨lw_p12, List.forall_mem_cons.mpr ⟨lw_p13, List.forall_mem_cons.mpr ⟨lw_p14, List.forall_mem_cons.mpr ⟨lw_p15, fun _ h => absurd h List.not_mem_nil⟩⟩⟩⟩⟩⟩⟩⟩⟩⟩⟩⟩⟩⟩⟩⟩
theorem lw_p16 : lw_okq (⟨"SagaDesk$World", "goForward", "(ILSagaDesk$Saga;)V"⟩, 4) := ⟨⟨by decide +kernel, by decide +kernel⟩, List.mem_of_getElem? (i := 135) (by decide +kernel), List.mem_of_getElem? (i := 600) (by decide +kernel), List.mem_of_getElem? (i := 601) (by decide +kernel)⟩
theorem lw_p17 : lw_okq (⟨"SagaDesk$World", "tryStep", "(ILSagaDesk$Saga;I)V"⟩, 4) := ⟨⟨by decide +kernel, by decide +kernel⟩, List.mem_of_getElem? (i := 135) (by decide +kernel), List.mem_of_getElem? (i := 610) (by decide +kernel), List.mem_of_getElem? (i := 611) (by decide +kernel)⟩
theorem lw_p18 : lw_okq (⟨"SagaDesk$World", "end", "(ILSagaDesk$Saga;I)V"⟩, 4) := ⟨⟨by decide +kernel, by decide +kernel⟩, List.mem_of_getElem? (i := 135) (by decide +kernel), List.mem_of_getElem? (i := 640) (by decide +kernel), List.mem_of_getElem? (i := 641) (by decide +kernel)⟩
theorem lw_p19 : lw_okq (⟨"SagaDesk$World", "goBack", "(ILSagaDesk$Saga;)V"⟩, 4) := ⟨⟨by decide +kernel, by decide +kernel⟩, List.mem_of_getElem? (i := 135) (by decide +kernel), List.mem_of_getElem? (i := 649) (by decide +kernel), List.mem_of_getElem? (i := 650) (by decide +kernel)⟩
theorem lw_p20 : lw_okq (⟨"SagaDesk$World", "undoStep", "(ILSagaDesk$Saga;I)V"⟩, 4) := ⟨⟨by decide +kernel, by decide +kernel⟩, List.mem_of_getElem? (i := 135) (by decide +kernel), List.mem_of_getElem? (i := 657) (by decide +kernel), List.mem_of_getElem? (i := 658) (by decide +kernel)⟩
theorem lw_p21 : lw_okq (⟨"SagaDesk$Saga", "leaveDone", "(I)V"⟩, 14) := ⟨⟨by decide +kernel, by decide +kernel⟩, List.mem_of_getElem? (i := 167) (by decide +kernel), List.mem_of_getElem? (i := 665) (by decide +kernel), List.mem_of_getElem? (i := 666) (by decide +kernel)⟩
theorem lw_p22 : lw_okq (⟨"SagaDesk$World", "happenAgain", "(III)V"⟩, 4) := ⟨⟨by decide +kernel, by decide +kernel⟩, List.mem_of_getElem? (i := 135) (by decide +kernel), List.mem_of_getElem? (i := 712) (by decide +kernel), List.mem_of_getElem? (i := 713) (by decide +kernel)⟩
theorem lw_p23 : lw_okq (⟨"SagaDesk$World", "happenTo", "(LSagaDesk$Saga;II)V"⟩, 4) := ⟨⟨by decide +kernel, by decide +kernel⟩, List.mem_of_getElem? (i := 135) (by decide +kernel), List.mem_of_getElem? (i := 718) (by decide +kernel), List.mem_of_getElem? (i := 719) (by decide +kernel)⟩
theorem lw_p24 : lw_okq (⟨"SagaDesk", "endDrawn", "(II)I"⟩, 8) := ⟨⟨by decide +kernel, by decide +kernel⟩, List.mem_of_getElem? (i := 19) (by decide +kernel), List.mem_of_getElem? (i := 764) (by decide +kernel), List.mem_of_getElem? (i := 765) (by decide +kernel)⟩
theorem lw_p25 : lw_okq (⟨"SagaDesk", "firstOtherwise", "(LSagaDesk$Row;I)I"⟩, 8) := ⟨⟨by decide +kernel, by decide +kernel⟩, List.mem_of_getElem? (i := 19) (by decide +kernel), List.mem_of_getElem? (i := 799) (by decide +kernel), List.mem_of_getElem? (i := 800) (by decide +kernel)⟩
theorem lw_p26 : lw_okq (⟨"SagaDesk", "accountsTold", "(LSagaDesk$Row;)I"⟩, 8) := ⟨⟨by decide +kernel, by decide +kernel⟩, List.mem_of_getElem? (i := 19) (by decide +kernel), List.mem_of_getElem? (i := 803) (by decide +kernel), List.mem_of_getElem? (i := 804) (by decide +kernel)⟩
theorem lw_p27 : lw_okq (⟨"SagaDesk", "numbersTold", "(LSagaDesk$Row;III)I"⟩, 8) := ⟨⟨by decide +kernel, by decide +kernel⟩, List.mem_of_getElem? (i := 19) (by decide +kernel), List.mem_of_getElem? (i := 807) (by decide +kernel), List.mem_of_getElem? (i := 808) (by decide +kernel)⟩
theorem lw_p28 : lw_okq (⟨"SagaDeskModel", "next", "()V"⟩, 49) := ⟨⟨by decide +kernel, by decide +kernel⟩, List.mem_of_getElem? (i := 859) (by decide +kernel), List.mem_of_getElem? (i := 1031) (by decide +kernel), List.mem_of_getElem? (i := 1032) (by decide +kernel)⟩
theorem lw_p29 : lw_okq (⟨"SagaDeskModel", "byteAt", "(I)I"⟩, 49) := ⟨⟨by decide +kernel, by decide +kernel⟩, List.mem_of_getElem? (i := 859) (by decide +kernel), List.mem_of_getElem? (i := 1035) (by decide +kernel), List.mem_of_getElem? (i := 1036) (by decide +kernel)⟩
theorem lw_p30 : lw_okq (⟨"SagaDeskModel", "kindRead", "()I"⟩, 49) := ⟨⟨by decide +kernel, by decide +kernel⟩, List.mem_of_getElem? (i := 859) (by decide +kernel), List.mem_of_getElem? (i := 1039) (by decide +kernel), List.mem_of_getElem? (i := 1040) (by decide +kernel)⟩
theorem lw_p31 : lw_okq (⟨"SagaDeskModel", "isWord", "(Ljava/lang/String;)Z"⟩, 49) := ⟨⟨by decide +kernel, by decide +kernel⟩, List.mem_of_getElem? (i := 859) (by decide +kernel), List.mem_of_getElem? (i := 1044) (by decide +kernel), List.mem_of_getElem? (i := 1045) (by decide +kernel)⟩
def lw_privs_2 : List (MethodName × Nat) := [(⟨"SagaDesk$World", "goForward", "(ILSagaDesk$Saga;)V"⟩, 4), (⟨"SagaDesk$World", "tryStep", "(ILSagaDesk$Saga;I)V"⟩, 4), (⟨"SagaDesk$World", "end", "(ILSagaDesk$Saga;I)V"⟩, 4), (⟨"SagaDesk$World", "goBack", "(ILSagaDesk$Saga;)V"⟩, 4), (⟨"SagaDesk$World", "undoStep", "(ILSagaDesk$Saga;I)V"⟩, 4), (⟨"SagaDesk$Saga", "leaveDone", "(I)V"⟩, 14), (⟨"SagaDesk$World", "happenAgain", "(III)V"⟩, 4), (⟨"SagaDesk$World", "happenTo", "(LSagaDesk$Saga;II)V"⟩, 4), (⟨"SagaDesk", "endDrawn", "(II)I"⟩, 8), (⟨"SagaDesk", "firstOtherwise", "(LSagaDesk$Row;I)I"⟩, 8), (⟨"SagaDesk", "accountsTold", "(LSagaDesk$Row;)I"⟩, 8), (⟨"SagaDesk", "numbersTold", "(LSagaDesk$Row;III)I"⟩, 8), (⟨"SagaDeskModel", "next", "()V"⟩, 49), (⟨"SagaDeskModel", "byteAt", "(I)I"⟩, 49), (⟨"SagaDeskModel", "kindRead", "()I"⟩, 49), (⟨"SagaDeskModel", "isWord", "(Ljava/lang/String;)Z"⟩, 49)]
theorem lw_r2 : ∀ q ∈ lw_privs_2, lw_okq q := List.forall_mem_cons.mpr ⟨lw_p16, List.forall_mem_cons.mpr ⟨lw_p17, List.forall_mem_cons.mpr ⟨lw_p18, List.forall_mem_cons.mpr ⟨lw_p19, List.forall_mem_cons.mpr ⟨lw_p20, List.forall_mem_cons.mpr ⟨lw_p21, List.forall_mem_cons.mpr ⟨lw_p22, List.forall_mem_cons.mpr ⟨lw_p23, List.forall_mem_cons.mpr ⟨lw_p24, List.forall_mem_cons.mpr ⟨lw_p25, List.forall_mem_cons.mpr ⟨lw_p26, List.forall_mem_cons.mpr ⟨lw_p27, List.forall_mem_cons.mpr ⟨lw_p28, List.forall_mem_cons.mpr ⟨lw_p29, List.forall_mem_cons.mpr ⟨lw_p30, List.forall_mem_cons.mpr ⟨lw_p31, fun _ h => absurd h List.not_mem_nil⟩⟩⟩⟩⟩⟩⟩⟩⟩⟩⟩⟩⟩⟩⟩⟩
theorem lw_p32 : lw_okq (⟨"SagaDeskModel", "line", "(I)I"⟩, 49) := ⟨⟨by decide +kernel, by decide +kernel⟩, List.mem_of_getElem? (i := 859) (by decide +kernel), List.mem_of_getElem? (i := 1055) (by decide +kernel), List.mem_of_getElem? (i := 1056) (by decide +kernel)⟩
theorem lw_p33 : lw_okq (⟨"SagaDeskModel", "part", "(II)I"⟩, 49) := ⟨⟨by decide +kernel, by decide +kernel⟩, List.mem_of_getElem? (i := 859) (by decide +kernel), List.mem_of_getElem? (i := 1059) (by decide +kernel), List.mem_of_getElem? (i := 1060) (by decide +kernel)⟩
theorem lw_p34 : lw_okq (⟨"SagaDeskModel", "isSign", "(I)Z"⟩, 49) := ⟨⟨by decide +kernel, by decide +kernel⟩, List.mem_of_getElem? (i := 859) (by decide +kernel), List.mem_of_getElem? (i := 1063) (by decide +kernel), List.mem_of_getElem? (i := 1064) (by decide +kernel)⟩
theorem lw_p35 : lw_okq (⟨"SagaDeskModel", "branches", "(I)I"⟩, 49) := ⟨⟨by decide +kernel, by decide +kernel⟩, List.mem_of_getElem? (i := 859) (by decide +kernel), List.mem_of_getElem? (i := 1067) (by decide +kernel), List.mem_of_getElem? (i := 1068) (by decide +kernel)⟩
theorem lw_p36 : lw_okq (⟨"SagaDeskModel", "step", "(I)I"⟩, 49) := ⟨⟨by decide +kernel, by decide +kernel⟩, List.mem_of_getElem? (i := 859) (by decide +kernel), List.mem_of_getElem? (i := 1071) (by decide +kernel), List.mem_of_getElem? (i := 1072) (by decide +kernel)⟩
theorem lw_p37 : lw_okq (⟨"SagaDeskModel", "takes", "(I)I"⟩, 49) := ⟨⟨by decide +kernel, by decide +kernel⟩, List.mem_of_getElem? (i := 859) (by decide +kernel), List.mem_of_getElem? (i := 1075) (by decide +kernel), List.mem_of_getElem? (i := 1076) (by decide +kernel)⟩
theorem lw_p38 : lw_okq (⟨"SagaDeskModel", "isText", "(I)Z"⟩, 49) := ⟨⟨by decide +kernel, by decide +kernel⟩, List.mem_of_getElem? (i := 859) (by decide +kernel), List.mem_of_getElem? (i := 1083) (by decide +kernel), List.mem_of_getElem? (i := 1084) (by decide +kernel)⟩
theorem lw_p39 : lw_okq (⟨"SagaDeskModel", "chain", "(I)I"⟩, 49) := ⟨⟨by decide +kernel, by decide +kernel⟩, List.mem_of_getElem? (i := 859) (by decide +kernel), List.mem_of_getElem? (i := 1087) (by decide +kernel), List.mem_of_getElem? (i := 1088) (by decide +kernel)⟩
theorem lw_p40 : lw_okq (⟨"SagaDeskModel", "isAhead", "(III)Z"⟩, 49) := ⟨⟨by decide +kernel, by decide +kernel⟩, List.mem_of_getElem? (i := 859) (by decide +kernel), List.mem_of_getElem? (i := 1091) (by decide +kernel), List.mem_of_getElem? (i := 1092) (by decide +kernel)⟩
theorem lw_p41 : lw_okq (⟨"SagaDeskModel", "wide", "(I)I"⟩, 49) := ⟨⟨by decide +kernel, by decide +kernel⟩, List.mem_of_getElem? (i := 859) (by decide +kernel), List.mem_of_getElem? (i := 1096) (by decide +kernel), List.mem_of_getElem? (i := 1097) (by decide +kernel)⟩
theorem lw_p42 : lw_okq (⟨"SagaDeskModel", "beside", "(II)I"⟩, 49) := ⟨⟨by decide +kernel, by decide +kernel⟩, List.mem_of_getElem? (i := 859) (by decide +kernel), List.mem_of_getElem? (i := 1101) (by decide +kernel), List.mem_of_getElem? (i := 1102) (by decide +kernel)⟩
theorem lw_p43 : lw_okq (⟨"SagaDeskModel", "clashes", "(I)I"⟩, 49) := ⟨⟨by decide +kernel, by decide +kernel⟩, List.mem_of_getElem? (i := 859) (by decide +kernel), List.mem_of_getElem? (i := 1105) (by decide +kernel), List.mem_of_getElem? (i := 1106) (by decide +kernel)⟩
theorem lw_p44 : lw_okq (⟨"SagaDeskModel", "accountsOf", "(II)I"⟩, 49) := ⟨⟨by decide +kernel, by decide +kernel⟩, List.mem_of_getElem? (i := 859) (by decide +kernel), List.mem_of_getElem? (i := 1109) (by decide +kernel), List.mem_of_getElem? (i := 1110) (by decide +kernel)⟩
theorem lw_p45 : lw_okq (⟨"SagaDeskModel", "risky", "(I)I"⟩, 49) := ⟨⟨by decide +kernel, by decide +kernel⟩, List.mem_of_getElem? (i := 859) (by decide +kernel), List.mem_of_getElem? (i := 1113) (by decide +kernel), List.mem_of_getElem? (i := 1114) (by decide +kernel)⟩
theorem lw_p46 : lw_okq (⟨"SagaDeskModel", "isClosed", "(II)Z"⟩, 49) := ⟨⟨by decide +kernel, by decide +kernel⟩, List.mem_of_getElem? (i := 859) (by decide +kernel), List.mem_of_getElem? (i := 1117) (by decide +kernel), List.mem_of_getElem? (i := 1118) (by decide +kernel)⟩
theorem lw_p47 : lw_okq (⟨"SagaDeskModel", "isRisky", "(II)Z"⟩, 49) := ⟨⟨by decide +kernel, by decide +kernel⟩, List.mem_of_getElem? (i := 859) (by decide +kernel), List.mem_of_getElem? (i := 1121) (by decide +kernel), List.mem_of_getElem? (i := 1122) (by decide +kernel)⟩
def lw_privs_3 : List (MethodName × Nat) := [(⟨"SagaDeskModel", "line", "(I)I"⟩, 49), (⟨"SagaDeskModel", "part", "(II)I"⟩, 49), (⟨"SagaDeskModel", "isSign", "(I)Z"⟩, 49), (⟨"SagaDeskModel", "branches", "(I)I"⟩, 49), (⟨"SagaDeskModel", "step", "(I)I"⟩, 49), (⟨"SagaDeskModel", "takes", "(I)I"⟩, 49), (⟨"SagaDeskModel", "isText", "(I)Z"⟩, 49), (⟨"SagaDeskModel", "chain", "(I)I"⟩, 49), (⟨"SagaDeskModel", "isAhead", "(III)Z"⟩, 49), (⟨"SagaDeskModel", "wide", "(I)I"⟩, 49), (⟨"SagaDeskModel", "beside", "(II)I"⟩, 49), (⟨"SagaDeskModel", "clashes", "(I)I"⟩, 49), (⟨"SagaDeskModel", "accountsOf", "(II)I"⟩, 49), (⟨"SagaDeskModel", "risky", "(I)I"⟩, 49), (⟨"SagaDeskModel", "isClosed", "(II)Z"⟩, 49), (⟨"SagaDeskModel", "isRisky", "(II)Z"⟩, 49)]
theorem lw_r3 : ∀ q ∈ lw_privs_3, lw_okq q := List.forall_mem_cons.mpr ⟨lw_p32, List.forall_mem_cons.mpr ⟨lw_p33, List.forall_mem_cons.mpr ⟨lw_p34, List.forall_mem_cons.mpr ⟨lw_p35, List.forall_mem_cons.mpr ⟨lw_p36, List.forall_mem_cons.mpr ⟨lw_p37, List.forall_mem_cons.mpr ⟨lw_p38, List.forall_mem_cons.mpr ⟨lw_p39, List.forall_mem_cons.mpr ⟨lw_p40, List.forall_mem_cons.mpr ⟨lw_p41, List.forall_mem_cons.mpr ⟨lw_p42, List.forall_mem_cons.mpr ⟨lw_p43, List.forall_mem_cons.mpr ⟨lw_p44, List.forall_mem_cons.mpr ⟨lw_p45, List.forall_mem_cons.mpr ⟨lw_p46, List.forall_mem_cons.mpr ⟨lw_p47, fun _ h => absurd h List.not_mem_nil⟩⟩⟩⟩⟩⟩⟩⟩⟩⟩⟩⟩⟩⟩⟩⟩
theorem lw_p48 : lw_okq (⟨"SagaDeskModel", "keep", "(I)V"⟩, 49) := ⟨⟨by decide +kernel, by decide +kernel⟩, List.mem_of_getElem? (i := 859) (by decide +kernel), List.mem_of_getElem? (i := 1125) (by decide +kernel), List.mem_of_getElem? (i := 1126) (by decide +kernel)⟩
theorem lw_p49 : lw_okq (⟨"SagaDeskModel", "rowOf", "(II)[I"⟩, 49) := ⟨⟨by decide +kernel, by decide +kernel⟩, List.mem_of_getElem? (i := 859) (by decide +kernel), List.mem_of_getElem? (i := 1130) (by decide +kernel), List.mem_of_getElem? (i := 1131) (by decide +kernel)⟩
theorem lw_p50 : lw_okq (⟨"SagaDeskModel", "doing", "(III)I"⟩, 49) := ⟨⟨by decide +kernel, by decide +kernel⟩, List.mem_of_getElem? (i := 859) (by decide +kernel), List.mem_of_getElem? (i := 1134) (by decide +kernel), List.mem_of_getElem? (i := 1135) (by decide +kernel)⟩
theorem lw_p51 : lw_okq (⟨"SagaDeskModel", "changes", "(II)I"⟩, 49) := ⟨⟨by decide +kernel, by decide +kernel⟩, List.mem_of_getElem? (i := 859) (by decide +kernel), List.mem_of_getElem? (i := 1138) (by decide +kernel), List.mem_of_getElem? (i := 1139) (by decide +kernel)⟩
theorem lw_p52 : lw_okq (⟨"SagaDeskModel", "moves", "(III)I"⟩, 49) := ⟨⟨by decide +kernel, by decide +kernel⟩, List.mem_of_getElem? (i := 859) (by decide +kernel), List.mem_of_getElem? (i := 1145) (by decide +kernel), List.mem_of_getElem? (i := 1146) (by decide +kernel)⟩
theorem lw_p53 : lw_okq (⟨"SagaDeskModel", "swaps", "(II)I"⟩, 49) := ⟨⟨by decide +kernel, by decide +kernel⟩, List.mem_of_getElem? (i := 859) (by decide +kernel), List.mem_of_getElem? (i := 1149) (by decide +kernel), List.mem_of_getElem? (i := 1150) (by decide +kernel)⟩
theorem lw_p54 : lw_okq (⟨"SagaDeskModel", "layBack", "(I)V"⟩, 49) := ⟨⟨by decide +kernel, by decide +kernel⟩, List.mem_of_getElem? (i := 859) (by decide +kernel), List.mem_of_getElem? (i := 1153) (by decide +kernel), List.mem_of_getElem? (i := 1154) (by decide +kernel)⟩
theorem lw_p55 : lw_okq (⟨"SagaDeskModel", "lastOf", "(III)J"⟩, 49) := ⟨⟨by decide +kernel, by decide +kernel⟩, List.mem_of_getElem? (i := 859) (by decide +kernel), List.mem_of_getElem? (i := 1162) (by decide +kernel), List.mem_of_getElem? (i := 1163) (by decide +kernel)⟩
theorem lw_p56 : lw_okq (⟨"SagaDeskModel", "isStep", "(II)Z"⟩, 49) := ⟨⟨by decide +kernel, by decide +kernel⟩, List.mem_of_getElem? (i := 859) (by decide +kernel), List.mem_of_getElem? (i := 1170) (by decide +kernel), List.mem_of_getElem? (i := 1171) (by decide +kernel)⟩
theorem lw_p57 : lw_okq (⟨"SagaDeskModel", "begins", "(II)V"⟩, 49) := ⟨⟨by decide +kernel, by decide +kernel⟩, List.mem_of_getElem? (i := 859) (by decide +kernel), List.mem_of_getElem? (i := 1185) (by decide +kernel), List.mem_of_getElem? (i := 1186) (by decide +kernel)⟩
theorem lw_p58 : lw_okq (⟨"SagaDeskModel", "writes", "(III)V"⟩, 49) := ⟨⟨by decide +kernel, by decide +kernel⟩, List.mem_of_getElem? (i := 859) (by decide +kernel), List.mem_of_getElem? (i := 1189) (by decide +kernel), List.mem_of_getElem? (i := 1190) (by decide +kernel)⟩
theorem lw_p59 : lw_okq (⟨"SagaDeskModel", "refusal", "(II)I"⟩, 49) := ⟨⟨by decide +kernel, by decide +kernel⟩, List.mem_of_getElem? (i := 859) (by decide +kernel), List.mem_of_getElem? (i := 1197) (by decide +kernel), List.mem_of_getElem? (i := 1198) (by decide +kernel)⟩
theorem lw_p60 : lw_okq (⟨"SagaDeskModel", "ticks", "()V"⟩, 49) := ⟨⟨by decide +kernel, by decide +kernel⟩, List.mem_of_getElem? (i := 859) (by decide +kernel), List.mem_of_getElem? (i := 1205) (by decide +kernel), List.mem_of_getElem? (i := 1206) (by decide +kernel)⟩
theorem lw_p61 : lw_okq (⟨"SagaDeskModel", "turn", "(I)V"⟩, 49) := ⟨⟨by decide +kernel, by decide +kernel⟩, List.mem_of_getElem? (i := 859) (by decide +kernel), List.mem_of_getElem? (i := 1209) (by decide +kernel), List.mem_of_getElem? (i := 1210) (by decide +kernel)⟩
theorem lw_p62 : lw_okq (⟨"SagaDeskModel", "undoes", "(I)V"⟩, 49) := ⟨⟨by decide +kernel, by decide +kernel⟩, List.mem_of_getElem? (i := 859) (by decide +kernel), List.mem_of_getElem? (i := 1213) (by decide +kernel), List.mem_of_getElem? (i := 1214) (by decide +kernel)⟩
theorem lw_p63 : lw_okq (⟨"SagaDeskModel", "last", "(I)I"⟩, 49) := ⟨⟨by decide +kernel, by decide +kernel⟩, List.mem_of_getElem? (i := 859) (by decide +kernel), List.mem_of_getElem? (i := 1217) (by decide +kernel), List.mem_of_getElem? (i := 1218) (by decide +kernel)⟩
def lw_privs_4 : List (MethodName × Nat) := [(⟨"SagaDeskModel", "keep", "(I)V"⟩, 49), (⟨"SagaDeskModel", "rowOf", "(II)[I"⟩, 49), (⟨"SagaDeskModel", "doing", "(III)I"⟩, 49), (⟨"SagaDeskModel", "changes", "(II)I"⟩, 49), (⟨"SagaDeskModel", "moves", "(III)I"⟩, 49), (⟨"SagaDeskModel", "swaps", "(II)I"⟩, 49), (⟨"SagaDeskModel", "layBack", "(I)V"⟩, 49), (⟨"SagaDeskModel", "lastOf", "(III)J"⟩, 49), (⟨"SagaDeskModel", "isStep", "(II)Z"⟩, 49), (⟨"SagaDeskModel", "begins", "(II)V"⟩, 49), (⟨"SagaDeskModel", "writes", "(III)V"⟩, 49), (⟨"SagaDeskModel", "refusal", "(II)I"⟩, 49), (⟨"SagaDeskModel", "ticks", "()V"⟩, 49), (⟨"SagaDeskModel", "turn", "(I)V"⟩, 49), (⟨"SagaDeskModel", "undoes", "(I)V"⟩, 49), (⟨"SagaDeskModel", "last", "(I)I"⟩, 49)]
theorem lw_r4 : ∀ q ∈ lw_privs_4, lw_okq q := List.forall_mem_cons.mpr ⟨lw_p48, List.forall_mem_cons.mpr ⟨lw_p49, List.forall_mem_cons.mpr ⟨lw_p50, List.forall_mem_cons.mpr ⟨lw_p51, List.forall_mem_cons.mpr ⟨lw_p52, List.forall_mem_cons.mpr ⟨lw_p53, List.forall_mem_cons.mpr ⟨lw_p54, List.forall_mem_cons.mpr ⟨lw_p55, List.forall_mem_cons.mpr ⟨lw_p56, List.forall_mem_cons.mpr ⟨lw_p57, List.forall_mem_cons.mpr ⟨lw_p58, List.forall_mem_cons.mpr ⟨lw_p59, List.forall_mem_cons.mpr ⟨lw_p60, List.forall_mem_cons.mpr ⟨lw_p61, List.forall_mem_cons.mpr ⟨lw_p62, List.forall_mem_cons.mpr ⟨lw_p63, fun _ h => absurd h List.not_mem_nil⟩⟩⟩⟩⟩⟩⟩⟩⟩⟩⟩⟩⟩⟩⟩⟩
theorem lw_p64 : lw_okq (⟨"SagaDeskModel", "stepsThat", "(II)I"⟩, 49) := ⟨⟨by decide +kernel, by decide +kernel⟩, List.mem_of_getElem? (i := 859) (by decide +kernel), List.mem_of_getElem? (i := 1221) (by decide +kernel), List.mem_of_getElem? (i := 1222) (by decide +kernel)⟩
theorem lw_p65 : lw_okq (⟨"SagaDeskModel", "undoing", "(III)I"⟩, 49) := ⟨⟨by decide +kernel, by decide +kernel⟩, List.mem_of_getElem? (i := 859) (by decide +kernel), List.mem_of_getElem? (i := 1225) (by decide +kernel), List.mem_of_getElem? (i := 1226) (by decide +kernel)⟩
theorem lw_p66 : lw_okq (⟨"SagaDeskModel", "over", "(II)V"⟩, 49) := ⟨⟨by decide +kernel, by decide +kernel⟩, List.mem_of_getElem? (i := 859) (by decide +kernel), List.mem_of_getElem? (i := 1229) (by decide +kernel), List.mem_of_getElem? (i := 1230) (by decide +kernel)⟩
theorem lw_p67 : lw_okq (⟨"SagaDeskModel", "front", "(I)I"⟩, 49) := ⟨⟨by decide +kernel, by decide +kernel⟩, List.mem_of_getElem? (i := 859) (by decide +kernel), List.mem_of_getElem? (i := 1233) (by decide +kernel), List.mem_of_getElem? (i := 1234) (by decide +kernel)⟩
theorem lw_p68 : lw_okq (⟨"SagaDeskModel", "tries", "(II)Z"⟩, 49) := ⟨⟨by decide +kernel, by decide +kernel⟩, List.mem_of_getElem? (i := 859) (by decide +kernel), List.mem_of_getElem? (i := 1237) (by decide +kernel), List.mem_of_getElem? (i := 1238) (by decide +kernel)⟩
theorem lw_p69 : lw_okq (⟨"SagaDeskModel", "isDone", "(III)V"⟩, 49) := ⟨⟨by decide +kernel, by decide +kernel⟩, List.mem_of_getElem? (i := 859) (by decide +kernel), List.mem_of_getElem? (i := 1241) (by decide +kernel), List.mem_of_getElem? (i := 1242) (by decide +kernel)⟩
theorem lw_p70 : lw_okq (⟨"SagaDeskModel", "isPassed", "(I)Z"⟩, 49) := ⟨⟨by decide +kernel, by decide +kernel⟩, List.mem_of_getElem? (i := 859) (by decide +kernel), List.mem_of_getElem? (i := 1245) (by decide +kernel), List.mem_of_getElem? (i := 1246) (by decide +kernel)⟩
theorem lw_p71 : lw_okq (⟨"SagaDeskModel", "replays", "(I)V"⟩, 49) := ⟨⟨by decide +kernel, by decide +kernel⟩, List.mem_of_getElem? (i := 859) (by decide +kernel), List.mem_of_getElem? (i := 1275) (by decide +kernel), List.mem_of_getElem? (i := 1276) (by decide +kernel)⟩
theorem lw_p72 : lw_okq (⟨"SagaDeskModel", "again", "(III)V"⟩, 49) := ⟨⟨by decide +kernel, by decide +kernel⟩, List.mem_of_getElem? (i := 859) (by decide +kernel), List.mem_of_getElem? (i := 1279) (by decide +kernel), List.mem_of_getElem? (i := 1280) (by decide +kernel)⟩
theorem lw_p73 : lw_okq (⟨"SagaDeskModel", "answer", "(I)I"⟩, 49) := ⟨⟨by decide +kernel, by decide +kernel⟩, List.mem_of_getElem? (i := 859) (by decide +kernel), List.mem_of_getElem? (i := 1283) (by decide +kernel), List.mem_of_getElem? (i := 1284) (by decide +kernel)⟩
theorem lw_p74 : lw_okq (⟨"SagaDeskModel", "thinks", "()V"⟩, 49) := ⟨⟨by decide +kernel, by decide +kernel⟩, List.mem_of_getElem? (i := 859) (by decide +kernel), List.mem_of_getElem? (i := 1295) (by decide +kernel), List.mem_of_getElem? (i := 1296) (by decide +kernel)⟩
theorem lw_p75 : lw_okq (⟨"SagaDeskModel", "wakes", "()V"⟩, 49) := ⟨⟨by decide +kernel, by decide +kernel⟩, List.mem_of_getElem? (i := 859) (by decide +kernel), List.mem_of_getElem? (i := 1299) (by decide +kernel), List.mem_of_getElem? (i := 1300) (by decide +kernel)⟩
theorem lw_p76 : lw_okq (⟨"SagaDeskModel", "byLot", "(II)I"⟩, 49) := ⟨⟨by decide +kernel, by decide +kernel⟩, List.mem_of_getElem? (i := 859) (by decide +kernel), List.mem_of_getElem? (i := 1311) (by decide +kernel), List.mem_of_getElem? (i := 1312) (by decide +kernel)⟩
theorem lw_p77 : lw_okq (⟨"SagaDeskModel", "clears", "(I[[I)V"⟩, 49) := ⟨⟨by decide +kernel, by decide +kernel⟩, List.mem_of_getElem? (i := 859) (by decide +kernel), List.mem_of_getElem? (i := 1315) (by decide +kernel), List.mem_of_getElem? (i := 1316) (by decide +kernel)⟩
theorem lw_p78 : lw_okq (⟨"SagaDeskModel", "otherwise", "(II)I"⟩, 49) := ⟨⟨by decide +kernel, by decide +kernel⟩, List.mem_of_getElem? (i := 859) (by decide +kernel), List.mem_of_getElem? (i := 1334) (by decide +kernel), List.mem_of_getElem? (i := 1335) (by decide +kernel)⟩
theorem lw_p79 : lw_okq (⟨"SagaDeskModel", "numbersBy", "(IIZ)I"⟩, 49) := ⟨⟨by decide +kernel, by decide +kernel⟩, List.mem_of_getElem? (i := 859) (by decide +kernel), List.mem_of_getElem? (i := 1338) (by decide +kernel), List.mem_of_getElem? (i := 1339) (by decide +kernel)⟩
def lw_privs_5 : List (MethodName × Nat) := [(⟨"SagaDeskModel", "stepsThat", "(II)I"⟩, 49), (⟨"SagaDeskModel", "undoing", "(III)I"⟩, 49), (⟨"SagaDeskModel", "over", "(II)V"⟩, 49), (⟨"SagaDeskModel", "front", "(I)I"⟩, 49), (⟨"SagaDeskModel", "tries", "(II)Z"⟩, 49), (⟨"SagaDeskModel", "isDone", "(III)V"⟩, 49), (⟨"SagaDeskModel", "isPassed", "(I)Z"⟩, 49), (⟨"SagaDeskModel", "replays", "(I)V"⟩, 49), (⟨"SagaDeskModel", "again", "(III)V"⟩, 49), (⟨"SagaDeskModel", "answer", "(I)I"⟩, 49), (⟨"SagaDeskModel", "thinks", "()V"⟩, 49), (⟨"SagaDeskModel", "wakes", "()V"⟩, 49), (⟨"SagaDeskModel", "byLot", "(II)I"⟩, 49), (⟨"SagaDeskModel", "clears", "(I[[I)V"⟩, 49), (⟨"SagaDeskModel", "otherwise", "(II)I"⟩, 49), (⟨"SagaDeskModel", "numbersBy", "(IIZ)I"⟩, 49)]
theorem lw_r5 : ∀ q ∈ lw_privs_5, lw_okq q := List.forall_mem_cons.mpr ⟨lw_p64, List.forall_mem_cons.mpr ⟨lw_p65, List.forall_mem_cons.mpr ⟨lw_p66, List.forall_mem_cons.mpr ⟨lw_p67, List.forall_mem_cons.mpr ⟨lw_p68, List.forall_mem_cons.mpr ⟨lw_p69, List.forall_mem_cons.mpr ⟨lw_p70, List.forall_mem_cons.mpr ⟨lw_p71, List.forall_mem_cons.mpr ⟨lw_p72, List.forall_mem_cons.mpr ⟨lw_p73, List.forall_mem_cons.mpr ⟨lw_p74, List.forall_mem_cons.mpr ⟨lw_p75, List.forall_mem_cons.mpr ⟨lw_p76, List.forall_mem_cons.mpr ⟨lw_p77, List.forall_mem_cons.mpr ⟨lw_p78, List.forall_mem_cons.mpr ⟨lw_p79, fun _ h => absurd h List.not_mem_nil⟩⟩⟩⟩⟩⟩⟩⟩⟩⟩⟩⟩⟩⟩⟩⟩
theorem lw_p80 : lw_okq (⟨"SagaDeskModel", "busy", "()I"⟩, 49) := ⟨⟨by decide +kernel, by decide +kernel⟩, List.mem_of_getElem? (i := 859) (by decide +kernel), List.mem_of_getElem? (i := 1350) (by decide +kernel), List.mem_of_getElem? (i := 1351) (by decide +kernel)⟩
def lw_privs_6 : List (MethodName × Nat) := [(⟨"SagaDeskModel", "busy", "()I"⟩, 49)]
theorem lw_r6 : ∀ q ∈ lw_privs_6, lw_okq q := List.forall_mem_cons.mpr ⟨lw_p80, fun _ h => absurd h List.not_mem_nil⟩
def lw_privs : List (MethodName × Nat) := lw_privs_1 ++ (lw_privs_2 ++ (lw_privs_3 ++ (lw_privs_4 ++ (lw_privs_5 ++ (lw_privs_6)))))
def lw_tbl : List Cond := k2_sels lw_privs ++ tables_1
theorem lw_privs_ok : ∀ q ∈ lw_privs, lw_okq q := by
  show ∀ q ∈ lw_privs_1 ++ (lw_privs_2 ++ (lw_privs_3 ++ (lw_privs_4 ++ (lw_privs_5 ++ (lw_privs_6))))), lw_okq q
  exact List.forall_mem_append.mpr ⟨lw_r1, List.forall_mem_append.mpr ⟨lw_r2, List.forall_mem_append.mpr ⟨lw_r3, List.forall_mem_append.mpr ⟨lw_r4, List.forall_mem_append.mpr ⟨lw_r5, lw_r6⟩⟩⟩⟩⟩
end
section
/-! ===== names and tables of the claim, written by wip/gen/gentab.py ===== -/
def zRs : List String := ["SagaDesk$Journal", "SagaDesk$Program", "SagaDesk$Purse", "SagaDesk$Reader", "SagaDesk$Row", "SagaDesk$Saga", "SagaDesk$World", "SagaDesk", "SagaDeskModel", "SagaDeskLaw", "java/lang/Integer", "java/lang/Math", "java/util/Arrays", "java/lang/System", "java/lang/String", "java/lang/Object"]
def zRn (o : Nat) : String := zRs.getD o ""
def zT0 : u_T := fun k => match k with
  | 0 => ("SagaDesk$Journal", "events", "[I", true)
  | 1 => ("SagaDesk$Journal", "owners", "[I", true)
  | 2 => ("SagaDesk$Journal", "things", "[I", true)
  | _ => ("SagaDesk$Journal", "size", "I", false)
def zY0 : Nat → FieldType := fun k => match k with
  | 0 => (.array .int)
  | 1 => (.array .int)
  | 2 => (.array .int)
  | _ => .int
def zT1 : u_T := fun k => match k with
  | 0 => ("SagaDesk$Program", "kinds", "[I", true)
  | 1 => ("SagaDesk$Program", "firsts", "[I", true)
  | 2 => ("SagaDesk$Program", "seconds", "[I", true)
  | 3 => ("SagaDesk$Program", "numbers", "[I", true)
  | 4 => ("SagaDesk$Program", "aheads", "[I", true)
  | 5 => ("SagaDesk$Program", "chains", "[I", true)
  | 6 => ("SagaDesk$Program", "size", "I", false)
  | _ => ("SagaDesk$Program", "pivot", "I", false)
def zY1 : Nat → FieldType := fun k => match k with
  | 0 => (.array .int)
  | 1 => (.array .int)
  | 2 => (.array .int)
  | 3 => (.array .int)
  | 4 => (.array .int)
  | 5 => (.array .int)
  | 6 => .int
  | _ => .int
def zT2 : u_T := fun k => match k with
  | 0 => ("SagaDesk$Purse", "balances", "[I", true)
  | 1 => ("SagaDesk$Purse", "held", "I", false)
  | _ => ("SagaDesk$Purse", "marks", "I", false)
def zY2 : Nat → FieldType := fun k => match k with
  | 0 => (.array .int)
  | 1 => .int
  | _ => .int
def zT3 : u_T := fun k => match k with
  | 0 => ("SagaDesk$Reader", "bytes", "[I", true)
  | 1 => ("SagaDesk$Reader", "size", "I", false)
  | 2 => ("SagaDesk$Reader", "place", "I", false)
  | 3 => ("SagaDesk$Reader", "token", "I", false)
  | 4 => ("SagaDesk$Reader", "start", "I", false)
  | 5 => ("SagaDesk$Reader", "fault", "I", false)
  | _ => ("SagaDesk$Reader", "program", "LSagaDesk$Program;", false)
def zY3 : Nat → FieldType := fun k => match k with
  | 0 => (.array .int)
  | 1 => .int
  | 2 => .int
  | 3 => .int
  | 4 => .int
  | 5 => .int
  | _ => (.object "SagaDesk$Program")
def zT4 : u_T := fun k => match k with
  | 0 => ("SagaDesk$Row", "sort", "I", false)
  | 1 => ("SagaDesk$Row", "size", "I", false)
  | _ => ("SagaDesk$Row", "items", "[I", true)
def zY4 : Nat → FieldType := fun k => match k with
  | 0 => .int
  | 1 => .int
  | _ => (.array .int)
def zT5 : u_T := fun k => match k with
  | 0 => ("SagaDesk$Saga", "state", "I", false)
  | 1 => ("SagaDesk$Saga", "text", "I", false)
  | 2 => ("SagaDesk$Saga", "program", "LSagaDesk$Program;", false)
  | 3 => ("SagaDesk$Saga", "done", "I", false)
  | 4 => ("SagaDesk$Saga", "undone", "I", false)
  | 5 => ("SagaDesk$Saga", "parked", "I", false)
  | 6 => ("SagaDesk$Saga", "order", "[I", true)
  | 7 => ("SagaDesk$Saga", "depth", "I", false)
  | 8 => ("SagaDesk$Saga", "numbers", "[I", true)
  | 9 => ("SagaDesk$Saga", "doneNumbers", "[I", true)
  | 10 => ("SagaDesk$Saga", "tryPlans", "[I", true)
  | 11 => ("SagaDesk$Saga", "undoPlans", "[I", true)
  | 12 => ("SagaDesk$Saga", "failures", "[I", true)
  | _ => ("SagaDesk$Saga", "reasons", "[I", true)
def zY5 : Nat → FieldType := fun k => match k with
  | 0 => .int
  | 1 => .int
  | 2 => (.object "SagaDesk$Program")
  | 3 => .int
  | 4 => .int
  | 5 => .int
  | 6 => (.array .int)
  | 7 => .int
  | 8 => (.array .int)
  | 9 => (.array .int)
  | 10 => (.array .int)
  | 11 => (.array .int)
  | 12 => (.array .int)
  | _ => (.array .int)
def zT6 : u_T := fun k => match k with
  | 0 => ("SagaDesk$World", "texts", "[LSagaDesk$Program;", true)
  | 1 => ("SagaDesk$World", "journal", "LSagaDesk$Journal;", true)
  | 2 => ("SagaDesk$World", "purse", "LSagaDesk$Purse;", true)
  | _ => ("SagaDesk$World", "sagas", "[LSagaDesk$Saga;", true)
def zY6 : Nat → FieldType := fun k => match k with
  | 0 => (.array (.object "SagaDesk$Program"))
  | 1 => (.object "SagaDesk$Journal")
  | 2 => (.object "SagaDesk$Purse")
  | _ => (.array (.object "SagaDesk$Saga"))
def zT7 : u_T := fun k => match k with
  | 0 => ("SagaDesk", "reader", "LSagaDesk$Reader;", true)
  | 1 => ("SagaDesk", "texts", "[LSagaDesk$Program;", true)
  | 2 => ("SagaDesk", "textCount", "I", false)
  | 3 => ("SagaDesk", "journal", "LSagaDesk$Journal;", true)
  | 4 => ("SagaDesk", "real", "LSagaDesk$World;", true)
  | 5 => ("SagaDesk", "thought", "LSagaDesk$World;", true)
  | 6 => ("SagaDesk", "rows", "[LSagaDesk$Row;", true)
  | _ => ("SagaDesk", "ways", "[J", true)
def zY7 : Nat → FieldType := fun k => match k with
  | 0 => (.object "SagaDesk$Reader")
  | 1 => (.array (.object "SagaDesk$Program"))
  | 2 => .int
  | 3 => (.object "SagaDesk$Journal")
  | 4 => (.object "SagaDesk$World")
  | 5 => (.object "SagaDesk$World")
  | 6 => (.array (.object "SagaDesk$Row"))
  | _ => (.array .long)
def zT8 : u_T := fun k => match k with
  | 0 => ("SagaDeskModel", "texts", "I", false)
  | 1 => ("SagaDeskModel", "stepMany", "[I", true)
  | 2 => ("SagaDeskModel", "pivots", "[I", true)
  | 3 => ("SagaDeskModel", "kinds", "[[I", true)
  | 4 => ("SagaDeskModel", "firsts", "[[I", true)
  | 5 => ("SagaDeskModel", "seconds", "[[I", true)
  | 6 => ("SagaDeskModel", "numbers", "[[I", true)
  | 7 => ("SagaDeskModel", "aheads", "[[I", true)
  | 8 => ("SagaDeskModel", "balances", "[I", true)
  | 9 => ("SagaDeskModel", "held", "I", false)
  | 10 => ("SagaDeskModel", "marked", "I", false)
  | 11 => ("SagaDeskModel", "states", "[I", true)
  | 12 => ("SagaDeskModel", "textOf", "[I", true)
  | 13 => ("SagaDeskModel", "stands", "[[I", true)
  | 14 => ("SagaDeskModel", "when", "[[I", true)
  | 15 => ("SagaDeskModel", "by", "[[I", true)
  | 16 => ("SagaDeskModel", "fails", "[[I", true)
  | 17 => ("SagaDeskModel", "whys", "[[I", true)
  | 18 => ("SagaDeskModel", "plans", "[[I", true)
  | 19 => ("SagaDeskModel", "undoPlans", "[[I", true)
  | 20 => ("SagaDeskModel", "clock", "I", false)
  | 21 => ("SagaDeskModel", "otherSaga", "I", false)
  | 22 => ("SagaDeskModel", "otherStep", "I", false)
  | 23 => ("SagaDeskModel", "otherNumber", "I", false)
  | 24 => ("SagaDeskModel", "lines", "I", false)
  | 25 => ("SagaDeskModel", "isThought", "Z", false)
  | 26 => ("SagaDeskModel", "acts", "[I", true)
  | 27 => ("SagaDeskModel", "whose", "[I", true)
  | 28 => ("SagaDeskModel", "which", "[I", true)
  | 29 => ("SagaDeskModel", "tape", "[I", true)
  | 30 => ("SagaDeskModel", "taped", "I", false)
  | 31 => ("SagaDeskModel", "at", "I", false)
  | 32 => ("SagaDeskModel", "begin", "I", false)
  | 33 => ("SagaDeskModel", "token", "I", false)
  | 34 => ("SagaDeskModel", "value", "I", false)
  | 35 => ("SagaDeskModel", "opened", "I", false)
  | 36 => ("SagaDeskModel", "newPivot", "I", false)
  | 37 => ("SagaDeskModel", "newSteps", "I", false)
  | 38 => ("SagaDeskModel", "isWrong", "Z", false)
  | 39 => ("SagaDeskModel", "ways", "[J", true)
  | 40 => ("SagaDeskModel", "asideBalances", "[[I", true)
  | 41 => ("SagaDeskModel", "asideNumbers", "[[I", true)
  | 42 => ("SagaDeskModel", "asideStates", "[[I", true)
  | 43 => ("SagaDeskModel", "asideTexts", "[[I", true)
  | 44 => ("SagaDeskModel", "asideSteps", "[[[I", true)
  | 45 => ("SagaDeskModel", "sorts", "[I", true)
  | 46 => ("SagaDeskModel", "lengths", "[I", true)
  | 47 => ("SagaDeskModel", "items", "[[I", true)
  | _ => ("SagaDeskModel", "passed", "[I", true)
def zY8 : Nat → FieldType := fun k => match k with
  | 0 => .int
  | 1 => (.array .int)
  | 2 => (.array .int)
  | 3 => (.array (.array .int))
  | 4 => (.array (.array .int))
  | 5 => (.array (.array .int))
  | 6 => (.array (.array .int))
  | 7 => (.array (.array .int))
  | 8 => (.array .int)
  | 9 => .int
  | 10 => .int
  | 11 => (.array .int)
  | 12 => (.array .int)
  | 13 => (.array (.array .int))
  | 14 => (.array (.array .int))
  | 15 => (.array (.array .int))
  | 16 => (.array (.array .int))
  | 17 => (.array (.array .int))
  | 18 => (.array (.array .int))
  | 19 => (.array (.array .int))
  | 20 => .int
  | 21 => .int
  | 22 => .int
  | 23 => .int
  | 24 => .int
  | 25 => .boolean
  | 26 => (.array .int)
  | 27 => (.array .int)
  | 28 => (.array .int)
  | 29 => (.array .int)
  | 30 => .int
  | 31 => .int
  | 32 => .int
  | 33 => .int
  | 34 => .int
  | 35 => .int
  | 36 => .int
  | 37 => .int
  | 38 => .boolean
  | 39 => (.array .long)
  | 40 => (.array (.array .int))
  | 41 => (.array (.array .int))
  | 42 => (.array (.array .int))
  | 43 => (.array (.array .int))
  | 44 => (.array (.array (.array .int)))
  | 45 => (.array .int)
  | 46 => (.array .int)
  | 47 => (.array (.array .int))
  | _ => (.array .int)
def zCl : List vw_C := [("SagaDesk$Journal", zT0, 4), ("SagaDesk$Program", zT1, 8), ("SagaDesk$Purse", zT2, 3), ("SagaDesk$Reader", zT3, 7), ("SagaDesk$Row", zT4, 3), ("SagaDesk$Saga", zT5, 14), ("SagaDesk$World", zT6, 4), ("SagaDesk", zT7, 8), ("SagaDeskModel", zT8, 49)]
/-- the kinds of the fields: 0 int, 1 reference, 2 boolean -/
def zFk : List (List Nat) := [[1, 1, 1, 0], [1, 1, 1, 1, 1, 1, 0, 0], [1, 0, 0], [1, 0, 0, 0, 0, 0, 1], [0, 0, 1], [0, 0, 1, 0, 0, 0, 1, 0, 1, 1, 1, 1, 1, 1], [1, 1, 1, 1], [1, 1, 0, 1, 1, 1, 1, 1], [0, 1, 1, 1, 1, 1, 1, 1, 1, 0, 0, 1, 1, 1, 1, 1, 1, 1, 1, 1, 0, 0, 0, 0, 0, 2, 1, 1, 1, 1, 0, 0, 0, 0, 0, 0, 0, 0, 2, 1, 1, 1, 1, 1, 1, 1, 1, 1, 1]]
theorem zn_0 : ∀ a, a < 4 → ∀ b, b < 4 → a ≠ b → (zT0 a).2.1 ≠ (zT0 b).2.1 := by decide +kernel
theorem zy_0 : ∀ k, k < 4 → parseFieldDescriptor (zT0 k).2.2.1 = some (zY0 k) := by decide +kernel
theorem zn_1 : ∀ a, a < 8 → ∀ b, b < 8 → a ≠ b → (zT1 a).2.1 ≠ (zT1 b).2.1 := by decide +kernel
theorem zy_1 : ∀ k, k < 8 → parseFieldDescriptor (zT1 k).2.2.1 = some (zY1 k) := by decide +kernel
theorem zn_2 : ∀ a, a < 3 → ∀ b, b < 3 → a ≠ b → (zT2 a).2.1 ≠ (zT2 b).2.1 := by decide +kernel
theorem zy_2 : ∀ k, k < 3 → parseFieldDescriptor (zT2 k).2.2.1 = some (zY2 k) := by decide +kernel
theorem zn_3 : ∀ a, a < 7 → ∀ b, b < 7 → a ≠ b → (zT3 a).2.1 ≠ (zT3 b).2.1 := by decide +kernel
theorem zy_3 : ∀ k, k < 7 → parseFieldDescriptor (zT3 k).2.2.1 = some (zY3 k) := by decide +kernel
theorem zn_4 : ∀ a, a < 3 → ∀ b, b < 3 → a ≠ b → (zT4 a).2.1 ≠ (zT4 b).2.1 := by decide +kernel
theorem zy_4 : ∀ k, k < 3 → parseFieldDescriptor (zT4 k).2.2.1 = some (zY4 k) := by decide +kernel
theorem zn_5 : ∀ a, a < 14 → ∀ b, b < 14 → a ≠ b → (zT5 a).2.1 ≠ (zT5 b).2.1 := by decide +kernel
theorem zy_5 : ∀ k, k < 14 → parseFieldDescriptor (zT5 k).2.2.1 = some (zY5 k) := by decide +kernel
theorem zn_6 : ∀ a, a < 4 → ∀ b, b < 4 → a ≠ b → (zT6 a).2.1 ≠ (zT6 b).2.1 := by decide +kernel
theorem zy_6 : ∀ k, k < 4 → parseFieldDescriptor (zT6 k).2.2.1 = some (zY6 k) := by decide +kernel
theorem zn_7 : ∀ a, a < 8 → ∀ b, b < 8 → a ≠ b → (zT7 a).2.1 ≠ (zT7 b).2.1 := by decide +kernel
theorem zy_7 : ∀ k, k < 8 → parseFieldDescriptor (zT7 k).2.2.1 = some (zY7 k) := by decide +kernel
theorem zn_8 : ∀ a, a < 49 → ∀ b, b < 49 → a ≠ b → (zT8 a).2.1 ≠ (zT8 b).2.1 := by decide +kernel
theorem zy_8 : ∀ k, k < 49 → parseFieldDescriptor (zT8 k).2.2.1 = some (zY8 k) := by decide +kernel
/-- the methods: name, code, words of locals, return type, class, how many arguments (without this), kind of the answer (0 none, 1 int, 2 boolean, 3 long, 4 reference), place of its word -/
abbrev zMT : Type := MethodName × ByteArray × Nat × Option FieldType × Nat × Nat × Nat × Nat
def zMs0 : List zMT := [
  (⟨"SagaDesk", "<init>", "()V"⟩, prog_1_method_1_code, 2, (Option.none : Option Jvm.ClassFile.FieldType), 7, 0, 0, 103),
  (⟨"SagaDesk$Reader", "<init>", "()V"⟩, prog_5_method_1_code, 1, (Option.none : Option Jvm.ClassFile.FieldType), 3, 0, 0, 111),
  (⟨"SagaDesk$Program", "<init>", "()V"⟩, prog_3_method_1_code, 1, (Option.none : Option Jvm.ClassFile.FieldType), 1, 0, 0, 142),
  (⟨"SagaDesk$Journal", "<init>", "(I)V"⟩, prog_2_method_1_code, 3, (Option.none : Option Jvm.ClassFile.FieldType), 0, 1, 0, 189),
  (⟨"SagaDesk$World", "<init>", "([LSagaDesk$Program;LSagaDesk$Journal;)V"⟩, prog_8_method_1_code, 4, (Option.none : Option Jvm.ClassFile.FieldType), 6, 2, 0, 219),
  (⟨"SagaDesk$Purse", "<init>", "()V"⟩, prog_4_method_1_code, 1, (Option.none : Option Jvm.ClassFile.FieldType), 2, 0, 0, 225),
  (⟨"java/util/Arrays", "fill", "([II)V"⟩, prog_17_method_103_code, 4, (Option.none : Option Jvm.ClassFile.FieldType), 12, 2, 0, 229),
  (⟨"SagaDesk$Saga", "<init>", "()V"⟩, prog_7_method_1_code, 1, (Option.none : Option Jvm.ClassFile.FieldType), 5, 0, 0, 251),
  (⟨"SagaDesk$Row", "<init>", "()V"⟩, prog_6_method_1_code, 1, (Option.none : Option Jvm.ClassFile.FieldType), 4, 0, 0, 332),
  (⟨"SagaDesk", "feed", "(IIIIII)I"⟩, prog_1_method_2_code, 8, (Option.some FieldType.int), 7, 6, 1, 376),
  (⟨"SagaDesk", "isIn", "(III)Z"⟩, prog_1_method_27_code, 3, (Option.some FieldType.boolean), 7, 3, 2, 379),
  (⟨"SagaDesk", "isByte", "(I)Z"⟩, prog_1_method_28_code, 1, (Option.some FieldType.boolean), 7, 1, 2, 382),
  (⟨"SagaDesk$Reader", "append", "(I)V"⟩, prog_5_method_2_code, 2, (Option.none : Option Jvm.ClassFile.FieldType), 3, 1, 0, 386),
  (⟨"SagaDesk", "text", "()I"⟩, prog_1_method_3_code, 2, (Option.some FieldType.int), 7, 0, 1, 390),
  (⟨"SagaDesk$Reader", "readInto", "(LSagaDesk$Program;)I"⟩, prog_5_method_3_code, 2, (Option.some FieldType.int), 3, 1, 1, 394),
  (⟨"SagaDesk$Program", "clear", "()V"⟩, prog_3_method_2_code, 1, (Option.none : Option Jvm.ClassFile.FieldType), 1, 0, 0, 398),
  (⟨"SagaDesk$Reader", "advance", "()V"⟩, prog_5_method_4_code, 2, (Option.none : Option Jvm.ClassFile.FieldType), 3, 0, 0, 402),
  (⟨"SagaDesk$Reader", "skipRun", "(II)V"⟩, prog_5_method_5_code, 3, (Option.none : Option Jvm.ClassFile.FieldType), 3, 2, 0, 407),
  (⟨"SagaDesk$Reader", "readLine", "(II)I"⟩, prog_5_method_8_code, 5, (Option.some FieldType.int), 3, 2, 1, 411),
  (⟨"SagaDesk$Reader", "readPart", "(II)I"⟩, prog_5_method_9_code, 3, (Option.some FieldType.int), 3, 2, 1, 415),
  (⟨"SagaDesk$Reader", "readStep", "(I)I"⟩, prog_5_method_11_code, 6, (Option.some FieldType.int), 3, 1, 1, 419),
  (⟨"SagaDesk$Reader", "kindOfWord", "()I"⟩, prog_5_method_14_code, 2, (Option.some FieldType.int), 3, 0, 1, 423),
  (⟨"SagaDesk$Reader", "wordOf", "(I)Ljava/lang/String;"⟩, prog_5_method_16_code, 1, (Option.some (FieldType.object "java/lang/String")), 3, 1, 4, 426),
  (⟨"SagaDesk$Reader", "isWord", "(Ljava/lang/String;)Z"⟩, prog_5_method_15_code, 3, (Option.some FieldType.boolean), 3, 1, 2, 436)]
def zMs1 : List zMT := [
  (⟨"SagaDesk$Reader", "refuse", "()V"⟩, prog_5_method_6_code, 1, (Option.none : Option Jvm.ClassFile.FieldType), 3, 0, 0, 488),
  (⟨"SagaDesk$Reader", "readAccount", "()I"⟩, prog_5_method_12_code, 2, (Option.some FieldType.int), 3, 0, 1, 494),
  (⟨"SagaDesk", "isAccount", "(I)Z"⟩, prog_1_method_29_code, 1, (Option.some FieldType.boolean), 7, 1, 2, 497),
  (⟨"SagaDesk", "hasNumber", "(I)Z"⟩, prog_1_method_36_code, 1, (Option.some FieldType.boolean), 7, 1, 2, 500),
  (⟨"SagaDesk$Reader", "readNumber", "()I"⟩, prog_5_method_13_code, 3, (Option.some FieldType.int), 3, 0, 1, 504),
  (⟨"SagaDesk$Program", "append", "(IIIII)I"⟩, prog_3_method_5_code, 6, (Option.some FieldType.int), 1, 5, 1, 508),
  (⟨"SagaDesk$Reader", "readBranches", "(II)I"⟩, prog_5_method_10_code, 4, (Option.some FieldType.int), 3, 2, 1, 512),
  (⟨"SagaDesk$Reader", "expect", "(I)V"⟩, prog_5_method_7_code, 2, (Option.none : Option Jvm.ClassFile.FieldType), 3, 1, 0, 516),
  (⟨"SagaDesk", "shape", "(II)I"⟩, prog_1_method_4_code, 4, (Option.some FieldType.int), 7, 2, 1, 521),
  (⟨"SagaDesk", "isText", "(I)Z"⟩, prog_1_method_32_code, 2, (Option.some FieldType.boolean), 7, 1, 2, 525),
  (⟨"SagaDesk$Program", "longestChain", "()I"⟩, prog_3_method_9_code, 4, (Option.some FieldType.int), 1, 0, 1, 529),
  (⟨"SagaDesk", "isBit", "(II)Z"⟩, prog_1_method_37_code, 2, (Option.some FieldType.boolean), 7, 2, 2, 532),
  (⟨"SagaDesk$Program", "widest", "()I"⟩, prog_3_method_10_code, 1, (Option.some FieldType.int), 1, 0, 1, 537),
  (⟨"SagaDesk$Program", "all", "()I"⟩, prog_3_method_4_code, 1, (Option.some FieldType.int), 1, 0, 1, 541),
  (⟨"SagaDesk$Program", "widestFrom", "(LSagaDesk$Program;II)I"⟩, prog_3_method_11_code, 4, (Option.some FieldType.int), 1, 3, 1, 544),
  (⟨"SagaDesk$Program", "beside", "(I)I"⟩, prog_3_method_8_code, 4, (Option.some FieldType.int), 1, 1, 1, 548),
  (⟨"SagaDesk$Program", "countClashes", "()I"⟩, prog_3_method_13_code, 5, (Option.some FieldType.int), 1, 0, 1, 552),
  (⟨"SagaDesk$Program", "accountsOf", "(I)I"⟩, prog_3_method_12_code, 4, (Option.some FieldType.int), 1, 1, 1, 556),
  (⟨"SagaDesk$Purse", "become", "(LSagaDesk$Purse;)V"⟩, prog_4_method_3_code, 2, (Option.none : Option Jvm.ClassFile.FieldType), 2, 1, 0, 561),
  (⟨"SagaDesk", "countRisky", "(LSagaDesk$Program;LSagaDesk$Purse;II)I"⟩, prog_1_method_40_code, 7, (Option.some FieldType.int), 7, 4, 1, 567),
  (⟨"SagaDesk$Program", "next", "(I)I"⟩, prog_3_method_7_code, 4, (Option.some FieldType.int), 1, 1, 1, 571),
  (⟨"SagaDesk$Purse", "blocksOne", "(LSagaDesk$Program;I)Z"⟩, prog_4_method_6_code, 4, (Option.some FieldType.boolean), 2, 2, 2, 575),
  (⟨"SagaDesk$Purse", "obstacle", "(LSagaDesk$Program;III)I"⟩, prog_4_method_4_code, 7, (Option.some FieldType.int), 2, 4, 1, 580),
  (⟨"SagaDesk$Program", "has", "(I)Z"⟩, prog_3_method_3_code, 2, (Option.some FieldType.boolean), 1, 1, 2, 584)]
def zMs2 : List zMT := [
  (⟨"SagaDesk$Purse", "toFirst", "(II)I"⟩, prog_4_method_7_code, 2, (Option.some FieldType.int), 2, 2, 1, 587),
  (⟨"SagaDesk$Purse", "beyond", "(II)I"⟩, prog_4_method_9_code, 4, (Option.some FieldType.int), 2, 2, 1, 591),
  (⟨"SagaDesk$Purse", "toSecond", "(II)I"⟩, prog_4_method_8_code, 2, (Option.some FieldType.int), 2, 2, 1, 594),
  (⟨"SagaDesk$Purse", "change", "(LSagaDesk$Program;III)V"⟩, prog_4_method_5_code, 6, (Option.none : Option Jvm.ClassFile.FieldType), 2, 4, 0, 599),
  (⟨"SagaDesk$Purse", "put", "(II)V"⟩, prog_4_method_10_code, 3, (Option.none : Option Jvm.ClassFile.FieldType), 2, 2, 0, 603),
  (⟨"SagaDesk$Purse", "exchange", "(II)V"⟩, prog_4_method_11_code, 4, (Option.none : Option Jvm.ClassFile.FieldType), 2, 2, 0, 607),
  (⟨"SagaDesk", "orders", "(I)J"⟩, prog_1_method_5_code, 2, (Option.some FieldType.long), 7, 1, 3, 611),
  (⟨"SagaDesk$Program", "countOrders", "([J)J"⟩, prog_3_method_14_code, 6, (Option.some FieldType.long), 1, 1, 3, 615),
  (⟨"SagaDesk", "step", "(III)I"⟩, prog_1_method_6_code, 5, (Option.some FieldType.int), 7, 3, 1, 621),
  (⟨"SagaDesk", "taken", "(III)I"⟩, prog_1_method_7_code, 5, (Option.some FieldType.int), 7, 3, 1, 627),
  (⟨"SagaDesk", "isUnder", "(II)Z"⟩, prog_1_method_35_code, 4, (Option.some FieldType.boolean), 7, 2, 2, 630),
  (⟨"SagaDesk", "begin", "(II)I"⟩, prog_1_method_8_code, 4, (Option.some FieldType.int), 7, 2, 1, 636),
  (⟨"SagaDesk", "isSaga", "(I)Z"⟩, prog_1_method_30_code, 1, (Option.some FieldType.boolean), 7, 1, 2, 639),
  (⟨"SagaDesk$Saga", "isActive", "()Z"⟩, prog_7_method_9_code, 1, (Option.some FieldType.boolean), 5, 0, 2, 643),
  (⟨"SagaDesk$Saga", "start", "(LSagaDesk$Program;I)V"⟩, prog_7_method_4_code, 3, (Option.none : Option Jvm.ClassFile.FieldType), 5, 2, 0, 647),
  (⟨"SagaDesk$Saga", "clear", "()V"⟩, prog_7_method_2_code, 1, (Option.none : Option Jvm.ClassFile.FieldType), 5, 0, 0, 651),
  (⟨"SagaDesk$Saga", "dropPlans", "()V"⟩, prog_7_method_3_code, 1, (Option.none : Option Jvm.ClassFile.FieldType), 5, 0, 0, 656),
  (⟨"SagaDesk$Journal", "note", "(III)V"⟩, prog_2_method_2_code, 4, (Option.none : Option Jvm.ClassFile.FieldType), 0, 3, 0, 661),
  (⟨"SagaDesk", "plan", "(IIII)I"⟩, prog_1_method_9_code, 8, (Option.some FieldType.int), 7, 4, 1, 665),
  (⟨"SagaDesk$Saga", "mayName", "(I)Z"⟩, prog_7_method_8_code, 2, (Option.some FieldType.boolean), 5, 1, 2, 669),
  (⟨"SagaDesk", "tick", "()I"⟩, prog_1_method_10_code, 2, (Option.some FieldType.int), 7, 0, 1, 675),
  (⟨"SagaDesk$World", "goOn", "()V"⟩, prog_8_method_6_code, 3, (Option.none : Option Jvm.ClassFile.FieldType), 6, 0, 0, 679),
  (⟨"SagaDesk$World", "goForward", "(ILSagaDesk$Saga;)V"⟩, prog_8_method_7_code, 5, (Option.none : Option Jvm.ClassFile.FieldType), 6, 2, 0, 683),
  (⟨"SagaDesk$Saga", "front", "()I"⟩, prog_7_method_13_code, 1, (Option.some FieldType.int), 5, 0, 1, 687)]
def zMs3 : List zMT := [
  (⟨"SagaDesk$World", "tryStep", "(ILSagaDesk$Saga;I)V"⟩, prog_8_method_8_code, 6, (Option.none : Option Jvm.ClassFile.FieldType), 6, 3, 0, 693),
  (⟨"SagaDesk$Saga", "numberFor", "(II)I"⟩, prog_7_method_15_code, 3, (Option.some FieldType.int), 5, 2, 1, 697),
  (⟨"SagaDesk$World", "spend", "([II)I"⟩, prog_8_method_12_code, 2, (Option.some FieldType.int), 6, 2, 1, 700),
  (⟨"SagaDesk$Saga", "becomeDone", "(I)V"⟩, prog_7_method_16_code, 2, (Option.none : Option Jvm.ClassFile.FieldType), 5, 1, 0, 706),
  (⟨"SagaDesk$Saga", "fail", "(II)V"⟩, prog_7_method_20_code, 3, (Option.none : Option Jvm.ClassFile.FieldType), 5, 2, 0, 711),
  (⟨"SagaDesk$Program", "isPassed", "(I)Z"⟩, prog_3_method_6_code, 2, (Option.some FieldType.boolean), 1, 1, 2, 715),
  (⟨"SagaDesk$Saga", "hasFailedOut", "(I)Z"⟩, prog_7_method_21_code, 2, (Option.some FieldType.boolean), 5, 1, 2, 719),
  (⟨"SagaDesk$World", "end", "(ILSagaDesk$Saga;I)V"⟩, prog_8_method_11_code, 4, (Option.none : Option Jvm.ClassFile.FieldType), 6, 3, 0, 723),
  (⟨"SagaDesk$Saga", "isAllDone", "()Z"⟩, prog_7_method_11_code, 1, (Option.some FieldType.boolean), 5, 0, 2, 727),
  (⟨"SagaDesk$World", "goBack", "(ILSagaDesk$Saga;)V"⟩, prog_8_method_9_code, 4, (Option.none : Option Jvm.ClassFile.FieldType), 6, 2, 0, 732),
  (⟨"SagaDesk$Saga", "lastDone", "()I"⟩, prog_7_method_14_code, 1, (Option.some FieldType.int), 5, 0, 1, 736),
  (⟨"SagaDesk$World", "undoStep", "(ILSagaDesk$Saga;I)V"⟩, prog_8_method_10_code, 6, (Option.none : Option Jvm.ClassFile.FieldType), 6, 3, 0, 740),
  (⟨"SagaDesk$Saga", "becomeUndone", "(I)V"⟩, prog_7_method_17_code, 2, (Option.none : Option Jvm.ClassFile.FieldType), 5, 1, 0, 744),
  (⟨"SagaDesk$Saga", "leaveDone", "(I)V"⟩, prog_7_method_19_code, 2, (Option.none : Option Jvm.ClassFile.FieldType), 5, 1, 0, 748),
  (⟨"SagaDesk$Saga", "becomeParked", "(II)V"⟩, prog_7_method_18_code, 3, (Option.none : Option Jvm.ClassFile.FieldType), 5, 2, 0, 752),
  (⟨"SagaDesk", "told", "(II)I"⟩, prog_1_method_11_code, 4, (Option.some FieldType.int), 7, 2, 1, 756),
  (⟨"SagaDesk$Saga", "hasPassed", "()Z"⟩, prog_7_method_12_code, 1, (Option.some FieldType.boolean), 5, 0, 2, 761),
  (⟨"SagaDesk", "why", "(II)I"⟩, prog_1_method_12_code, 4, (Option.some FieldType.int), 7, 2, 1, 766),
  (⟨"SagaDesk", "set", "(II)I"⟩, prog_1_method_13_code, 4, (Option.some FieldType.int), 7, 2, 1, 770),
  (⟨"SagaDesk", "line", "(II)I"⟩, prog_1_method_14_code, 3, (Option.some FieldType.int), 7, 2, 1, 775),
  (⟨"SagaDesk", "replay", "(II)I"⟩, prog_1_method_15_code, 3, (Option.some FieldType.int), 7, 2, 1, 779),
  (⟨"SagaDesk", "isView", "(I)Z"⟩, prog_1_method_33_code, 1, (Option.some FieldType.boolean), 7, 1, 2, 782),
  (⟨"SagaDesk$World", "rebuild", "(LSagaDesk$Journal;I)V"⟩, prog_8_method_13_code, 4, (Option.none : Option Jvm.ClassFile.FieldType), 6, 2, 0, 786),
  (⟨"SagaDesk$Purse", "clear", "()V"⟩, prog_4_method_2_code, 1, (Option.none : Option Jvm.ClassFile.FieldType), 2, 0, 0, 790)]
def zMs4 : List zMT := [
  (⟨"SagaDesk$World", "happenAgain", "(III)V"⟩, prog_8_method_14_code, 4, (Option.none : Option Jvm.ClassFile.FieldType), 6, 3, 0, 795),
  (⟨"SagaDesk$World", "happenTo", "(LSagaDesk$Saga;II)V"⟩, prog_8_method_15_code, 4, (Option.none : Option Jvm.ClassFile.FieldType), 6, 3, 0, 801),
  (⟨"SagaDesk$World", "view", "(I)I"⟩, prog_8_method_5_code, 3, (Option.some FieldType.int), 6, 1, 1, 807),
  (⟨"SagaDesk", "breaks", "(I)I"⟩, prog_1_method_16_code, 3, (Option.some FieldType.int), 7, 1, 1, 812),
  (⟨"SagaDesk", "run", "(II)I"⟩, prog_1_method_17_code, 4, (Option.some FieldType.int), 7, 2, 1, 816),
  (⟨"SagaDesk$World", "become", "(LSagaDesk$World;)V"⟩, prog_8_method_2_code, 3, (Option.none : Option Jvm.ClassFile.FieldType), 6, 1, 0, 820),
  (⟨"SagaDesk$Saga", "become", "(LSagaDesk$Saga;)V"⟩, prog_7_method_5_code, 2, (Option.none : Option Jvm.ClassFile.FieldType), 5, 1, 0, 825),
  (⟨"SagaDesk", "ends", "(II)I"⟩, prog_1_method_18_code, 5, (Option.some FieldType.int), 7, 2, 1, 829),
  (⟨"SagaDesk$Saga", "isOver", "()Z"⟩, prog_7_method_10_code, 1, (Option.some FieldType.boolean), 5, 0, 2, 833),
  (⟨"java/lang/Integer", "bitCount", "(I)I"⟩, prog_11_method_49_code, 1, (Option.some FieldType.int), 10, 1, 1, 836),
  (⟨"SagaDesk", "drawn", "(II)I"⟩, prog_1_method_19_code, 3, (Option.some FieldType.int), 7, 2, 1, 843),
  (⟨"SagaDesk", "endDrawn", "(II)I"⟩, prog_1_method_41_code, 6, (Option.some FieldType.int), 7, 2, 1, 847),
  (⟨"SagaDesk$World", "dropPlans", "()V"⟩, prog_8_method_3_code, 2, (Option.none : Option Jvm.ClassFile.FieldType), 6, 0, 0, 851),
  (⟨"SagaDesk$Saga", "size", "()I"⟩, prog_7_method_6_code, 1, (Option.some FieldType.int), 5, 0, 1, 856),
  (⟨"SagaDesk", "chance", "(IIII)I"⟩, prog_1_method_20_code, 7, (Option.some FieldType.int), 7, 4, 1, 861),
  (⟨"SagaDesk", "commonDivisor", "(II)I"⟩, prog_1_method_39_code, 3, (Option.some FieldType.int), 7, 2, 1, 864),
  (⟨"SagaDesk", "tells", "(IIII)I"⟩, prog_1_method_21_code, 8, (Option.some FieldType.int), 7, 4, 1, 868),
  (⟨"SagaDesk", "isSheet", "(I)Z"⟩, prog_1_method_31_code, 1, (Option.some FieldType.boolean), 7, 1, 2, 871),
  (⟨"SagaDesk", "isQuestion", "(I)Z"⟩, prog_1_method_34_code, 1, (Option.some FieldType.boolean), 7, 1, 2, 874),
  (⟨"SagaDesk$Saga", "has", "(I)Z"⟩, prog_7_method_7_code, 2, (Option.some FieldType.boolean), 5, 1, 2, 878),
  (⟨"SagaDesk", "firstOtherwise", "(LSagaDesk$Row;I)I"⟩, prog_1_method_42_code, 4, (Option.some FieldType.int), 7, 2, 1, 882),
  (⟨"SagaDesk", "accountsTold", "(LSagaDesk$Row;)I"⟩, prog_1_method_43_code, 5, (Option.some FieldType.int), 7, 1, 1, 886),
  (⟨"SagaDesk", "numbersTold", "(LSagaDesk$Row;III)I"⟩, prog_1_method_44_code, 7, (Option.some FieldType.int), 7, 4, 1, 890),
  (⟨"SagaDesk", "lowest", "(I)I"⟩, prog_1_method_38_code, 2, (Option.some FieldType.int), 7, 1, 1, 893)]
def zMs5 : List zMT := [
  (⟨"SagaDesk", "film", "(III)I"⟩, prog_1_method_22_code, 6, (Option.some FieldType.int), 7, 3, 1, 898),
  (⟨"SagaDesk$Row", "renew", "(II)V"⟩, prog_6_method_2_code, 3, (Option.none : Option Jvm.ClassFile.FieldType), 4, 2, 0, 902),
  (⟨"SagaDesk$Row", "put", "(II)V"⟩, prog_6_method_3_code, 3, (Option.none : Option Jvm.ClassFile.FieldType), 4, 2, 0, 911),
  (⟨"SagaDesk", "count", "(I)I"⟩, prog_1_method_23_code, 2, (Option.some FieldType.int), 7, 1, 1, 916),
  (⟨"SagaDesk$World", "countActive", "()I"⟩, prog_8_method_4_code, 3, (Option.some FieldType.int), 6, 0, 1, 920),
  (⟨"SagaDesk", "sheet", "(III)I"⟩, prog_1_method_24_code, 4, (Option.some FieldType.int), 7, 3, 1, 925),
  (⟨"SagaDesk", "cell", "(III)I"⟩, prog_1_method_25_code, 5, (Option.some FieldType.int), 7, 3, 1, 929),
  (⟨"SagaDesk", "copy", "(IIIII)I"⟩, prog_1_method_26_code, 8, (Option.some FieldType.int), 7, 5, 1, 933),
  (⟨"SagaDesk$Row", "hasPart", "(II)Z"⟩, prog_6_method_4_code, 3, (Option.some FieldType.boolean), 4, 2, 2, 937),
  (⟨"SagaDeskModel", "<init>", "()V"⟩, prog_10_method_1_code, 1, (Option.none : Option Jvm.ClassFile.FieldType), 8, 0, 0, 943),
  (⟨"SagaDeskModel", "feed", "(IIIIII)I"⟩, prog_10_method_7_code, 8, (Option.some FieldType.int), 8, 6, 1, 1100),
  (⟨"SagaDeskModel", "in", "(III)Z"⟩, prog_10_method_2_code, 3, (Option.some FieldType.boolean), 8, 3, 2, 1103),
  (⟨"SagaDeskModel", "isByte", "(I)Z"⟩, prog_10_method_6_code, 1, (Option.some FieldType.boolean), 8, 1, 2, 1106),
  (⟨"SagaDeskModel", "text", "()I"⟩, prog_10_method_18_code, 3, (Option.some FieldType.int), 8, 0, 1, 1110),
  (⟨"SagaDeskModel", "next", "()V"⟩, prog_10_method_11_code, 3, (Option.none : Option Jvm.ClassFile.FieldType), 8, 0, 0, 1114),
  (⟨"SagaDeskModel", "byteAt", "(I)I"⟩, prog_10_method_8_code, 2, (Option.some FieldType.int), 8, 1, 1, 1118),
  (⟨"SagaDeskModel", "kindRead", "()I"⟩, prog_10_method_10_code, 1, (Option.some FieldType.int), 8, 0, 1, 1122),
  (⟨"SagaDeskModel", "isWord", "(Ljava/lang/String;)Z"⟩, prog_10_method_9_code, 3, (Option.some FieldType.boolean), 8, 1, 2, 1127),
  (⟨"SagaDeskModel", "line", "(I)I"⟩, prog_10_method_14_code, 3, (Option.some FieldType.int), 8, 1, 1, 1138),
  (⟨"SagaDeskModel", "part", "(II)I"⟩, prog_10_method_15_code, 3, (Option.some FieldType.int), 8, 2, 1, 1142),
  (⟨"SagaDeskModel", "isSign", "(I)Z"⟩, prog_10_method_12_code, 2, (Option.some FieldType.boolean), 8, 1, 2, 1146),
  (⟨"SagaDeskModel", "branches", "(I)I"⟩, prog_10_method_16_code, 4, (Option.some FieldType.int), 8, 1, 1, 1150),
  (⟨"SagaDeskModel", "step", "(I)I"⟩, prog_10_method_17_code, 4, (Option.some FieldType.int), 8, 1, 1, 1154),
  (⟨"SagaDeskModel", "takes", "(I)I"⟩, prog_10_method_13_code, 3, (Option.some FieldType.int), 8, 1, 1, 1158)]
def zMs6 : List zMT := [
  (⟨"SagaDeskModel", "shape", "(II)I"⟩, prog_10_method_28_code, 3, (Option.some FieldType.int), 8, 2, 1, 1162),
  (⟨"SagaDeskModel", "isText", "(I)Z"⟩, prog_10_method_5_code, 2, (Option.some FieldType.boolean), 8, 1, 2, 1166),
  (⟨"SagaDeskModel", "chain", "(I)I"⟩, prog_10_method_21_code, 6, (Option.some FieldType.int), 8, 1, 1, 1170),
  (⟨"SagaDeskModel", "isAhead", "(III)Z"⟩, prog_10_method_19_code, 4, (Option.some FieldType.boolean), 8, 3, 2, 1174),
  (⟨"SagaDeskModel", "wide", "(I)I"⟩, prog_10_method_22_code, 6, (Option.some FieldType.int), 8, 1, 1, 1179),
  (⟨"SagaDeskModel", "beside", "(II)I"⟩, prog_10_method_20_code, 5, (Option.some FieldType.int), 8, 2, 1, 1184),
  (⟨"SagaDeskModel", "clashes", "(I)I"⟩, prog_10_method_24_code, 5, (Option.some FieldType.int), 8, 1, 1, 1188),
  (⟨"SagaDeskModel", "accountsOf", "(II)I"⟩, prog_10_method_23_code, 3, (Option.some FieldType.int), 8, 2, 1, 1192),
  (⟨"SagaDeskModel", "risky", "(I)I"⟩, prog_10_method_27_code, 4, (Option.some FieldType.int), 8, 1, 1, 1196),
  (⟨"SagaDeskModel", "isClosed", "(II)Z"⟩, prog_10_method_25_code, 4, (Option.some FieldType.boolean), 8, 2, 2, 1200),
  (⟨"SagaDeskModel", "isRisky", "(II)Z"⟩, prog_10_method_26_code, 6, (Option.some FieldType.boolean), 8, 2, 2, 1204),
  (⟨"SagaDeskModel", "keep", "(I)V"⟩, prog_10_method_41_code, 4, (Option.none : Option Jvm.ClassFile.FieldType), 8, 1, 0, 1208),
  (⟨"SagaDeskModel", "rowOf", "(II)[I"⟩, prog_10_method_40_code, 3, (Option.some (FieldType.array FieldType.int)), 8, 2, 4, 1213),
  (⟨"SagaDeskModel", "doing", "(III)I"⟩, prog_10_method_38_code, 6, (Option.some FieldType.int), 8, 3, 1, 1217),
  (⟨"SagaDeskModel", "changes", "(II)I"⟩, prog_10_method_35_code, 4, (Option.some FieldType.int), 8, 2, 1, 1221),
  (⟨"SagaDeskModel", "fault", "(I)I"⟩, prog_10_method_34_code, 1, (Option.some FieldType.int), 8, 1, 1, 1224),
  (⟨"SagaDeskModel", "moves", "(III)I"⟩, prog_10_method_36_code, 5, (Option.some FieldType.int), 8, 3, 1, 1228),
  (⟨"SagaDeskModel", "swaps", "(II)I"⟩, prog_10_method_37_code, 4, (Option.some FieldType.int), 8, 2, 1, 1232),
  (⟨"SagaDeskModel", "layBack", "(I)V"⟩, prog_10_method_42_code, 4, (Option.none : Option Jvm.ClassFile.FieldType), 8, 1, 0, 1236),
  (⟨"SagaDeskModel", "orders", "(I)J"⟩, prog_10_method_29_code, 5, (Option.some FieldType.long), 8, 1, 3, 1240),
  (⟨"SagaDeskModel", "lastOf", "(III)J"⟩, prog_10_method_30_code, 5, (Option.some FieldType.long), 8, 3, 3, 1245),
  (⟨"SagaDeskModel", "step", "(III)I"⟩, prog_10_method_32_code, 4, (Option.some FieldType.int), 8, 3, 1, 1249),
  (⟨"SagaDeskModel", "isStep", "(II)Z"⟩, prog_10_method_31_code, 3, (Option.some FieldType.boolean), 8, 2, 2, 1253),
  (⟨"SagaDeskModel", "taken", "(III)I"⟩, prog_10_method_33_code, 5, (Option.some FieldType.int), 8, 3, 1, 1257)]
def zMs7 : List zMT := [
  (⟨"SagaDeskModel", "begin", "(II)I"⟩, prog_10_method_56_code, 3, (Option.some FieldType.int), 8, 2, 1, 1261),
  (⟨"SagaDeskModel", "isSaga", "(I)Z"⟩, prog_10_method_3_code, 1, (Option.some FieldType.boolean), 8, 1, 2, 1264),
  (⟨"SagaDeskModel", "begins", "(II)V"⟩, prog_10_method_45_code, 5, (Option.none : Option Jvm.ClassFile.FieldType), 8, 2, 0, 1268),
  (⟨"SagaDeskModel", "writes", "(III)V"⟩, prog_10_method_43_code, 4, (Option.none : Option Jvm.ClassFile.FieldType), 8, 3, 0, 1272),
  (⟨"SagaDeskModel", "plan", "(IIII)I"⟩, prog_10_method_58_code, 8, (Option.some FieldType.int), 8, 4, 1, 1276),
  (⟨"SagaDeskModel", "refusal", "(II)I"⟩, prog_10_method_57_code, 3, (Option.some FieldType.int), 8, 2, 1, 1280),
  (⟨"SagaDeskModel", "tick", "()I"⟩, prog_10_method_59_code, 2, (Option.some FieldType.int), 8, 0, 1, 1284),
  (⟨"SagaDeskModel", "ticks", "()V"⟩, prog_10_method_55_code, 2, (Option.none : Option Jvm.ClassFile.FieldType), 8, 0, 0, 1288),
  (⟨"SagaDeskModel", "turn", "(I)V"⟩, prog_10_method_54_code, 5, (Option.none : Option Jvm.ClassFile.FieldType), 8, 1, 0, 1292),
  (⟨"SagaDeskModel", "undoes", "(I)V"⟩, prog_10_method_53_code, 4, (Option.none : Option Jvm.ClassFile.FieldType), 8, 1, 0, 1296),
  (⟨"SagaDeskModel", "last", "(I)I"⟩, prog_10_method_49_code, 5, (Option.some FieldType.int), 8, 1, 1, 1300),
  (⟨"SagaDeskModel", "stepsThat", "(II)I"⟩, prog_10_method_46_code, 5, (Option.some FieldType.int), 8, 2, 1, 1304),
  (⟨"SagaDeskModel", "undoing", "(III)I"⟩, prog_10_method_39_code, 6, (Option.some FieldType.int), 8, 3, 1, 1308),
  (⟨"SagaDeskModel", "over", "(II)V"⟩, prog_10_method_51_code, 3, (Option.none : Option Jvm.ClassFile.FieldType), 8, 2, 0, 1312),
  (⟨"SagaDeskModel", "front", "(I)I"⟩, prog_10_method_48_code, 5, (Option.some FieldType.int), 8, 1, 1, 1316),
  (⟨"SagaDeskModel", "tries", "(II)Z"⟩, prog_10_method_52_code, 6, (Option.some FieldType.boolean), 8, 2, 2, 1320),
  (⟨"SagaDeskModel", "isDone", "(III)V"⟩, prog_10_method_50_code, 4, (Option.none : Option Jvm.ClassFile.FieldType), 8, 3, 0, 1324),
  (⟨"SagaDeskModel", "isPassed", "(I)Z"⟩, prog_10_method_47_code, 3, (Option.some FieldType.boolean), 8, 1, 2, 1328),
  (⟨"SagaDeskModel", "told", "(II)I"⟩, prog_10_method_60_code, 3, (Option.some FieldType.int), 8, 2, 1, 1332),
  (⟨"SagaDeskModel", "why", "(II)I"⟩, prog_10_method_61_code, 4, (Option.some FieldType.int), 8, 2, 1, 1336),
  (⟨"SagaDeskModel", "set", "(II)I"⟩, prog_10_method_62_code, 4, (Option.some FieldType.int), 8, 2, 1, 1340),
  (⟨"SagaDeskModel", "isAccount", "(I)Z"⟩, prog_10_method_4_code, 1, (Option.some FieldType.boolean), 8, 1, 2, 1343),
  (⟨"SagaDeskModel", "line", "(II)I"⟩, prog_10_method_63_code, 3, (Option.some FieldType.int), 8, 2, 1, 1347),
  (⟨"SagaDeskModel", "replay", "(II)I"⟩, prog_10_method_68_code, 4, (Option.some FieldType.int), 8, 2, 1, 1351)]
def zMs8 : List zMT := [
  (⟨"SagaDeskModel", "isAsked", "(I)Z"⟩, prog_10_method_66_code, 1, (Option.some FieldType.boolean), 8, 1, 2, 1354),
  (⟨"SagaDeskModel", "replays", "(I)V"⟩, prog_10_method_65_code, 3, (Option.none : Option Jvm.ClassFile.FieldType), 8, 1, 0, 1358),
  (⟨"SagaDeskModel", "again", "(III)V"⟩, prog_10_method_64_code, 5, (Option.none : Option Jvm.ClassFile.FieldType), 8, 3, 0, 1362),
  (⟨"SagaDeskModel", "answer", "(I)I"⟩, prog_10_method_67_code, 2, (Option.some FieldType.int), 8, 1, 1, 1366),
  (⟨"SagaDeskModel", "breaks", "(I)I"⟩, prog_10_method_69_code, 3, (Option.some FieldType.int), 8, 1, 1, 1370),
  (⟨"SagaDeskModel", "run", "(II)I"⟩, prog_10_method_72_code, 4, (Option.some FieldType.int), 8, 2, 1, 1374),
  (⟨"SagaDeskModel", "thinks", "()V"⟩, prog_10_method_70_code, 1, (Option.none : Option Jvm.ClassFile.FieldType), 8, 0, 0, 1378),
  (⟨"SagaDeskModel", "wakes", "()V"⟩, prog_10_method_71_code, 1, (Option.none : Option Jvm.ClassFile.FieldType), 8, 0, 0, 1382),
  (⟨"SagaDeskModel", "ends", "(II)I"⟩, prog_10_method_73_code, 5, (Option.some FieldType.int), 8, 2, 1, 1386),
  (⟨"SagaDeskModel", "drawn", "(II)I"⟩, prog_10_method_75_code, 3, (Option.some FieldType.int), 8, 2, 1, 1390),
  (⟨"SagaDeskModel", "byLot", "(II)I"⟩, prog_10_method_74_code, 5, (Option.some FieldType.int), 8, 2, 1, 1394),
  (⟨"SagaDeskModel", "clears", "(I[[I)V"⟩, prog_10_method_44_code, 4, (Option.none : Option Jvm.ClassFile.FieldType), 8, 2, 0, 1398),
  (⟨"SagaDeskModel", "chance", "(IIII)I"⟩, prog_10_method_77_code, 7, (Option.some FieldType.int), 8, 4, 1, 1403),
  (⟨"SagaDeskModel", "common", "(II)I"⟩, prog_10_method_76_code, 2, (Option.some FieldType.int), 8, 2, 1, 1406),
  (⟨"SagaDeskModel", "tells", "(IIII)I"⟩, prog_10_method_80_code, 9, (Option.some FieldType.int), 8, 4, 1, 1410),
  (⟨"SagaDeskModel", "isSheet", "(I)Z"⟩, prog_10_method_84_code, 1, (Option.some FieldType.boolean), 8, 1, 2, 1413),
  (⟨"SagaDeskModel", "otherwise", "(II)I"⟩, prog_10_method_78_code, 5, (Option.some FieldType.int), 8, 2, 1, 1417),
  (⟨"SagaDeskModel", "numbersBy", "(IIZ)I"⟩, prog_10_method_79_code, 7, (Option.some FieldType.int), 8, 3, 1, 1421),
  (⟨"SagaDeskModel", "film", "(III)I"⟩, prog_10_method_81_code, 5, (Option.some FieldType.int), 8, 3, 1, 1425),
  (⟨"SagaDeskModel", "count", "(I)I"⟩, prog_10_method_83_code, 2, (Option.some FieldType.int), 8, 1, 1, 1429),
  (⟨"SagaDeskModel", "busy", "()I"⟩, prog_10_method_82_code, 3, (Option.some FieldType.int), 8, 0, 1, 1433),
  (⟨"SagaDeskModel", "sheet", "(III)I"⟩, prog_10_method_85_code, 5, (Option.some FieldType.int), 8, 3, 1, 1437),
  (⟨"SagaDeskModel", "cell", "(III)I"⟩, prog_10_method_86_code, 4, (Option.some FieldType.int), 8, 3, 1, 1441),
  (⟨"SagaDeskModel", "copy", "(IIIII)I"⟩, prog_10_method_87_code, 6, (Option.some FieldType.int), 8, 5, 1, 1445)]
-- the code words of the methods
set_option maxRecDepth 100000 in
theorem zc_0 : lw_tbl[103]? = some (.code ⟨"SagaDesk", "<init>", "()V"⟩ prog_1_method_1_code 2 (Option.none : Option Jvm.ClassFile.FieldType)) := by rfl
set_option maxRecDepth 100000 in
theorem zc_1 : lw_tbl[111]? = some (.code ⟨"SagaDesk$Reader", "<init>", "()V"⟩ prog_5_method_1_code 1 (Option.none : Option Jvm.ClassFile.FieldType)) := by rfl
set_option maxRecDepth 100000 in
theorem zc_2 : lw_tbl[142]? = some (.code ⟨"SagaDesk$Program", "<init>", "()V"⟩ prog_3_method_1_code 1 (Option.none : Option Jvm.ClassFile.FieldType)) := by rfl
set_option maxRecDepth 100000 in
theorem zc_3 : lw_tbl[189]? = some (.code ⟨"SagaDesk$Journal", "<init>", "(I)V"⟩ prog_2_method_1_code 3 (Option.none : Option Jvm.ClassFile.FieldType)) := by rfl
set_option maxRecDepth 100000 in
theorem zc_4 : lw_tbl[219]? = some (.code ⟨"SagaDesk$World", "<init>", "([LSagaDesk$Program;LSagaDesk$Journal;)V"⟩ prog_8_method_1_code 4 (Option.none : Option Jvm.ClassFile.FieldType)) := by rfl
set_option maxRecDepth 100000 in
theorem zc_5 : lw_tbl[225]? = some (.code ⟨"SagaDesk$Purse", "<init>", "()V"⟩ prog_4_method_1_code 1 (Option.none : Option Jvm.ClassFile.FieldType)) := by rfl
set_option maxRecDepth 100000 in
theorem zc_6 : lw_tbl[229]? = some (.code ⟨"java/util/Arrays", "fill", "([II)V"⟩ prog_17_method_103_code 4 (Option.none : Option Jvm.ClassFile.FieldType)) := by rfl
set_option maxRecDepth 100000 in
theorem zc_7 : lw_tbl[251]? = some (.code ⟨"SagaDesk$Saga", "<init>", "()V"⟩ prog_7_method_1_code 1 (Option.none : Option Jvm.ClassFile.FieldType)) := by rfl
set_option maxRecDepth 100000 in
theorem zc_8 : lw_tbl[332]? = some (.code ⟨"SagaDesk$Row", "<init>", "()V"⟩ prog_6_method_1_code 1 (Option.none : Option Jvm.ClassFile.FieldType)) := by rfl
set_option maxRecDepth 100000 in
theorem zc_9 : lw_tbl[376]? = some (.code ⟨"SagaDesk", "feed", "(IIIIII)I"⟩ prog_1_method_2_code 8 (Option.some FieldType.int)) := by rfl
set_option maxRecDepth 100000 in
theorem zc_10 : lw_tbl[379]? = some (.code ⟨"SagaDesk", "isIn", "(III)Z"⟩ prog_1_method_27_code 3 (Option.some FieldType.boolean)) := by rfl
set_option maxRecDepth 100000 in
theorem zc_11 : lw_tbl[382]? = some (.code ⟨"SagaDesk", "isByte", "(I)Z"⟩ prog_1_method_28_code 1 (Option.some FieldType.boolean)) := by rfl
set_option maxRecDepth 100000 in
theorem zc_12 : lw_tbl[386]? = some (.code ⟨"SagaDesk$Reader", "append", "(I)V"⟩ prog_5_method_2_code 2 (Option.none : Option Jvm.ClassFile.FieldType)) := by rfl
set_option maxRecDepth 100000 in
theorem zc_13 : lw_tbl[390]? = some (.code ⟨"SagaDesk", "text", "()I"⟩ prog_1_method_3_code 2 (Option.some FieldType.int)) := by rfl
set_option maxRecDepth 100000 in
theorem zc_14 : lw_tbl[394]? = some (.code ⟨"SagaDesk$Reader", "readInto", "(LSagaDesk$Program;)I"⟩ prog_5_method_3_code 2 (Option.some FieldType.int)) := by rfl
set_option maxRecDepth 100000 in
theorem zc_15 : lw_tbl[398]? = some (.code ⟨"SagaDesk$Program", "clear", "()V"⟩ prog_3_method_2_code 1 (Option.none : Option Jvm.ClassFile.FieldType)) := by rfl
set_option maxRecDepth 100000 in
theorem zc_16 : lw_tbl[402]? = some (.code ⟨"SagaDesk$Reader", "advance", "()V"⟩ prog_5_method_4_code 2 (Option.none : Option Jvm.ClassFile.FieldType)) := by rfl
set_option maxRecDepth 100000 in
theorem zc_17 : lw_tbl[407]? = some (.code ⟨"SagaDesk$Reader", "skipRun", "(II)V"⟩ prog_5_method_5_code 3 (Option.none : Option Jvm.ClassFile.FieldType)) := by rfl
set_option maxRecDepth 100000 in
theorem zc_18 : lw_tbl[411]? = some (.code ⟨"SagaDesk$Reader", "readLine", "(II)I"⟩ prog_5_method_8_code 5 (Option.some FieldType.int)) := by rfl
set_option maxRecDepth 100000 in
theorem zc_19 : lw_tbl[415]? = some (.code ⟨"SagaDesk$Reader", "readPart", "(II)I"⟩ prog_5_method_9_code 3 (Option.some FieldType.int)) := by rfl
set_option maxRecDepth 100000 in
theorem zc_20 : lw_tbl[419]? = some (.code ⟨"SagaDesk$Reader", "readStep", "(I)I"⟩ prog_5_method_11_code 6 (Option.some FieldType.int)) := by rfl
set_option maxRecDepth 100000 in
theorem zc_21 : lw_tbl[423]? = some (.code ⟨"SagaDesk$Reader", "kindOfWord", "()I"⟩ prog_5_method_14_code 2 (Option.some FieldType.int)) := by rfl
set_option maxRecDepth 100000 in
theorem zc_22 : lw_tbl[426]? = some (.code ⟨"SagaDesk$Reader", "wordOf", "(I)Ljava/lang/String;"⟩ prog_5_method_16_code 1 (Option.some (FieldType.object "java/lang/String"))) := by rfl
set_option maxRecDepth 100000 in
theorem zc_23 : lw_tbl[436]? = some (.code ⟨"SagaDesk$Reader", "isWord", "(Ljava/lang/String;)Z"⟩ prog_5_method_15_code 3 (Option.some FieldType.boolean)) := by rfl
-- the code words of the methods
set_option maxRecDepth 100000 in
theorem zc_24 : lw_tbl[488]? = some (.code ⟨"SagaDesk$Reader", "refuse", "()V"⟩ prog_5_method_6_code 1 (Option.none : Option Jvm.ClassFile.FieldType)) := by rfl
set_option maxRecDepth 100000 in
theorem zc_25 : lw_tbl[494]? = some (.code ⟨"SagaDesk$Reader", "readAccount", "()I"⟩ prog_5_method_12_code 2 (Option.some FieldType.int)) := by rfl
set_option maxRecDepth 100000 in
theorem zc_26 : lw_tbl[497]? = some (.code ⟨"SagaDesk", "isAccount", "(I)Z"⟩ prog_1_method_29_code 1 (Option.some FieldType.boolean)) := by rfl
set_option maxRecDepth 100000 in
theorem zc_27 : lw_tbl[500]? = some (.code ⟨"SagaDesk", "hasNumber", "(I)Z"⟩ prog_1_method_36_code 1 (Option.some FieldType.boolean)) := by rfl
set_option maxRecDepth 100000 in
theorem zc_28 : lw_tbl[504]? = some (.code ⟨"SagaDesk$Reader", "readNumber", "()I"⟩ prog_5_method_13_code 3 (Option.some FieldType.int)) := by rfl
set_option maxRecDepth 100000 in
theorem zc_29 : lw_tbl[508]? = some (.code ⟨"SagaDesk$Program", "append", "(IIIII)I"⟩ prog_3_method_5_code 6 (Option.some FieldType.int)) := by rfl
set_option maxRecDepth 100000 in
theorem zc_30 : lw_tbl[512]? = some (.code ⟨"SagaDesk$Reader", "readBranches", "(II)I"⟩ prog_5_method_10_code 4 (Option.some FieldType.int)) := by rfl
set_option maxRecDepth 100000 in
theorem zc_31 : lw_tbl[516]? = some (.code ⟨"SagaDesk$Reader", "expect", "(I)V"⟩ prog_5_method_7_code 2 (Option.none : Option Jvm.ClassFile.FieldType)) := by rfl
set_option maxRecDepth 100000 in
theorem zc_32 : lw_tbl[521]? = some (.code ⟨"SagaDesk", "shape", "(II)I"⟩ prog_1_method_4_code 4 (Option.some FieldType.int)) := by rfl
set_option maxRecDepth 100000 in
theorem zc_33 : lw_tbl[525]? = some (.code ⟨"SagaDesk", "isText", "(I)Z"⟩ prog_1_method_32_code 2 (Option.some FieldType.boolean)) := by rfl
set_option maxRecDepth 100000 in
theorem zc_34 : lw_tbl[529]? = some (.code ⟨"SagaDesk$Program", "longestChain", "()I"⟩ prog_3_method_9_code 4 (Option.some FieldType.int)) := by rfl
set_option maxRecDepth 100000 in
theorem zc_35 : lw_tbl[532]? = some (.code ⟨"SagaDesk", "isBit", "(II)Z"⟩ prog_1_method_37_code 2 (Option.some FieldType.boolean)) := by rfl
set_option maxRecDepth 100000 in
theorem zc_36 : lw_tbl[537]? = some (.code ⟨"SagaDesk$Program", "widest", "()I"⟩ prog_3_method_10_code 1 (Option.some FieldType.int)) := by rfl
set_option maxRecDepth 100000 in
theorem zc_37 : lw_tbl[541]? = some (.code ⟨"SagaDesk$Program", "all", "()I"⟩ prog_3_method_4_code 1 (Option.some FieldType.int)) := by rfl
set_option maxRecDepth 100000 in
theorem zc_38 : lw_tbl[544]? = some (.code ⟨"SagaDesk$Program", "widestFrom", "(LSagaDesk$Program;II)I"⟩ prog_3_method_11_code 4 (Option.some FieldType.int)) := by rfl
set_option maxRecDepth 100000 in
theorem zc_39 : lw_tbl[548]? = some (.code ⟨"SagaDesk$Program", "beside", "(I)I"⟩ prog_3_method_8_code 4 (Option.some FieldType.int)) := by rfl
set_option maxRecDepth 100000 in
theorem zc_40 : lw_tbl[552]? = some (.code ⟨"SagaDesk$Program", "countClashes", "()I"⟩ prog_3_method_13_code 5 (Option.some FieldType.int)) := by rfl
set_option maxRecDepth 100000 in
theorem zc_41 : lw_tbl[556]? = some (.code ⟨"SagaDesk$Program", "accountsOf", "(I)I"⟩ prog_3_method_12_code 4 (Option.some FieldType.int)) := by rfl
set_option maxRecDepth 100000 in
theorem zc_42 : lw_tbl[561]? = some (.code ⟨"SagaDesk$Purse", "become", "(LSagaDesk$Purse;)V"⟩ prog_4_method_3_code 2 (Option.none : Option Jvm.ClassFile.FieldType)) := by rfl
set_option maxRecDepth 100000 in
theorem zc_43 : lw_tbl[567]? = some (.code ⟨"SagaDesk", "countRisky", "(LSagaDesk$Program;LSagaDesk$Purse;II)I"⟩ prog_1_method_40_code 7 (Option.some FieldType.int)) := by rfl
set_option maxRecDepth 100000 in
theorem zc_44 : lw_tbl[571]? = some (.code ⟨"SagaDesk$Program", "next", "(I)I"⟩ prog_3_method_7_code 4 (Option.some FieldType.int)) := by rfl
set_option maxRecDepth 100000 in
theorem zc_45 : lw_tbl[575]? = some (.code ⟨"SagaDesk$Purse", "blocksOne", "(LSagaDesk$Program;I)Z"⟩ prog_4_method_6_code 4 (Option.some FieldType.boolean)) := by rfl
set_option maxRecDepth 100000 in
theorem zc_46 : lw_tbl[580]? = some (.code ⟨"SagaDesk$Purse", "obstacle", "(LSagaDesk$Program;III)I"⟩ prog_4_method_4_code 7 (Option.some FieldType.int)) := by rfl
set_option maxRecDepth 100000 in
theorem zc_47 : lw_tbl[584]? = some (.code ⟨"SagaDesk$Program", "has", "(I)Z"⟩ prog_3_method_3_code 2 (Option.some FieldType.boolean)) := by rfl
-- the code words of the methods
set_option maxRecDepth 100000 in
theorem zc_48 : lw_tbl[587]? = some (.code ⟨"SagaDesk$Purse", "toFirst", "(II)I"⟩ prog_4_method_7_code 2 (Option.some FieldType.int)) := by rfl
set_option maxRecDepth 100000 in
theorem zc_49 : lw_tbl[591]? = some (.code ⟨"SagaDesk$Purse", "beyond", "(II)I"⟩ prog_4_method_9_code 4 (Option.some FieldType.int)) := by rfl
set_option maxRecDepth 100000 in
theorem zc_50 : lw_tbl[594]? = some (.code ⟨"SagaDesk$Purse", "toSecond", "(II)I"⟩ prog_4_method_8_code 2 (Option.some FieldType.int)) := by rfl
set_option maxRecDepth 100000 in
theorem zc_51 : lw_tbl[599]? = some (.code ⟨"SagaDesk$Purse", "change", "(LSagaDesk$Program;III)V"⟩ prog_4_method_5_code 6 (Option.none : Option Jvm.ClassFile.FieldType)) := by rfl
set_option maxRecDepth 100000 in
theorem zc_52 : lw_tbl[603]? = some (.code ⟨"SagaDesk$Purse", "put", "(II)V"⟩ prog_4_method_10_code 3 (Option.none : Option Jvm.ClassFile.FieldType)) := by rfl
set_option maxRecDepth 100000 in
theorem zc_53 : lw_tbl[607]? = some (.code ⟨"SagaDesk$Purse", "exchange", "(II)V"⟩ prog_4_method_11_code 4 (Option.none : Option Jvm.ClassFile.FieldType)) := by rfl
set_option maxRecDepth 100000 in
theorem zc_54 : lw_tbl[611]? = some (.code ⟨"SagaDesk", "orders", "(I)J"⟩ prog_1_method_5_code 2 (Option.some FieldType.long)) := by rfl
set_option maxRecDepth 100000 in
theorem zc_55 : lw_tbl[615]? = some (.code ⟨"SagaDesk$Program", "countOrders", "([J)J"⟩ prog_3_method_14_code 6 (Option.some FieldType.long)) := by rfl
set_option maxRecDepth 100000 in
theorem zc_56 : lw_tbl[621]? = some (.code ⟨"SagaDesk", "step", "(III)I"⟩ prog_1_method_6_code 5 (Option.some FieldType.int)) := by rfl
set_option maxRecDepth 100000 in
theorem zc_57 : lw_tbl[627]? = some (.code ⟨"SagaDesk", "taken", "(III)I"⟩ prog_1_method_7_code 5 (Option.some FieldType.int)) := by rfl
set_option maxRecDepth 100000 in
theorem zc_58 : lw_tbl[630]? = some (.code ⟨"SagaDesk", "isUnder", "(II)Z"⟩ prog_1_method_35_code 4 (Option.some FieldType.boolean)) := by rfl
set_option maxRecDepth 100000 in
theorem zc_59 : lw_tbl[636]? = some (.code ⟨"SagaDesk", "begin", "(II)I"⟩ prog_1_method_8_code 4 (Option.some FieldType.int)) := by rfl
set_option maxRecDepth 100000 in
theorem zc_60 : lw_tbl[639]? = some (.code ⟨"SagaDesk", "isSaga", "(I)Z"⟩ prog_1_method_30_code 1 (Option.some FieldType.boolean)) := by rfl
set_option maxRecDepth 100000 in
theorem zc_61 : lw_tbl[643]? = some (.code ⟨"SagaDesk$Saga", "isActive", "()Z"⟩ prog_7_method_9_code 1 (Option.some FieldType.boolean)) := by rfl
set_option maxRecDepth 100000 in
theorem zc_62 : lw_tbl[647]? = some (.code ⟨"SagaDesk$Saga", "start", "(LSagaDesk$Program;I)V"⟩ prog_7_method_4_code 3 (Option.none : Option Jvm.ClassFile.FieldType)) := by rfl
set_option maxRecDepth 100000 in
theorem zc_63 : lw_tbl[651]? = some (.code ⟨"SagaDesk$Saga", "clear", "()V"⟩ prog_7_method_2_code 1 (Option.none : Option Jvm.ClassFile.FieldType)) := by rfl
set_option maxRecDepth 100000 in
theorem zc_64 : lw_tbl[656]? = some (.code ⟨"SagaDesk$Saga", "dropPlans", "()V"⟩ prog_7_method_3_code 1 (Option.none : Option Jvm.ClassFile.FieldType)) := by rfl
set_option maxRecDepth 100000 in
theorem zc_65 : lw_tbl[661]? = some (.code ⟨"SagaDesk$Journal", "note", "(III)V"⟩ prog_2_method_2_code 4 (Option.none : Option Jvm.ClassFile.FieldType)) := by rfl
set_option maxRecDepth 100000 in
theorem zc_66 : lw_tbl[665]? = some (.code ⟨"SagaDesk", "plan", "(IIII)I"⟩ prog_1_method_9_code 8 (Option.some FieldType.int)) := by rfl
set_option maxRecDepth 100000 in
theorem zc_67 : lw_tbl[669]? = some (.code ⟨"SagaDesk$Saga", "mayName", "(I)Z"⟩ prog_7_method_8_code 2 (Option.some FieldType.boolean)) := by rfl
set_option maxRecDepth 100000 in
theorem zc_68 : lw_tbl[675]? = some (.code ⟨"SagaDesk", "tick", "()I"⟩ prog_1_method_10_code 2 (Option.some FieldType.int)) := by rfl
set_option maxRecDepth 100000 in
theorem zc_69 : lw_tbl[679]? = some (.code ⟨"SagaDesk$World", "goOn", "()V"⟩ prog_8_method_6_code 3 (Option.none : Option Jvm.ClassFile.FieldType)) := by rfl
set_option maxRecDepth 100000 in
theorem zc_70 : lw_tbl[683]? = some (.code ⟨"SagaDesk$World", "goForward", "(ILSagaDesk$Saga;)V"⟩ prog_8_method_7_code 5 (Option.none : Option Jvm.ClassFile.FieldType)) := by rfl
set_option maxRecDepth 100000 in
theorem zc_71 : lw_tbl[687]? = some (.code ⟨"SagaDesk$Saga", "front", "()I"⟩ prog_7_method_13_code 1 (Option.some FieldType.int)) := by rfl
-- the code words of the methods
set_option maxRecDepth 100000 in
theorem zc_72 : lw_tbl[693]? = some (.code ⟨"SagaDesk$World", "tryStep", "(ILSagaDesk$Saga;I)V"⟩ prog_8_method_8_code 6 (Option.none : Option Jvm.ClassFile.FieldType)) := by rfl
set_option maxRecDepth 100000 in
theorem zc_73 : lw_tbl[697]? = some (.code ⟨"SagaDesk$Saga", "numberFor", "(II)I"⟩ prog_7_method_15_code 3 (Option.some FieldType.int)) := by rfl
set_option maxRecDepth 100000 in
theorem zc_74 : lw_tbl[700]? = some (.code ⟨"SagaDesk$World", "spend", "([II)I"⟩ prog_8_method_12_code 2 (Option.some FieldType.int)) := by rfl
set_option maxRecDepth 100000 in
theorem zc_75 : lw_tbl[706]? = some (.code ⟨"SagaDesk$Saga", "becomeDone", "(I)V"⟩ prog_7_method_16_code 2 (Option.none : Option Jvm.ClassFile.FieldType)) := by rfl
set_option maxRecDepth 100000 in
theorem zc_76 : lw_tbl[711]? = some (.code ⟨"SagaDesk$Saga", "fail", "(II)V"⟩ prog_7_method_20_code 3 (Option.none : Option Jvm.ClassFile.FieldType)) := by rfl
set_option maxRecDepth 100000 in
theorem zc_77 : lw_tbl[715]? = some (.code ⟨"SagaDesk$Program", "isPassed", "(I)Z"⟩ prog_3_method_6_code 2 (Option.some FieldType.boolean)) := by rfl
set_option maxRecDepth 100000 in
theorem zc_78 : lw_tbl[719]? = some (.code ⟨"SagaDesk$Saga", "hasFailedOut", "(I)Z"⟩ prog_7_method_21_code 2 (Option.some FieldType.boolean)) := by rfl
set_option maxRecDepth 100000 in
theorem zc_79 : lw_tbl[723]? = some (.code ⟨"SagaDesk$World", "end", "(ILSagaDesk$Saga;I)V"⟩ prog_8_method_11_code 4 (Option.none : Option Jvm.ClassFile.FieldType)) := by rfl
set_option maxRecDepth 100000 in
theorem zc_80 : lw_tbl[727]? = some (.code ⟨"SagaDesk$Saga", "isAllDone", "()Z"⟩ prog_7_method_11_code 1 (Option.some FieldType.boolean)) := by rfl
set_option maxRecDepth 100000 in
theorem zc_81 : lw_tbl[732]? = some (.code ⟨"SagaDesk$World", "goBack", "(ILSagaDesk$Saga;)V"⟩ prog_8_method_9_code 4 (Option.none : Option Jvm.ClassFile.FieldType)) := by rfl
set_option maxRecDepth 100000 in
theorem zc_82 : lw_tbl[736]? = some (.code ⟨"SagaDesk$Saga", "lastDone", "()I"⟩ prog_7_method_14_code 1 (Option.some FieldType.int)) := by rfl
set_option maxRecDepth 100000 in
theorem zc_83 : lw_tbl[740]? = some (.code ⟨"SagaDesk$World", "undoStep", "(ILSagaDesk$Saga;I)V"⟩ prog_8_method_10_code 6 (Option.none : Option Jvm.ClassFile.FieldType)) := by rfl
set_option maxRecDepth 100000 in
theorem zc_84 : lw_tbl[744]? = some (.code ⟨"SagaDesk$Saga", "becomeUndone", "(I)V"⟩ prog_7_method_17_code 2 (Option.none : Option Jvm.ClassFile.FieldType)) := by rfl
set_option maxRecDepth 100000 in
theorem zc_85 : lw_tbl[748]? = some (.code ⟨"SagaDesk$Saga", "leaveDone", "(I)V"⟩ prog_7_method_19_code 2 (Option.none : Option Jvm.ClassFile.FieldType)) := by rfl
set_option maxRecDepth 100000 in
theorem zc_86 : lw_tbl[752]? = some (.code ⟨"SagaDesk$Saga", "becomeParked", "(II)V"⟩ prog_7_method_18_code 3 (Option.none : Option Jvm.ClassFile.FieldType)) := by rfl
set_option maxRecDepth 100000 in
theorem zc_87 : lw_tbl[756]? = some (.code ⟨"SagaDesk", "told", "(II)I"⟩ prog_1_method_11_code 4 (Option.some FieldType.int)) := by rfl
set_option maxRecDepth 100000 in
theorem zc_88 : lw_tbl[761]? = some (.code ⟨"SagaDesk$Saga", "hasPassed", "()Z"⟩ prog_7_method_12_code 1 (Option.some FieldType.boolean)) := by rfl
set_option maxRecDepth 100000 in
theorem zc_89 : lw_tbl[766]? = some (.code ⟨"SagaDesk", "why", "(II)I"⟩ prog_1_method_12_code 4 (Option.some FieldType.int)) := by rfl
set_option maxRecDepth 100000 in
theorem zc_90 : lw_tbl[770]? = some (.code ⟨"SagaDesk", "set", "(II)I"⟩ prog_1_method_13_code 4 (Option.some FieldType.int)) := by rfl
set_option maxRecDepth 100000 in
theorem zc_91 : lw_tbl[775]? = some (.code ⟨"SagaDesk", "line", "(II)I"⟩ prog_1_method_14_code 3 (Option.some FieldType.int)) := by rfl
set_option maxRecDepth 100000 in
theorem zc_92 : lw_tbl[779]? = some (.code ⟨"SagaDesk", "replay", "(II)I"⟩ prog_1_method_15_code 3 (Option.some FieldType.int)) := by rfl
set_option maxRecDepth 100000 in
theorem zc_93 : lw_tbl[782]? = some (.code ⟨"SagaDesk", "isView", "(I)Z"⟩ prog_1_method_33_code 1 (Option.some FieldType.boolean)) := by rfl
set_option maxRecDepth 100000 in
theorem zc_94 : lw_tbl[786]? = some (.code ⟨"SagaDesk$World", "rebuild", "(LSagaDesk$Journal;I)V"⟩ prog_8_method_13_code 4 (Option.none : Option Jvm.ClassFile.FieldType)) := by rfl
set_option maxRecDepth 100000 in
theorem zc_95 : lw_tbl[790]? = some (.code ⟨"SagaDesk$Purse", "clear", "()V"⟩ prog_4_method_2_code 1 (Option.none : Option Jvm.ClassFile.FieldType)) := by rfl
-- the code words of the methods
set_option maxRecDepth 100000 in
theorem zc_96 : lw_tbl[795]? = some (.code ⟨"SagaDesk$World", "happenAgain", "(III)V"⟩ prog_8_method_14_code 4 (Option.none : Option Jvm.ClassFile.FieldType)) := by rfl
set_option maxRecDepth 100000 in
theorem zc_97 : lw_tbl[801]? = some (.code ⟨"SagaDesk$World", "happenTo", "(LSagaDesk$Saga;II)V"⟩ prog_8_method_15_code 4 (Option.none : Option Jvm.ClassFile.FieldType)) := by rfl
set_option maxRecDepth 100000 in
theorem zc_98 : lw_tbl[807]? = some (.code ⟨"SagaDesk$World", "view", "(I)I"⟩ prog_8_method_5_code 3 (Option.some FieldType.int)) := by rfl
set_option maxRecDepth 100000 in
theorem zc_99 : lw_tbl[812]? = some (.code ⟨"SagaDesk", "breaks", "(I)I"⟩ prog_1_method_16_code 3 (Option.some FieldType.int)) := by rfl
set_option maxRecDepth 100000 in
theorem zc_100 : lw_tbl[816]? = some (.code ⟨"SagaDesk", "run", "(II)I"⟩ prog_1_method_17_code 4 (Option.some FieldType.int)) := by rfl
set_option maxRecDepth 100000 in
theorem zc_101 : lw_tbl[820]? = some (.code ⟨"SagaDesk$World", "become", "(LSagaDesk$World;)V"⟩ prog_8_method_2_code 3 (Option.none : Option Jvm.ClassFile.FieldType)) := by rfl
set_option maxRecDepth 100000 in
theorem zc_102 : lw_tbl[825]? = some (.code ⟨"SagaDesk$Saga", "become", "(LSagaDesk$Saga;)V"⟩ prog_7_method_5_code 2 (Option.none : Option Jvm.ClassFile.FieldType)) := by rfl
set_option maxRecDepth 100000 in
theorem zc_103 : lw_tbl[829]? = some (.code ⟨"SagaDesk", "ends", "(II)I"⟩ prog_1_method_18_code 5 (Option.some FieldType.int)) := by rfl
set_option maxRecDepth 100000 in
theorem zc_104 : lw_tbl[833]? = some (.code ⟨"SagaDesk$Saga", "isOver", "()Z"⟩ prog_7_method_10_code 1 (Option.some FieldType.boolean)) := by rfl
set_option maxRecDepth 100000 in
theorem zc_105 : lw_tbl[836]? = some (.code ⟨"java/lang/Integer", "bitCount", "(I)I"⟩ prog_11_method_49_code 1 (Option.some FieldType.int)) := by rfl
set_option maxRecDepth 100000 in
theorem zc_106 : lw_tbl[843]? = some (.code ⟨"SagaDesk", "drawn", "(II)I"⟩ prog_1_method_19_code 3 (Option.some FieldType.int)) := by rfl
set_option maxRecDepth 100000 in
theorem zc_107 : lw_tbl[847]? = some (.code ⟨"SagaDesk", "endDrawn", "(II)I"⟩ prog_1_method_41_code 6 (Option.some FieldType.int)) := by rfl
set_option maxRecDepth 100000 in
theorem zc_108 : lw_tbl[851]? = some (.code ⟨"SagaDesk$World", "dropPlans", "()V"⟩ prog_8_method_3_code 2 (Option.none : Option Jvm.ClassFile.FieldType)) := by rfl
set_option maxRecDepth 100000 in
theorem zc_109 : lw_tbl[856]? = some (.code ⟨"SagaDesk$Saga", "size", "()I"⟩ prog_7_method_6_code 1 (Option.some FieldType.int)) := by rfl
set_option maxRecDepth 100000 in
theorem zc_110 : lw_tbl[861]? = some (.code ⟨"SagaDesk", "chance", "(IIII)I"⟩ prog_1_method_20_code 7 (Option.some FieldType.int)) := by rfl
set_option maxRecDepth 100000 in
theorem zc_111 : lw_tbl[864]? = some (.code ⟨"SagaDesk", "commonDivisor", "(II)I"⟩ prog_1_method_39_code 3 (Option.some FieldType.int)) := by rfl
set_option maxRecDepth 100000 in
theorem zc_112 : lw_tbl[868]? = some (.code ⟨"SagaDesk", "tells", "(IIII)I"⟩ prog_1_method_21_code 8 (Option.some FieldType.int)) := by rfl
set_option maxRecDepth 100000 in
theorem zc_113 : lw_tbl[871]? = some (.code ⟨"SagaDesk", "isSheet", "(I)Z"⟩ prog_1_method_31_code 1 (Option.some FieldType.boolean)) := by rfl
set_option maxRecDepth 100000 in
theorem zc_114 : lw_tbl[874]? = some (.code ⟨"SagaDesk", "isQuestion", "(I)Z"⟩ prog_1_method_34_code 1 (Option.some FieldType.boolean)) := by rfl
set_option maxRecDepth 100000 in
theorem zc_115 : lw_tbl[878]? = some (.code ⟨"SagaDesk$Saga", "has", "(I)Z"⟩ prog_7_method_7_code 2 (Option.some FieldType.boolean)) := by rfl
set_option maxRecDepth 100000 in
theorem zc_116 : lw_tbl[882]? = some (.code ⟨"SagaDesk", "firstOtherwise", "(LSagaDesk$Row;I)I"⟩ prog_1_method_42_code 4 (Option.some FieldType.int)) := by rfl
set_option maxRecDepth 100000 in
theorem zc_117 : lw_tbl[886]? = some (.code ⟨"SagaDesk", "accountsTold", "(LSagaDesk$Row;)I"⟩ prog_1_method_43_code 5 (Option.some FieldType.int)) := by rfl
set_option maxRecDepth 100000 in
theorem zc_118 : lw_tbl[890]? = some (.code ⟨"SagaDesk", "numbersTold", "(LSagaDesk$Row;III)I"⟩ prog_1_method_44_code 7 (Option.some FieldType.int)) := by rfl
set_option maxRecDepth 100000 in
theorem zc_119 : lw_tbl[893]? = some (.code ⟨"SagaDesk", "lowest", "(I)I"⟩ prog_1_method_38_code 2 (Option.some FieldType.int)) := by rfl
-- the code words of the methods
set_option maxRecDepth 100000 in
theorem zc_120 : lw_tbl[898]? = some (.code ⟨"SagaDesk", "film", "(III)I"⟩ prog_1_method_22_code 6 (Option.some FieldType.int)) := by rfl
set_option maxRecDepth 100000 in
theorem zc_121 : lw_tbl[902]? = some (.code ⟨"SagaDesk$Row", "renew", "(II)V"⟩ prog_6_method_2_code 3 (Option.none : Option Jvm.ClassFile.FieldType)) := by rfl
set_option maxRecDepth 100000 in
theorem zc_122 : lw_tbl[911]? = some (.code ⟨"SagaDesk$Row", "put", "(II)V"⟩ prog_6_method_3_code 3 (Option.none : Option Jvm.ClassFile.FieldType)) := by rfl
set_option maxRecDepth 100000 in
theorem zc_123 : lw_tbl[916]? = some (.code ⟨"SagaDesk", "count", "(I)I"⟩ prog_1_method_23_code 2 (Option.some FieldType.int)) := by rfl
set_option maxRecDepth 100000 in
theorem zc_124 : lw_tbl[920]? = some (.code ⟨"SagaDesk$World", "countActive", "()I"⟩ prog_8_method_4_code 3 (Option.some FieldType.int)) := by rfl
set_option maxRecDepth 100000 in
theorem zc_125 : lw_tbl[925]? = some (.code ⟨"SagaDesk", "sheet", "(III)I"⟩ prog_1_method_24_code 4 (Option.some FieldType.int)) := by rfl
set_option maxRecDepth 100000 in
theorem zc_126 : lw_tbl[929]? = some (.code ⟨"SagaDesk", "cell", "(III)I"⟩ prog_1_method_25_code 5 (Option.some FieldType.int)) := by rfl
set_option maxRecDepth 100000 in
theorem zc_127 : lw_tbl[933]? = some (.code ⟨"SagaDesk", "copy", "(IIIII)I"⟩ prog_1_method_26_code 8 (Option.some FieldType.int)) := by rfl
set_option maxRecDepth 100000 in
theorem zc_128 : lw_tbl[937]? = some (.code ⟨"SagaDesk$Row", "hasPart", "(II)Z"⟩ prog_6_method_4_code 3 (Option.some FieldType.boolean)) := by rfl
set_option maxRecDepth 100000 in
theorem zc_129 : lw_tbl[943]? = some (.code ⟨"SagaDeskModel", "<init>", "()V"⟩ prog_10_method_1_code 1 (Option.none : Option Jvm.ClassFile.FieldType)) := by rfl
set_option maxRecDepth 100000 in
theorem zc_130 : lw_tbl[1100]? = some (.code ⟨"SagaDeskModel", "feed", "(IIIIII)I"⟩ prog_10_method_7_code 8 (Option.some FieldType.int)) := by rfl
set_option maxRecDepth 100000 in
theorem zc_131 : lw_tbl[1103]? = some (.code ⟨"SagaDeskModel", "in", "(III)Z"⟩ prog_10_method_2_code 3 (Option.some FieldType.boolean)) := by rfl
set_option maxRecDepth 100000 in
theorem zc_132 : lw_tbl[1106]? = some (.code ⟨"SagaDeskModel", "isByte", "(I)Z"⟩ prog_10_method_6_code 1 (Option.some FieldType.boolean)) := by rfl
set_option maxRecDepth 100000 in
theorem zc_133 : lw_tbl[1110]? = some (.code ⟨"SagaDeskModel", "text", "()I"⟩ prog_10_method_18_code 3 (Option.some FieldType.int)) := by rfl
set_option maxRecDepth 100000 in
theorem zc_134 : lw_tbl[1114]? = some (.code ⟨"SagaDeskModel", "next", "()V"⟩ prog_10_method_11_code 3 (Option.none : Option Jvm.ClassFile.FieldType)) := by rfl
set_option maxRecDepth 100000 in
theorem zc_135 : lw_tbl[1118]? = some (.code ⟨"SagaDeskModel", "byteAt", "(I)I"⟩ prog_10_method_8_code 2 (Option.some FieldType.int)) := by rfl
set_option maxRecDepth 100000 in
theorem zc_136 : lw_tbl[1122]? = some (.code ⟨"SagaDeskModel", "kindRead", "()I"⟩ prog_10_method_10_code 1 (Option.some FieldType.int)) := by rfl
set_option maxRecDepth 100000 in
theorem zc_137 : lw_tbl[1127]? = some (.code ⟨"SagaDeskModel", "isWord", "(Ljava/lang/String;)Z"⟩ prog_10_method_9_code 3 (Option.some FieldType.boolean)) := by rfl
set_option maxRecDepth 100000 in
theorem zc_138 : lw_tbl[1138]? = some (.code ⟨"SagaDeskModel", "line", "(I)I"⟩ prog_10_method_14_code 3 (Option.some FieldType.int)) := by rfl
set_option maxRecDepth 100000 in
theorem zc_139 : lw_tbl[1142]? = some (.code ⟨"SagaDeskModel", "part", "(II)I"⟩ prog_10_method_15_code 3 (Option.some FieldType.int)) := by rfl
set_option maxRecDepth 100000 in
theorem zc_140 : lw_tbl[1146]? = some (.code ⟨"SagaDeskModel", "isSign", "(I)Z"⟩ prog_10_method_12_code 2 (Option.some FieldType.boolean)) := by rfl
set_option maxRecDepth 100000 in
theorem zc_141 : lw_tbl[1150]? = some (.code ⟨"SagaDeskModel", "branches", "(I)I"⟩ prog_10_method_16_code 4 (Option.some FieldType.int)) := by rfl
set_option maxRecDepth 100000 in
theorem zc_142 : lw_tbl[1154]? = some (.code ⟨"SagaDeskModel", "step", "(I)I"⟩ prog_10_method_17_code 4 (Option.some FieldType.int)) := by rfl
set_option maxRecDepth 100000 in
theorem zc_143 : lw_tbl[1158]? = some (.code ⟨"SagaDeskModel", "takes", "(I)I"⟩ prog_10_method_13_code 3 (Option.some FieldType.int)) := by rfl
-- the code words of the methods
set_option maxRecDepth 100000 in
theorem zc_144 : lw_tbl[1162]? = some (.code ⟨"SagaDeskModel", "shape", "(II)I"⟩ prog_10_method_28_code 3 (Option.some FieldType.int)) := by rfl
set_option maxRecDepth 100000 in
theorem zc_145 : lw_tbl[1166]? = some (.code ⟨"SagaDeskModel", "isText", "(I)Z"⟩ prog_10_method_5_code 2 (Option.some FieldType.boolean)) := by rfl
set_option maxRecDepth 100000 in
theorem zc_146 : lw_tbl[1170]? = some (.code ⟨"SagaDeskModel", "chain", "(I)I"⟩ prog_10_method_21_code 6 (Option.some FieldType.int)) := by rfl
set_option maxRecDepth 100000 in
theorem zc_147 : lw_tbl[1174]? = some (.code ⟨"SagaDeskModel", "isAhead", "(III)Z"⟩ prog_10_method_19_code 4 (Option.some FieldType.boolean)) := by rfl
set_option maxRecDepth 100000 in
theorem zc_148 : lw_tbl[1179]? = some (.code ⟨"SagaDeskModel", "wide", "(I)I"⟩ prog_10_method_22_code 6 (Option.some FieldType.int)) := by rfl
set_option maxRecDepth 100000 in
theorem zc_149 : lw_tbl[1184]? = some (.code ⟨"SagaDeskModel", "beside", "(II)I"⟩ prog_10_method_20_code 5 (Option.some FieldType.int)) := by rfl
set_option maxRecDepth 100000 in
theorem zc_150 : lw_tbl[1188]? = some (.code ⟨"SagaDeskModel", "clashes", "(I)I"⟩ prog_10_method_24_code 5 (Option.some FieldType.int)) := by rfl
set_option maxRecDepth 100000 in
theorem zc_151 : lw_tbl[1192]? = some (.code ⟨"SagaDeskModel", "accountsOf", "(II)I"⟩ prog_10_method_23_code 3 (Option.some FieldType.int)) := by rfl
set_option maxRecDepth 100000 in
theorem zc_152 : lw_tbl[1196]? = some (.code ⟨"SagaDeskModel", "risky", "(I)I"⟩ prog_10_method_27_code 4 (Option.some FieldType.int)) := by rfl
set_option maxRecDepth 100000 in
theorem zc_153 : lw_tbl[1200]? = some (.code ⟨"SagaDeskModel", "isClosed", "(II)Z"⟩ prog_10_method_25_code 4 (Option.some FieldType.boolean)) := by rfl
set_option maxRecDepth 100000 in
theorem zc_154 : lw_tbl[1204]? = some (.code ⟨"SagaDeskModel", "isRisky", "(II)Z"⟩ prog_10_method_26_code 6 (Option.some FieldType.boolean)) := by rfl
set_option maxRecDepth 100000 in
theorem zc_155 : lw_tbl[1208]? = some (.code ⟨"SagaDeskModel", "keep", "(I)V"⟩ prog_10_method_41_code 4 (Option.none : Option Jvm.ClassFile.FieldType)) := by rfl
set_option maxRecDepth 100000 in
theorem zc_156 : lw_tbl[1213]? = some (.code ⟨"SagaDeskModel", "rowOf", "(II)[I"⟩ prog_10_method_40_code 3 (Option.some (FieldType.array FieldType.int))) := by rfl
set_option maxRecDepth 100000 in
theorem zc_157 : lw_tbl[1217]? = some (.code ⟨"SagaDeskModel", "doing", "(III)I"⟩ prog_10_method_38_code 6 (Option.some FieldType.int)) := by rfl
set_option maxRecDepth 100000 in
theorem zc_158 : lw_tbl[1221]? = some (.code ⟨"SagaDeskModel", "changes", "(II)I"⟩ prog_10_method_35_code 4 (Option.some FieldType.int)) := by rfl
set_option maxRecDepth 100000 in
theorem zc_159 : lw_tbl[1224]? = some (.code ⟨"SagaDeskModel", "fault", "(I)I"⟩ prog_10_method_34_code 1 (Option.some FieldType.int)) := by rfl
set_option maxRecDepth 100000 in
theorem zc_160 : lw_tbl[1228]? = some (.code ⟨"SagaDeskModel", "moves", "(III)I"⟩ prog_10_method_36_code 5 (Option.some FieldType.int)) := by rfl
set_option maxRecDepth 100000 in
theorem zc_161 : lw_tbl[1232]? = some (.code ⟨"SagaDeskModel", "swaps", "(II)I"⟩ prog_10_method_37_code 4 (Option.some FieldType.int)) := by rfl
set_option maxRecDepth 100000 in
theorem zc_162 : lw_tbl[1236]? = some (.code ⟨"SagaDeskModel", "layBack", "(I)V"⟩ prog_10_method_42_code 4 (Option.none : Option Jvm.ClassFile.FieldType)) := by rfl
set_option maxRecDepth 100000 in
theorem zc_163 : lw_tbl[1240]? = some (.code ⟨"SagaDeskModel", "orders", "(I)J"⟩ prog_10_method_29_code 5 (Option.some FieldType.long)) := by rfl
set_option maxRecDepth 100000 in
theorem zc_164 : lw_tbl[1245]? = some (.code ⟨"SagaDeskModel", "lastOf", "(III)J"⟩ prog_10_method_30_code 5 (Option.some FieldType.long)) := by rfl
set_option maxRecDepth 100000 in
theorem zc_165 : lw_tbl[1249]? = some (.code ⟨"SagaDeskModel", "step", "(III)I"⟩ prog_10_method_32_code 4 (Option.some FieldType.int)) := by rfl
set_option maxRecDepth 100000 in
theorem zc_166 : lw_tbl[1253]? = some (.code ⟨"SagaDeskModel", "isStep", "(II)Z"⟩ prog_10_method_31_code 3 (Option.some FieldType.boolean)) := by rfl
set_option maxRecDepth 100000 in
theorem zc_167 : lw_tbl[1257]? = some (.code ⟨"SagaDeskModel", "taken", "(III)I"⟩ prog_10_method_33_code 5 (Option.some FieldType.int)) := by rfl
-- the code words of the methods
set_option maxRecDepth 100000 in
theorem zc_168 : lw_tbl[1261]? = some (.code ⟨"SagaDeskModel", "begin", "(II)I"⟩ prog_10_method_56_code 3 (Option.some FieldType.int)) := by rfl
set_option maxRecDepth 100000 in
theorem zc_169 : lw_tbl[1264]? = some (.code ⟨"SagaDeskModel", "isSaga", "(I)Z"⟩ prog_10_method_3_code 1 (Option.some FieldType.boolean)) := by rfl
set_option maxRecDepth 100000 in
theorem zc_170 : lw_tbl[1268]? = some (.code ⟨"SagaDeskModel", "begins", "(II)V"⟩ prog_10_method_45_code 5 (Option.none : Option Jvm.ClassFile.FieldType)) := by rfl
set_option maxRecDepth 100000 in
theorem zc_171 : lw_tbl[1272]? = some (.code ⟨"SagaDeskModel", "writes", "(III)V"⟩ prog_10_method_43_code 4 (Option.none : Option Jvm.ClassFile.FieldType)) := by rfl
set_option maxRecDepth 100000 in
theorem zc_172 : lw_tbl[1276]? = some (.code ⟨"SagaDeskModel", "plan", "(IIII)I"⟩ prog_10_method_58_code 8 (Option.some FieldType.int)) := by rfl
set_option maxRecDepth 100000 in
theorem zc_173 : lw_tbl[1280]? = some (.code ⟨"SagaDeskModel", "refusal", "(II)I"⟩ prog_10_method_57_code 3 (Option.some FieldType.int)) := by rfl
set_option maxRecDepth 100000 in
theorem zc_174 : lw_tbl[1284]? = some (.code ⟨"SagaDeskModel", "tick", "()I"⟩ prog_10_method_59_code 2 (Option.some FieldType.int)) := by rfl
set_option maxRecDepth 100000 in
theorem zc_175 : lw_tbl[1288]? = some (.code ⟨"SagaDeskModel", "ticks", "()V"⟩ prog_10_method_55_code 2 (Option.none : Option Jvm.ClassFile.FieldType)) := by rfl
set_option maxRecDepth 100000 in
theorem zc_176 : lw_tbl[1292]? = some (.code ⟨"SagaDeskModel", "turn", "(I)V"⟩ prog_10_method_54_code 5 (Option.none : Option Jvm.ClassFile.FieldType)) := by rfl
set_option maxRecDepth 100000 in
theorem zc_177 : lw_tbl[1296]? = some (.code ⟨"SagaDeskModel", "undoes", "(I)V"⟩ prog_10_method_53_code 4 (Option.none : Option Jvm.ClassFile.FieldType)) := by rfl
set_option maxRecDepth 100000 in
theorem zc_178 : lw_tbl[1300]? = some (.code ⟨"SagaDeskModel", "last", "(I)I"⟩ prog_10_method_49_code 5 (Option.some FieldType.int)) := by rfl
set_option maxRecDepth 100000 in
theorem zc_179 : lw_tbl[1304]? = some (.code ⟨"SagaDeskModel", "stepsThat", "(II)I"⟩ prog_10_method_46_code 5 (Option.some FieldType.int)) := by rfl
set_option maxRecDepth 100000 in
theorem zc_180 : lw_tbl[1308]? = some (.code ⟨"SagaDeskModel", "undoing", "(III)I"⟩ prog_10_method_39_code 6 (Option.some FieldType.int)) := by rfl
set_option maxRecDepth 100000 in
theorem zc_181 : lw_tbl[1312]? = some (.code ⟨"SagaDeskModel", "over", "(II)V"⟩ prog_10_method_51_code 3 (Option.none : Option Jvm.ClassFile.FieldType)) := by rfl
set_option maxRecDepth 100000 in
theorem zc_182 : lw_tbl[1316]? = some (.code ⟨"SagaDeskModel", "front", "(I)I"⟩ prog_10_method_48_code 5 (Option.some FieldType.int)) := by rfl
set_option maxRecDepth 100000 in
theorem zc_183 : lw_tbl[1320]? = some (.code ⟨"SagaDeskModel", "tries", "(II)Z"⟩ prog_10_method_52_code 6 (Option.some FieldType.boolean)) := by rfl
set_option maxRecDepth 100000 in
theorem zc_184 : lw_tbl[1324]? = some (.code ⟨"SagaDeskModel", "isDone", "(III)V"⟩ prog_10_method_50_code 4 (Option.none : Option Jvm.ClassFile.FieldType)) := by rfl
set_option maxRecDepth 100000 in
theorem zc_185 : lw_tbl[1328]? = some (.code ⟨"SagaDeskModel", "isPassed", "(I)Z"⟩ prog_10_method_47_code 3 (Option.some FieldType.boolean)) := by rfl
set_option maxRecDepth 100000 in
theorem zc_186 : lw_tbl[1332]? = some (.code ⟨"SagaDeskModel", "told", "(II)I"⟩ prog_10_method_60_code 3 (Option.some FieldType.int)) := by rfl
set_option maxRecDepth 100000 in
theorem zc_187 : lw_tbl[1336]? = some (.code ⟨"SagaDeskModel", "why", "(II)I"⟩ prog_10_method_61_code 4 (Option.some FieldType.int)) := by rfl
set_option maxRecDepth 100000 in
theorem zc_188 : lw_tbl[1340]? = some (.code ⟨"SagaDeskModel", "set", "(II)I"⟩ prog_10_method_62_code 4 (Option.some FieldType.int)) := by rfl
set_option maxRecDepth 100000 in
theorem zc_189 : lw_tbl[1343]? = some (.code ⟨"SagaDeskModel", "isAccount", "(I)Z"⟩ prog_10_method_4_code 1 (Option.some FieldType.boolean)) := by rfl
set_option maxRecDepth 100000 in
theorem zc_190 : lw_tbl[1347]? = some (.code ⟨"SagaDeskModel", "line", "(II)I"⟩ prog_10_method_63_code 3 (Option.some FieldType.int)) := by rfl
set_option maxRecDepth 100000 in
theorem zc_191 : lw_tbl[1351]? = some (.code ⟨"SagaDeskModel", "replay", "(II)I"⟩ prog_10_method_68_code 4 (Option.some FieldType.int)) := by rfl
-- the code words of the methods
set_option maxRecDepth 100000 in
theorem zc_192 : lw_tbl[1354]? = some (.code ⟨"SagaDeskModel", "isAsked", "(I)Z"⟩ prog_10_method_66_code 1 (Option.some FieldType.boolean)) := by rfl
set_option maxRecDepth 100000 in
theorem zc_193 : lw_tbl[1358]? = some (.code ⟨"SagaDeskModel", "replays", "(I)V"⟩ prog_10_method_65_code 3 (Option.none : Option Jvm.ClassFile.FieldType)) := by rfl
set_option maxRecDepth 100000 in
theorem zc_194 : lw_tbl[1362]? = some (.code ⟨"SagaDeskModel", "again", "(III)V"⟩ prog_10_method_64_code 5 (Option.none : Option Jvm.ClassFile.FieldType)) := by rfl
set_option maxRecDepth 100000 in
theorem zc_195 : lw_tbl[1366]? = some (.code ⟨"SagaDeskModel", "answer", "(I)I"⟩ prog_10_method_67_code 2 (Option.some FieldType.int)) := by rfl
set_option maxRecDepth 100000 in
theorem zc_196 : lw_tbl[1370]? = some (.code ⟨"SagaDeskModel", "breaks", "(I)I"⟩ prog_10_method_69_code 3 (Option.some FieldType.int)) := by rfl
set_option maxRecDepth 100000 in
theorem zc_197 : lw_tbl[1374]? = some (.code ⟨"SagaDeskModel", "run", "(II)I"⟩ prog_10_method_72_code 4 (Option.some FieldType.int)) := by rfl
set_option maxRecDepth 100000 in
theorem zc_198 : lw_tbl[1378]? = some (.code ⟨"SagaDeskModel", "thinks", "()V"⟩ prog_10_method_70_code 1 (Option.none : Option Jvm.ClassFile.FieldType)) := by rfl
set_option maxRecDepth 100000 in
theorem zc_199 : lw_tbl[1382]? = some (.code ⟨"SagaDeskModel", "wakes", "()V"⟩ prog_10_method_71_code 1 (Option.none : Option Jvm.ClassFile.FieldType)) := by rfl
set_option maxRecDepth 100000 in
theorem zc_200 : lw_tbl[1386]? = some (.code ⟨"SagaDeskModel", "ends", "(II)I"⟩ prog_10_method_73_code 5 (Option.some FieldType.int)) := by rfl
set_option maxRecDepth 100000 in
theorem zc_201 : lw_tbl[1390]? = some (.code ⟨"SagaDeskModel", "drawn", "(II)I"⟩ prog_10_method_75_code 3 (Option.some FieldType.int)) := by rfl
set_option maxRecDepth 100000 in
theorem zc_202 : lw_tbl[1394]? = some (.code ⟨"SagaDeskModel", "byLot", "(II)I"⟩ prog_10_method_74_code 5 (Option.some FieldType.int)) := by rfl
set_option maxRecDepth 100000 in
theorem zc_203 : lw_tbl[1398]? = some (.code ⟨"SagaDeskModel", "clears", "(I[[I)V"⟩ prog_10_method_44_code 4 (Option.none : Option Jvm.ClassFile.FieldType)) := by rfl
set_option maxRecDepth 100000 in
theorem zc_204 : lw_tbl[1403]? = some (.code ⟨"SagaDeskModel", "chance", "(IIII)I"⟩ prog_10_method_77_code 7 (Option.some FieldType.int)) := by rfl
set_option maxRecDepth 100000 in
theorem zc_205 : lw_tbl[1406]? = some (.code ⟨"SagaDeskModel", "common", "(II)I"⟩ prog_10_method_76_code 2 (Option.some FieldType.int)) := by rfl
set_option maxRecDepth 100000 in
theorem zc_206 : lw_tbl[1410]? = some (.code ⟨"SagaDeskModel", "tells", "(IIII)I"⟩ prog_10_method_80_code 9 (Option.some FieldType.int)) := by rfl
set_option maxRecDepth 100000 in
theorem zc_207 : lw_tbl[1413]? = some (.code ⟨"SagaDeskModel", "isSheet", "(I)Z"⟩ prog_10_method_84_code 1 (Option.some FieldType.boolean)) := by rfl
set_option maxRecDepth 100000 in
theorem zc_208 : lw_tbl[1417]? = some (.code ⟨"SagaDeskModel", "otherwise", "(II)I"⟩ prog_10_method_78_code 5 (Option.some FieldType.int)) := by rfl
set_option maxRecDepth 100000 in
theorem zc_209 : lw_tbl[1421]? = some (.code ⟨"SagaDeskModel", "numbersBy", "(IIZ)I"⟩ prog_10_method_79_code 7 (Option.some FieldType.int)) := by rfl
set_option maxRecDepth 100000 in
theorem zc_210 : lw_tbl[1425]? = some (.code ⟨"SagaDeskModel", "film", "(III)I"⟩ prog_10_method_81_code 5 (Option.some FieldType.int)) := by rfl
set_option maxRecDepth 100000 in
theorem zc_211 : lw_tbl[1429]? = some (.code ⟨"SagaDeskModel", "count", "(I)I"⟩ prog_10_method_83_code 2 (Option.some FieldType.int)) := by rfl
set_option maxRecDepth 100000 in
theorem zc_212 : lw_tbl[1433]? = some (.code ⟨"SagaDeskModel", "busy", "()I"⟩ prog_10_method_82_code 3 (Option.some FieldType.int)) := by rfl
set_option maxRecDepth 100000 in
theorem zc_213 : lw_tbl[1437]? = some (.code ⟨"SagaDeskModel", "sheet", "(III)I"⟩ prog_10_method_85_code 5 (Option.some FieldType.int)) := by rfl
set_option maxRecDepth 100000 in
theorem zc_214 : lw_tbl[1441]? = some (.code ⟨"SagaDeskModel", "cell", "(III)I"⟩ prog_10_method_86_code 4 (Option.some FieldType.int)) := by rfl
set_option maxRecDepth 100000 in
theorem zc_215 : lw_tbl[1445]? = some (.code ⟨"SagaDeskModel", "copy", "(IIIII)I"⟩ prog_10_method_87_code 6 (Option.some FieldType.int)) := by rfl
def zMw (q : zMT) : Prop := lw_tbl[q.2.2.2.2.2.2.2]? = some (.code q.1 q.2.1 q.2.2.1 q.2.2.2.1)
theorem zMw_0 : ∀ q ∈ zMs0, zMw q := List.forall_mem_cons.mpr ⟨zc_0, List.forall_mem_cons.mpr ⟨zc_1, List.forall_mem_cons.mpr ⟨zc_2, List.forall_mem_cons.mpr ⟨zc_3, List.forall_mem_cons.mpr ⟨zc_4, List.forall_mem_cons.mpr ⟨zc_5, List.forall_mem_cons.mpr ⟨zc_6, List.forall_mem_cons.mpr ⟨zc_7, List.forall_mem_cons.mpr ⟨zc_8, List.forall_mem_cons.mpr ⟨zc_9, List.forall_mem_cons.mpr ⟨zc_10, List.forall_mem_cons.mpr ⟨zc_11, List.forall_mem_cons.mpr ⟨zc_12, List.forall_mem_cons.mpr ⟨zc_13, List.forall_mem_cons.mpr ⟨zc_14, List.forall_mem_cons.mpr ⟨zc_15, List.forall_mem_cons.mpr ⟨zc_16, List.forall_mem_cons.mpr ⟨zc_17, List.forall_mem_cons.mpr ⟨zc_18, List.forall_mem_cons.mpr ⟨zc_19, List.forall_mem_cons.mpr ⟨zc_20, List.forall_mem_cons.mpr ⟨zc_21, List.forall_mem_cons.mpr ⟨zc_22, List.forall_mem_cons.mpr ⟨zc_23, fun _ h => absurd h List.not_mem_nil⟩⟩⟩⟩⟩⟩⟩⟩⟩⟩⟩⟩⟩⟩⟩⟩⟩⟩⟩⟩⟩⟩⟩⟩
theorem zMw_1 : ∀ q ∈ zMs1, zMw q := List.forall_mem_cons.mpr ⟨zc_24, List.forall_mem_cons.mpr ⟨zc_25, List.forall_mem_cons.mpr ⟨zc_26, List.forall_mem_cons.mpr ⟨zc_27, List.forall_mem_cons.mpr ⟨zc_28, List.forall_mem_cons.mpr ⟨zc_29, List.forall_mem_cons.mpr ⟨zc_30, List.forall_mem_cons.mpr ⟨zc_31, List.forall_mem_cons.mpr ⟨zc_32, List.forall_mem_cons.mpr ⟨zc_33, List.forall_mem_cons.mpr ⟨zc_34, List.forall_mem_cons.mpr ⟨zc_35, List.forall_mem_cons.mpr ⟨zc_36, List.forall_mem_cons.mpr ⟨zc_37, List.forall_mem_cons.mpr ⟨zc_38, List.forall_mem_cons.mpr ⟨zc_39, List.forall_mem_cons.mpr ⟨zc_40, List.forall_mem_cons.mpr ⟨zc_41, List.forall_mem_cons.mpr ⟨zc_42, List.forall_mem_cons.mpr ⟨zc_43, List.forall_mem_cons.mpr ⟨zc_44, List.forall_mem_cons.mpr ⟨zc_45, List.forall_mem_cons.mpr ⟨zc_46, List.forall_mem_cons.mpr ⟨zc_47, fun _ h => absurd h List.not_mem_nil⟩⟩⟩⟩⟩⟩⟩⟩⟩⟩⟩⟩⟩⟩⟩⟩⟩⟩⟩⟩⟩⟩⟩⟩
theorem zMw_2 : ∀ q ∈ zMs2, zMw q := List.forall_mem_cons.mpr ⟨zc_48, List.forall_mem_cons.mpr ⟨zc_49, List.forall_mem_cons.mpr ⟨zc_50, List.forall_mem_cons.mpr ⟨zc_51, List.forall_mem_cons.mpr ⟨zc_52, List.forall_mem_cons.mpr ⟨zc_53, List.forall_mem_cons.mpr ⟨zc_54, List.forall_mem_cons.mpr ⟨zc_55, List.forall_mem_cons.mpr ⟨zc_56, List.forall_mem_cons.mpr ⟨zc_57, List.forall_mem_cons.mpr ⟨zc_58, List.forall_mem_cons.mpr ⟨zc_59, List.forall_mem_cons.mpr ⟨zc_60, List.forall_mem_cons.mpr ⟨zc_61, List.forall_mem_cons.mpr ⟨zc_62, List.forall_mem_cons.mpr ⟨zc_63, List.forall_mem_cons.mpr ⟨zc_64, List.forall_mem_cons.mpr ⟨zc_65, List.forall_mem_cons.mpr ⟨zc_66, List.forall_mem_cons.mpr ⟨zc_67, List.forall_mem_cons.mpr ⟨zc_68, List.forall_mem_cons.mpr ⟨zc_69, List.forall_mem_cons.mpr ⟨zc_70, List.forall_mem_cons.mpr ⟨zc_71, fun _ h => absurd h List.not_mem_nil⟩⟩⟩⟩⟩⟩⟩⟩⟩⟩⟩⟩⟩⟩⟩⟩⟩⟩⟩⟩⟩⟩⟩⟩
theorem zMw_3 : ∀ q ∈ zMs3, zMw q := List.forall_mem_cons.mpr ⟨zc_72, List.forall_mem_cons.mpr ⟨zc_73, List.forall_mem_cons.mpr ⟨zc_74, List.forall_mem_cons.mpr ⟨zc_75, List.forall_mem_cons.mpr ⟨zc_76, List.forall_mem_cons.mpr ⟨zc_77, List.forall_mem_cons.mpr ⟨zc_78, List.forall_mem_cons.mpr ⟨zc_79, List.forall_mem_cons.mpr ⟨zc_80, List.forall_mem_cons.mpr ⟨zc_81, List.forall_mem_cons.mpr ⟨zc_82, List.forall_mem_cons.mpr ⟨zc_83, List.forall_mem_cons.mpr ⟨zc_84, List.forall_mem_cons.mpr ⟨zc_85, List.forall_mem_cons.mpr ⟨zc_86, List.forall_mem_cons.mpr ⟨zc_87, List.forall_mem_cons.mpr ⟨zc_88, List.forall_mem_cons.mpr ⟨zc_89, List.forall_mem_cons.mpr ⟨zc_90, List.forall_mem_cons.mpr ⟨zc_91, List.forall_mem_cons.mpr ⟨zc_92, List.forall_mem_cons.mpr ⟨zc_93, List.forall_mem_cons.mpr ⟨zc_94, List.forall_mem_cons.mpr ⟨zc_95, fun _ h => absurd h List.not_mem_nil⟩⟩⟩⟩⟩⟩⟩⟩⟩⟩⟩⟩⟩⟩⟩⟩⟩⟩⟩⟩⟩⟩⟩⟩
theorem zMw_4 : ∀ q ∈ zMs4, zMw q := List.forall_mem_cons.mpr ⟨zc_96, List.forall_mem_cons.mpr ⟨zc_97, List.forall_mem_cons.mpr ⟨zc_98, List.forall_mem_cons.mpr ⟨zc_99, List.forall_mem_cons.mpr ⟨zc_100, List.forall_mem_cons.mpr ⟨zc_101, List.forall_mem_cons.mpr ⟨zc_102, List.forall_mem_cons.mpr ⟨zc_103, List.forall_mem_cons.mpr ⟨zc_104, List.forall_mem_cons.mpr ⟨zc_105, List.forall_mem_cons.mpr ⟨zc_106, List.forall_mem_cons.mpr ⟨zc_107, List.forall_mem_cons.mpr ⟨zc_108, List.forall_mem_cons.mpr ⟨zc_109, List.forall_mem_cons.mpr ⟨zc_110, List.forall_mem_cons.mpr ⟨zc_111, List.forall_mem_cons.mpr ⟨zc_112, List.forall_mem_cons.mpr ⟨zc_113, List.forall_mem_cons.mpr ⟨zc_114, List.forall_mem_cons.mpr ⟨zc_115, List.forall_mem_cons.mpr ⟨zc_116, List.forall_mem_cons.mpr ⟨zc_117, List.forall_mem_cons.mpr ⟨zc_118, List.forall_mem_cons.mpr ⟨zc_119, fun _ h => absurd h List.not_mem_nil⟩⟩⟩⟩⟩⟩⟩⟩⟩⟩⟩⟩⟩⟩⟩⟩⟩⟩⟩⟩⟩⟩⟩⟩
theorem zMw_5 : ∀ q ∈ zMs5, zMw q := List.forall_mem_cons.mpr ⟨zc_120, List.forall_mem_cons.mpr ⟨zc_121, List.forall_mem_cons.mpr ⟨zc_122, List.forall_mem_cons.mpr ⟨zc_123, List.forall_mem_cons.mpr ⟨zc_124, List.forall_mem_cons.mpr ⟨zc_125, List.forall_mem_cons.mpr ⟨zc_126, List.forall_mem_cons.mpr ⟨zc_127, List.forall_mem_cons.mpr ⟨zc_128, List.forall_mem_cons.mpr ⟨zc_129, List.forall_mem_cons.mpr ⟨zc_130, List.forall_mem_cons.mpr ⟨zc_131, List.forall_mem_cons.mpr ⟨zc_132, List.forall_mem_cons.mpr ⟨zc_133, List.forall_mem_cons.mpr ⟨zc_134, List.forall_mem_cons.mpr ⟨zc_135, List.forall_mem_cons.mpr ⟨zc_136, List.forall_mem_cons.mpr ⟨zc_137, List.forall_mem_cons.mpr ⟨zc_138, List.forall_mem_cons.mpr ⟨zc_139, List.forall_mem_cons.mpr ⟨zc_140, List.forall_mem_cons.mpr ⟨zc_141, List.forall_mem_cons.mpr ⟨zc_142, List.forall_mem_cons.mpr ⟨zc_143, fun _ h => absurd h List.not_mem_nil⟩⟩⟩⟩⟩⟩⟩⟩⟩⟩⟩⟩⟩⟩⟩⟩⟩⟩⟩⟩⟩⟩⟩⟩
theorem zMw_6 : ∀ q ∈ zMs6, zMw q := List.forall_mem_cons.mpr ⟨zc_144, List.forall_mem_cons.mpr ⟨zc_145, List.forall_mem_cons.mpr ⟨zc_146, List.forall_mem_cons.mpr ⟨zc_147, List.forall_mem_cons.mpr ⟨zc_148, List.forall_mem_cons.mpr ⟨zc_149, List.forall_mem_cons.mpr ⟨zc_150, List.forall_mem_cons.mpr ⟨zc_151, List.forall_mem_cons.mpr ⟨zc_152, List.forall_mem_cons.mpr ⟨zc_153, List.forall_mem_cons.mpr ⟨zc_154, List.forall_mem_cons.mpr ⟨zc_155, List.forall_mem_cons.mpr ⟨zc_156, List.forall_mem_cons.mpr ⟨zc_157, List.forall_mem_cons.mpr ⟨zc_158, List.forall_mem_cons.mpr ⟨zc_159, List.forall_mem_cons.mpr ⟨zc_160, List.forall_mem_cons.mpr ⟨zc_161, List.forall_mem_cons.mpr ⟨zc_162, List.forall_mem_cons.mpr ⟨zc_163, List.forall_mem_cons.mpr ⟨zc_164, List.forall_mem_cons.mpr ⟨zc_165, List.forall_mem_cons.mpr ⟨zc_166, List.forall_mem_cons.mpr ⟨zc_167, fun _ h => absurd h List.not_mem_nil⟩⟩⟩⟩⟩⟩⟩⟩⟩⟩⟩⟩⟩⟩⟩⟩⟩⟩⟩⟩⟩⟩⟩⟩
theorem zMw_7 : ∀ q ∈ zMs7, zMw q := List.forall_mem_cons.mpr ⟨zc_168, List.forall_mem_cons.mpr ⟨zc_169, List.forall_mem_cons.mpr ⟨zc_170, List.forall_mem_cons.mpr ⟨zc_171, List.forall_mem_cons.mpr ⟨zc_172, List.forall_mem_cons.mpr ⟨zc_173, List.forall_mem_cons.mpr ⟨zc_174, List.forall_mem_cons.mpr ⟨zc_175, List.forall_mem_cons.mpr ⟨zc_176, List.forall_mem_cons.mpr ⟨zc_177, List.forall_mem_cons.mpr ⟨zc_178, List.forall_mem_cons.mpr ⟨zc_179, List.forall_mem_cons.mpr ⟨zc_180, List.forall_mem_cons.mpr ⟨zc_181, List.forall_mem_cons.mpr ⟨zc_182, List.forall_mem_cons.mpr ⟨zc_183, List.forall_mem_cons.mpr ⟨zc_184, List.forall_mem_cons.mpr ⟨zc_185, List.forall_mem_cons.mpr ⟨zc_186, List.forall_mem_cons.mpr ⟨zc_187, List.forall_mem_cons.mpr ⟨zc_188, List.forall_mem_cons.mpr ⟨zc_189, List.forall_mem_cons.mpr ⟨zc_190, List.forall_mem_cons.mpr ⟨zc_191, fun _ h => absurd h List.not_mem_nil⟩⟩⟩⟩⟩⟩⟩⟩⟩⟩⟩⟩⟩⟩⟩⟩⟩⟩⟩⟩⟩⟩⟩⟩
theorem zMw_8 : ∀ q ∈ zMs8, zMw q := List.forall_mem_cons.mpr ⟨zc_192, List.forall_mem_cons.mpr ⟨zc_193, List.forall_mem_cons.mpr ⟨zc_194, List.forall_mem_cons.mpr ⟨zc_195, List.forall_mem_cons.mpr ⟨zc_196, List.forall_mem_cons.mpr ⟨zc_197, List.forall_mem_cons.mpr ⟨zc_198, List.forall_mem_cons.mpr ⟨zc_199, List.forall_mem_cons.mpr ⟨zc_200, List.forall_mem_cons.mpr ⟨zc_201, List.forall_mem_cons.mpr ⟨zc_202, List.forall_mem_cons.mpr ⟨zc_203, List.forall_mem_cons.mpr ⟨zc_204, List.forall_mem_cons.mpr ⟨zc_205, List.forall_mem_cons.mpr ⟨zc_206, List.forall_mem_cons.mpr ⟨zc_207, List.forall_mem_cons.mpr ⟨zc_208, List.forall_mem_cons.mpr ⟨zc_209, List.forall_mem_cons.mpr ⟨zc_210, List.forall_mem_cons.mpr ⟨zc_211, List.forall_mem_cons.mpr ⟨zc_212, List.forall_mem_cons.mpr ⟨zc_213, List.forall_mem_cons.mpr ⟨zc_214, List.forall_mem_cons.mpr ⟨zc_215, fun _ h => absurd h List.not_mem_nil⟩⟩⟩⟩⟩⟩⟩⟩⟩⟩⟩⟩⟩⟩⟩⟩⟩⟩⟩⟩⟩⟩⟩⟩
def zMs : List zMT := zMs0 ++ (zMs1 ++ (zMs2 ++ (zMs3 ++ (zMs4 ++ (zMs5 ++ (zMs6 ++ (zMs7 ++ (zMs8))))))))
def zMtL : zMT := (⟨"java/lang/String", "length", "()I"⟩, prog_13_method_54_code, 1, (Option.some FieldType.int), 14, 0, 1, 440)
set_option maxRecDepth 100000 in
theorem zMtL_c : lw_tbl[440]? = some (.code ⟨"java/lang/String", "length", "()I"⟩ prog_13_method_54_code 1 (Option.some FieldType.int)) := by rfl
def zMtC : zMT := (⟨"java/lang/String", "charAt", "(I)C"⟩, prog_13_method_56_code, 2, (Option.some FieldType.char), 14, 1, 1, 450)
set_option maxRecDepth 100000 in
theorem zMtC_c : lw_tbl[450]? = some (.code ⟨"java/lang/String", "charAt", "(I)C"⟩ prog_13_method_56_code 2 (Option.some FieldType.char)) := by rfl
set_option maxRecDepth 100000 in
theorem zjcO : lw_tbl[444]? = some (.code ⟨"java/lang/String", "coder", "()B"⟩ prog_13_method_152_code 1 (Option.some FieldType.byte)) := by rfl
abbrev zjbO : ByteArray := prog_13_method_152_code
set_option maxRecDepth 100000 in
theorem zjcI : lw_tbl[454]? = some (.code ⟨"java/lang/String", "isLatin1", "()Z"⟩ prog_13_method_154_code 1 (Option.some FieldType.boolean)) := by rfl
abbrev zjbI : ByteArray := prog_13_method_154_code
set_option maxRecDepth 100000 in
theorem zjcB : lw_tbl[457]? = some (.code ⟨"java/lang/StringLatin1", "charAt", "([BI)C"⟩ prog_14_method_2_code 2 (Option.some FieldType.char)) := by rfl
abbrev zjbB : ByteArray := prog_14_method_2_code
set_option maxRecDepth 100000 in
theorem zjcK : lw_tbl[460]? = some (.code ⟨"java/lang/String", "checkIndex", "(II)V"⟩ prog_13_method_155_code 2 (Option.none : Option Jvm.ClassFile.FieldType)) := by rfl
abbrev zjbK : ByteArray := prog_13_method_155_code
set_option maxRecDepth 100000 in
theorem zjcP : lw_tbl[465]? = some (.code ⟨"jdk/internal/util/Preconditions", "checkIndex", "(IILjava/util/function/BiFunction;)I"⟩ prog_18_method_11_code 3 (Option.some FieldType.int)) := by rfl
abbrev zjbP : ByteArray := prog_18_method_11_code
theorem zMw_all : ∀ q ∈ zMs, zMw q := List.forall_mem_append.mpr ⟨zMw_0, List.forall_mem_append.mpr ⟨zMw_1, List.forall_mem_append.mpr ⟨zMw_2, List.forall_mem_append.mpr ⟨zMw_3, List.forall_mem_append.mpr ⟨zMw_4, List.forall_mem_append.mpr ⟨zMw_5, List.forall_mem_append.mpr ⟨zMw_6, List.forall_mem_append.mpr ⟨zMw_7, zMw_8⟩⟩⟩⟩⟩⟩⟩⟩
/-- the call sites: class, entry; kind (0 virtual, 1 static, 2 <init>, 4 static of a nest mate, 5 <init> of one, 6 Object.<init>, 7 arraycopy, 8 String.length, 9 String.charAt), method; places of its words -/
abbrev zST : Type := (Nat × Nat) × Nat × Nat × List Nat
def zSs0 : List zST := [((0, 1), 6, 0, [190, 105, 106]),
  ((0, 7), 10, 0, [191, 192, 86])]
def zSs1 : List zST := [((1, 3), 6, 0, [143, 105, 106]),
  ((1, 37), 4, 35, [531, 82]),
  ((1, 45), 10, 0, [533, 192, 86]),
  ((1, 41), 0, 37, [538, 539, 540, 84]),
  ((1, 51), 1, 38, [542, 543, 84]),
  ((1, 55), 0, 39, [545, 546, 547, 84]),
  ((1, 63), 0, 41, [553, 554, 555, 84]),
  ((1, 59), 4, 26, [496, 82]),
  ((1, 66), 0, 44, [616, 569, 570, 84])]
def zSs2 : List zST := [((2, 3), 6, 0, [226, 105, 106]),
  ((2, 15), 1, 6, [227, 228, 89]),
  ((2, 28), 7, 0, [562, 564, 563, 97]),
  ((2, 69), 4, 35, [531, 82]),
  ((2, 76), 0, 46, [577, 578, 579, 88]),
  ((2, 34), 0, 47, [581, 582, 583, 84]),
  ((2, 46), 1, 48, [585, 586, 88]),
  ((2, 50), 0, 49, [588, 590, 13, 88]),
  ((2, 56), 1, 50, [592, 593, 88]),
  ((2, 59), 0, 52, [600, 602, 14, 88]),
  ((2, 63), 0, 53, [604, 606, 15, 88])]
def zSs3 : List zST := [((3, 3), 6, 0, [112, 105, 106]),
  ((3, 23), 0, 15, [395, 396, 397, 84]),
  ((3, 34), 0, 16, [399, 401, 0, 83]),
  ((3, 51), 4, 10, [378, 82]),
  ((3, 55), 0, 17, [404, 406, 1, 83]),
  ((3, 37), 0, 18, [408, 410, 2, 83]),
  ((3, 59), 0, 19, [412, 414, 3, 83]),
  ((3, 62), 0, 20, [416, 418, 4, 83]),
  ((3, 76), 0, 21, [420, 422, 5, 83]),
  ((3, 100), 1, 22, [424, 425, 83]),
  ((3, 104), 0, 23, [433, 435, 6, 83]),
  ((3, 108), 8, 900, [437, 438, 439, 93]),
  ((3, 113), 9, 901, [447, 448, 449, 93]),
  ((3, 44), 0, 24, [485, 487, 7, 83]),
  ((3, 83), 0, 25, [491, 493, 8, 83]),
  ((3, 97), 4, 26, [496, 82]),
  ((3, 86), 4, 27, [499, 82]),
  ((3, 90), 0, 28, [501, 503, 9, 83]),
  ((3, 93), 0, 29, [505, 506, 507, 84]),
  ((3, 66), 0, 30, [509, 511, 10, 83]),
  ((3, 72), 0, 31, [513, 515, 11, 83])]
def zSs4 : List zST := [((4, 3), 6, 0, [333, 105, 106]),
  ((4, 19), 11, 0, [903, 904, 86]),
  ((4, 25), 10, 0, [906, 192, 86]),
  ((4, 31), 1, 6, [907, 228, 89]),
  ((4, 37), 4, 10, [378, 82])]
def zSs5 : List zST := [((5, 3), 6, 0, [252, 105, 106]),
  ((5, 65), 0, 63, [648, 649, 650, 90]),
  ((5, 56), 1, 6, [652, 228, 89]),
  ((5, 62), 0, 64, [653, 654, 655, 90]),
  ((5, 71), 7, 0, [657, 564, 563, 97]),
  ((5, 84), 4, 10, [378, 82]),
  ((5, 80), 0, 47, [671, 582, 583, 84]),
  ((5, 95), 0, 44, [688, 569, 570, 84]),
  ((5, 92), 0, 77, [712, 713, 714, 84]),
  ((5, 88), 0, 37, [728, 539, 540, 84]),
  ((5, 99), 0, 85, [745, 747, 21, 90])]
def zSs6 : List zST := [((6, 3), 6, 0, [220, 105, 106]),
  ((6, 11), 2, 5, [223, 224, 88]),
  ((6, 32), 5, 7, [250, 90]),
  ((6, 77), 0, 70, [680, 682, 16, 87]),
  ((6, 84), 0, 71, [684, 685, 686, 90]),
  ((6, 88), 4, 35, [531, 82]),
  ((6, 92), 0, 72, [690, 692, 17, 87]),
  ((6, 102), 0, 73, [694, 695, 696, 90]),
  ((6, 109), 1, 74, [698, 699, 87]),
  ((6, 117), 0, 46, [701, 578, 579, 88]),
  ((6, 121), 0, 51, [702, 597, 598, 88]),
  ((6, 125), 0, 75, [703, 704, 705, 90]),
  ((6, 129), 0, 65, [707, 659, 660, 85]),
  ((6, 135), 0, 76, [708, 709, 710, 90]),
  ((6, 139), 0, 78, [716, 717, 718, 90]),
  ((6, 99), 0, 79, [720, 722, 18, 87]),
  ((6, 96), 0, 80, [724, 725, 726, 90]),
  ((6, 81), 0, 81, [729, 731, 19, 87]),
  ((6, 142), 0, 82, [733, 734, 735, 90]),
  ((6, 145), 0, 83, [737, 739, 20, 87]),
  ((6, 151), 0, 84, [741, 742, 743, 90]),
  ((6, 154), 0, 86, [749, 750, 751, 90]),
  ((6, 157), 0, 95, [787, 788, 789, 88]),
  ((6, 160), 0, 63, [791, 649, 650, 90]),
  ((6, 173), 0, 96, [792, 794, 22, 87]),
  ((6, 51), 4, 26, [496, 82]),
  ((6, 176), 4, 60, [638, 82]),
  ((6, 179), 0, 97, [798, 800, 23, 87]),
  ((6, 183), 4, 10, [378, 82]),
  ((6, 187), 0, 62, [803, 645, 646, 90]),
  ((6, 47), 4, 93, [781, 82]),
  ((6, 33), 0, 42, [821, 559, 560, 88]),
  ((6, 37), 0, 102, [822, 823, 824, 90]),
  ((6, 40), 0, 64, [852, 654, 655, 90]),
  ((6, 43), 0, 61, [921, 641, 642, 90])]
def zSs7 : List zST := [((7, 1), 6, 0, [104, 105, 106]),
  ((7, 9), 5, 1, [110, 83]),
  ((7, 22), 5, 2, [141, 84]),
  ((7, 25), 2, 3, [187, 188, 85]),
  ((7, 34), 2, 4, [217, 218, 87]),
  ((7, 50), 5, 8, [331, 91]),
  ((7, 55), 1, 10, [377, 378, 82]),
  ((7, 59), 1, 11, [380, 381, 82]),
  ((7, 67), 0, 12, [383, 384, 385, 83]),
  ((7, 73), 0, 14, [391, 392, 393, 83]),
  ((7, 77), 0, 33, [522, 524, 12, 82]),
  ((7, 81), 0, 34, [526, 527, 528, 84]),
  ((7, 85), 0, 36, [534, 535, 536, 84]),
  ((7, 88), 0, 40, [549, 550, 551, 84]),
  ((7, 98), 0, 42, [558, 559, 560, 88]),
  ((7, 104), 1, 43, [565, 566, 82]),
  ((7, 306), 0, 44, [568, 569, 570, 84]),
  ((7, 309), 0, 45, [572, 573, 574, 88]),
  ((7, 313), 0, 46, [595, 578, 579, 88]),
  ((7, 317), 0, 51, [596, 597, 598, 88]),
  ((7, 108), 0, 55, [612, 613, 614, 84]),
  ((7, 114), 0, 47, [622, 582, 583, 84]),
  ((7, 133), 0, 39, [623, 546, 547, 84]),
  ((7, 137), 1, 58, [628, 629, 82]),
  ((7, 141), 1, 60, [637, 638, 82]),
  ((7, 148), 0, 61, [640, 641, 642, 90]),
  ((7, 155), 0, 62, [644, 645, 646, 90]),
  ((7, 159), 0, 65, [658, 659, 660, 85]),
  ((7, 163), 0, 67, [666, 667, 668, 90]),
  ((7, 175), 0, 69, [676, 677, 678, 87]),
  ((7, 190), 0, 71, [757, 685, 686, 90]),
  ((7, 193), 0, 88, [758, 759, 760, 90]),
  ((7, 196), 0, 82, [762, 734, 735, 90]),
  ((7, 202), 1, 26, [771, 496, 82]),
  ((7, 217), 1, 93, [780, 781, 82]),
  ((7, 220), 0, 94, [783, 784, 785, 87]),
  ((7, 224), 0, 98, [804, 805, 806, 87]),
  ((7, 227), 0, 101, [817, 818, 819, 87]),
  ((7, 230), 0, 104, [830, 831, 832, 90]),
  ((7, 233), 1, 105, [834, 835, 98]),
  ((7, 238), 0, 107, [844, 846, 24, 82]),
  ((7, 321), 0, 108, [848, 849, 850, 87]),
  ((7, 324), 0, 109, [853, 854, 855, 90]),
  ((7, 242), 1, 111, [862, 863, 82]),
  ((7, 245), 1, 113, [869, 870, 82]),
  ((7, 248), 1, 114, [872, 873, 82]),
  ((7, 251), 0, 115, [875, 876, 877, 90]),
  ((7, 257), 0, 116, [879, 881, 25, 82]),
  ((7, 261), 0, 117, [883, 885, 26, 82]),
  ((7, 265), 0, 118, [887, 889, 27, 82]),
  ((7, 269), 1, 119, [891, 892, 82]),
  ((7, 303), 1, 35, [894, 531, 82]),
  ((7, 272), 0, 121, [899, 900, 901, 91]),
  ((7, 276), 0, 122, [908, 909, 910, 91]),
  ((7, 279), 0, 124, [917, 918, 919, 87]),
  ((7, 288), 0, 128, [934, 935, 936, 91]),
  ((7, 294), 7, 0, [938, 564, 563, 97])]
def zSs8 : List zST := [((8, 1), 6, 0, [944, 105, 106]),
  ((8, 112), 1, 131, [1101, 1102, 92]),
  ((8, 119), 1, 132, [1104, 1105, 92]),
  ((8, 175), 0, 134, [1111, 1113, 28, 92]),
  ((8, 142), 0, 135, [1115, 1117, 29, 92]),
  ((8, 169), 0, 136, [1119, 1121, 30, 92]),
  ((8, 148), 0, 137, [1124, 1126, 31, 92]),
  ((8, 126), 8, 900, [1128, 438, 439, 93]),
  ((8, 138), 9, 901, [1129, 448, 449, 93]),
  ((8, 200), 0, 138, [1135, 1137, 32, 92]),
  ((8, 178), 0, 139, [1139, 1141, 33, 92]),
  ((8, 182), 0, 140, [1143, 1145, 34, 92]),
  ((8, 191), 0, 141, [1147, 1149, 35, 92]),
  ((8, 197), 0, 142, [1151, 1153, 36, 92]),
  ((8, 203), 0, 143, [1155, 1157, 37, 92]),
  ((8, 243), 0, 145, [1163, 1165, 38, 92]),
  ((8, 246), 0, 146, [1167, 1169, 39, 92]),
  ((8, 206), 0, 147, [1171, 1173, 40, 92]),
  ((8, 209), 10, 0, [1175, 192, 86]),
  ((8, 249), 0, 148, [1176, 1178, 41, 92]),
  ((8, 214), 1, 105, [1180, 835, 98]),
  ((8, 219), 0, 149, [1181, 1183, 42, 92]),
  ((8, 252), 0, 150, [1185, 1187, 43, 92]),
  ((8, 222), 0, 151, [1189, 1191, 44, 92]),
  ((8, 255), 0, 152, [1193, 1195, 45, 92]),
  ((8, 236), 0, 153, [1197, 1199, 46, 92]),
  ((8, 240), 0, 154, [1201, 1203, 47, 92]),
  ((8, 225), 0, 155, [1205, 1207, 48, 92]),
  ((8, 285), 7, 0, [1209, 564, 563, 97]),
  ((8, 294), 0, 156, [1210, 1212, 49, 92]),
  ((8, 229), 0, 157, [1214, 1216, 50, 92]),
  ((8, 270), 0, 158, [1218, 1220, 51, 92]),
  ((8, 267), 1, 159, [1222, 1223, 92]),
  ((8, 273), 0, 160, [1225, 1227, 52, 92]),
  ((8, 279), 0, 161, [1229, 1231, 53, 92]),
  ((8, 233), 0, 162, [1233, 1235, 54, 92]),
  ((8, 260), 0, 164, [1242, 1244, 55, 92]),
  ((8, 264), 0, 166, [1250, 1252, 56, 92]),
  ((8, 345), 1, 169, [1262, 1263, 92]),
  ((8, 348), 0, 170, [1265, 1267, 57, 92]),
  ((8, 307), 0, 171, [1269, 1271, 58, 92]),
  ((8, 351), 0, 173, [1277, 1279, 59, 92]),
  ((8, 354), 0, 175, [1285, 1287, 60, 92]),
  ((8, 342), 0, 176, [1289, 1291, 61, 92]),
  ((8, 333), 0, 177, [1293, 1295, 62, 92]),
  ((8, 327), 0, 178, [1297, 1299, 63, 92]),
  ((8, 304), 0, 179, [1301, 1303, 64, 92]),
  ((8, 330), 0, 180, [1305, 1307, 65, 92]),
  ((8, 323), 0, 181, [1309, 1311, 66, 92]),
  ((8, 336), 0, 182, [1313, 1315, 67, 92]),
  ((8, 339), 0, 183, [1317, 1319, 68, 92]),
  ((8, 317), 0, 184, [1321, 1323, 69, 92]),
  ((8, 320), 0, 185, [1325, 1327, 70, 92]),
  ((8, 357), 1, 189, [1341, 1342, 92]),
  ((8, 363), 1, 192, [1352, 1353, 92]),
  ((8, 366), 0, 193, [1355, 1357, 71, 92]),
  ((8, 360), 0, 194, [1359, 1361, 72, 92]),
  ((8, 369), 0, 195, [1363, 1365, 73, 92]),
  ((8, 372), 0, 198, [1375, 1377, 74, 92]),
  ((8, 375), 0, 199, [1379, 1381, 75, 92]),
  ((8, 383), 0, 202, [1391, 1393, 76, 92]),
  ((8, 378), 0, 203, [1395, 1397, 77, 92]),
  ((8, 386), 1, 205, [1404, 1405, 92]),
  ((8, 392), 1, 207, [1411, 1412, 92]),
  ((8, 389), 0, 208, [1414, 1416, 78, 92]),
  ((8, 395), 0, 209, [1418, 1420, 79, 92]),
  ((8, 399), 0, 212, [1430, 1432, 80, 92])]
def zSs9 : List zST := [((9, 9), 2, 0, [101, 102, 82]),
  ((9, 13), 0, 9, [373, 374, 375, 82]),
  ((9, 18), 0, 13, [387, 388, 389, 82]),
  ((9, 23), 0, 32, [518, 519, 520, 82]),
  ((9, 28), 0, 54, [608, 609, 610, 82]),
  ((9, 33), 0, 56, [618, 619, 620, 82]),
  ((9, 38), 0, 57, [624, 625, 626, 82]),
  ((9, 42), 0, 59, [633, 634, 635, 82]),
  ((9, 46), 0, 66, [662, 663, 664, 82]),
  ((9, 51), 0, 68, [672, 673, 674, 82]),
  ((9, 55), 0, 87, [753, 754, 755, 82]),
  ((9, 59), 0, 89, [763, 764, 765, 82]),
  ((9, 63), 0, 90, [767, 768, 769, 82]),
  ((9, 67), 0, 91, [772, 773, 774, 82]),
  ((9, 71), 0, 92, [776, 777, 778, 82]),
  ((9, 75), 0, 99, [809, 810, 811, 82]),
  ((9, 80), 0, 100, [813, 814, 815, 82]),
  ((9, 84), 0, 103, [826, 827, 828, 82]),
  ((9, 88), 0, 106, [840, 841, 842, 82]),
  ((9, 92), 0, 110, [858, 859, 860, 82]),
  ((9, 96), 0, 112, [865, 866, 867, 82]),
  ((9, 100), 0, 120, [895, 896, 897, 82]),
  ((9, 104), 0, 123, [913, 914, 915, 82]),
  ((9, 108), 0, 125, [922, 923, 924, 82]),
  ((9, 112), 0, 126, [926, 927, 928, 82]),
  ((9, 116), 0, 127, [930, 931, 932, 82]),
  ((9, 12), 2, 129, [941, 942, 92]),
  ((9, 17), 0, 130, [1097, 1098, 1099, 92]),
  ((9, 22), 0, 133, [1107, 1108, 1109, 92]),
  ((9, 27), 0, 144, [1159, 1160, 1161, 92]),
  ((9, 32), 0, 163, [1237, 1238, 1239, 92]),
  ((9, 37), 0, 165, [1246, 1247, 1248, 92]),
  ((9, 41), 0, 167, [1254, 1255, 1256, 92]),
  ((9, 45), 0, 168, [1258, 1259, 1260, 92]),
  ((9, 50), 0, 172, [1273, 1274, 1275, 92]),
  ((9, 54), 0, 174, [1281, 1282, 1283, 92]),
  ((9, 58), 0, 186, [1329, 1330, 1331, 92]),
  ((9, 62), 0, 187, [1333, 1334, 1335, 92]),
  ((9, 66), 0, 188, [1337, 1338, 1339, 92]),
  ((9, 70), 0, 190, [1344, 1345, 1346, 92]),
  ((9, 74), 0, 191, [1348, 1349, 1350, 92]),
  ((9, 79), 0, 196, [1367, 1368, 1369, 92]),
  ((9, 83), 0, 197, [1371, 1372, 1373, 92]),
  ((9, 87), 0, 200, [1383, 1384, 1385, 92]),
  ((9, 91), 0, 201, [1387, 1388, 1389, 92]),
  ((9, 95), 0, 204, [1400, 1401, 1402, 92]),
  ((9, 99), 0, 206, [1407, 1408, 1409, 92]),
  ((9, 103), 0, 210, [1422, 1423, 1424, 92]),
  ((9, 107), 0, 211, [1426, 1427, 1428, 92]),
  ((9, 111), 0, 213, [1434, 1435, 1436, 92]),
  ((9, 115), 0, 214, [1438, 1439, 1440, 92]),
  ((9, 120), 0, 215, [1442, 1443, 1444, 92])]
def zSs10 : List zST := []
def zSs11 : List zST := []
def zSs12 : List zST := []
def zSs13 : List zST := []
def zSs14 : List zST := []
def zSs15 : List zST := []
def zSs (o : Nat) : List zST := match o with
  | 0 => zSs0
  | 1 => zSs1
  | 2 => zSs2
  | 3 => zSs3
  | 4 => zSs4
  | 5 => zSs5
  | 6 => zSs6
  | 7 => zSs7
  | 8 => zSs8
  | 9 => zSs9
  | 10 => zSs10
  | 11 => zSs11
  | 12 => zSs12
  | 13 => zSs13
  | 14 => zSs14
  | 15 => zSs15
  | _ => []
/-- the field sites: class, entry; class and field; place of the word -/
abbrev zGT : Type := (Nat × Nat) × Nat × Nat × Nat
def zGs0 : List zGT := [((0, 13), 0, 0, 194),
  ((0, 19), 0, 1, 197),
  ((0, 22), 0, 2, 200),
  ((0, 25), 0, 3, 203)]
def zGs1 : List zGT := [((1, 9), 1, 0, 144),
  ((1, 15), 1, 1, 147),
  ((1, 18), 1, 2, 150),
  ((1, 21), 1, 3, 153),
  ((1, 24), 1, 4, 157),
  ((1, 27), 1, 5, 159),
  ((1, 34), 1, 6, 160),
  ((1, 30), 1, 7, 165)]
def zGs2 : List zGT := [((2, 40), 1, 0, 145),
  ((2, 43), 1, 1, 148),
  ((2, 53), 1, 2, 151),
  ((2, 73), 1, 3, 155),
  ((2, 66), 1, 6, 163),
  ((2, 9), 2, 0, 230),
  ((2, 21), 2, 1, 233),
  ((2, 25), 2, 2, 236)]
def zGs3 : List zGT := [((3, 9), 3, 0, 113),
  ((3, 15), 3, 1, 114),
  ((3, 28), 3, 2, 116),
  ((3, 41), 3, 3, 117),
  ((3, 48), 3, 4, 118),
  ((3, 31), 3, 5, 119),
  ((3, 19), 3, 6, 120),
  ((3, 47), 1, 6, 161),
  ((3, 69), 1, 7, 167)]
def zGs4 : List zGT := [((4, 9), 4, 0, 334),
  ((4, 28), 4, 1, 336),
  ((4, 15), 4, 2, 338)]
def zGs5 : List zGT := [((5, 68), 1, 3, 154),
  ((5, 77), 1, 6, 164),
  ((5, 9), 5, 0, 253),
  ((5, 15), 5, 1, 256),
  ((5, 40), 5, 2, 258),
  ((5, 44), 5, 3, 260),
  ((5, 47), 5, 4, 263),
  ((5, 50), 5, 5, 266),
  ((5, 18), 5, 6, 269),
  ((5, 53), 5, 7, 270),
  ((5, 22), 5, 8, 271),
  ((5, 25), 5, 9, 273),
  ((5, 28), 5, 10, 274),
  ((5, 31), 5, 11, 277),
  ((5, 34), 5, 12, 280),
  ((5, 37), 5, 13, 281)]
def zGs6 : List zGT := [((6, 164), 0, 0, 195),
  ((6, 167), 0, 1, 198),
  ((6, 170), 0, 2, 201),
  ((6, 161), 0, 3, 205),
  ((6, 54), 2, 0, 231),
  ((6, 58), 2, 1, 234),
  ((6, 62), 2, 2, 237),
  ((6, 65), 5, 0, 254),
  ((6, 113), 5, 2, 259),
  ((6, 68), 5, 3, 261),
  ((6, 71), 5, 4, 264),
  ((6, 74), 5, 5, 267),
  ((6, 106), 5, 10, 275),
  ((6, 148), 5, 11, 279),
  ((6, 24), 6, 0, 312),
  ((6, 28), 6, 1, 313),
  ((6, 12), 6, 2, 314),
  ((6, 20), 6, 3, 316)]
def zGs7 : List zGT := [((7, 63), 3, 1, 115),
  ((7, 117), 1, 0, 146),
  ((7, 121), 1, 1, 149),
  ((7, 124), 1, 2, 152),
  ((7, 127), 1, 3, 156),
  ((7, 130), 1, 4, 158),
  ((7, 80), 1, 6, 162),
  ((7, 91), 1, 7, 166),
  ((7, 208), 0, 0, 196),
  ((7, 211), 0, 1, 199),
  ((7, 214), 0, 2, 202),
  ((7, 154), 0, 3, 204),
  ((7, 205), 2, 0, 232),
  ((7, 282), 2, 1, 235),
  ((7, 285), 2, 2, 238),
  ((7, 166), 5, 0, 255),
  ((7, 178), 5, 1, 257),
  ((7, 181), 5, 3, 262),
  ((7, 184), 5, 4, 265),
  ((7, 187), 5, 5, 268),
  ((7, 252), 5, 8, 272),
  ((7, 169), 5, 10, 276),
  ((7, 172), 5, 11, 278),
  ((7, 199), 5, 13, 282),
  ((7, 94), 6, 2, 315),
  ((7, 144), 6, 3, 317),
  ((7, 253), 4, 0, 335),
  ((7, 256), 4, 1, 337),
  ((7, 291), 4, 2, 339),
  ((7, 10), 7, 0, 347),
  ((7, 18), 7, 1, 348),
  ((7, 70), 7, 2, 349),
  ((7, 28), 7, 3, 350),
  ((7, 37), 7, 4, 351),
  ((7, 41), 7, 5, 352),
  ((7, 46), 7, 6, 353),
  ((7, 51), 7, 7, 354)]
def zGs8 : List zGT := [((8, 116), 8, 0, 949),
  ((8, 9), 8, 1, 950),
  ((8, 13), 8, 2, 951),
  ((8, 18), 8, 3, 952),
  ((8, 21), 8, 4, 953),
  ((8, 24), 8, 5, 954),
  ((8, 27), 8, 6, 955),
  ((8, 30), 8, 7, 956),
  ((8, 33), 8, 8, 957),
  ((8, 276), 8, 9, 958),
  ((8, 282), 8, 10, 959),
  ((8, 36), 8, 11, 960),
  ((8, 39), 8, 12, 961),
  ((8, 42), 8, 13, 962),
  ((8, 45), 8, 14, 963),
  ((8, 48), 8, 15, 964),
  ((8, 51), 8, 16, 965),
  ((8, 54), 8, 17, 966),
  ((8, 57), 8, 18, 967),
  ((8, 60), 8, 19, 968),
  ((8, 291), 8, 20, 969),
  ((8, 63), 8, 21, 970),
  ((8, 311), 8, 22, 971),
  ((8, 314), 8, 23, 972),
  ((8, 301), 8, 24, 973),
  ((8, 298), 8, 25, 974),
  ((8, 67), 8, 26, 975),
  ((8, 70), 8, 27, 976),
  ((8, 73), 8, 28, 977),
  ((8, 76), 8, 29, 978),
  ((8, 123), 8, 30, 979),
  ((8, 132), 8, 31, 980),
  ((8, 135), 8, 32, 981),
  ((8, 166), 8, 33, 982),
  ((8, 172), 8, 34, 983),
  ((8, 185), 8, 35, 984),
  ((8, 188), 8, 36, 985),
  ((8, 194), 8, 37, 986),
  ((8, 162), 8, 38, 987),
  ((8, 79), 8, 39, 988),
  ((8, 83), 8, 40, 989),
  ((8, 86), 8, 41, 990),
  ((8, 89), 8, 42, 991),
  ((8, 92), 8, 43, 992),
  ((8, 97), 8, 44, 993),
  ((8, 100), 8, 45, 994),
  ((8, 103), 8, 46, 995),
  ((8, 106), 8, 47, 996),
  ((8, 109), 8, 48, 997)]
def zGs9 : List zGT := []
def zGs10 : List zGT := []
def zGs11 : List zGT := []
def zGs12 : List zGT := []
def zGs13 : List zGT := []
def zGs14 : List zGT := []
def zGs15 : List zGT := []
def zGs (o : Nat) : List zGT := match o with
  | 0 => zGs0
  | 1 => zGs1
  | 2 => zGs2
  | 3 => zGs3
  | 4 => zGs4
  | 5 => zGs5
  | 6 => zGs6
  | 7 => zGs7
  | 8 => zGs8
  | 9 => zGs9
  | 10 => zGs10
  | 11 => zGs11
  | 12 => zGs12
  | 13 => zGs13
  | 14 => zGs14
  | 15 => zGs15
  | _ => []
/-- the class sites: class, entry; class (or kind of array); place of the word -/
def zHs : List ((Nat × Nat) × Nat × Nat) := [((9, 7), 7, 99), ((7, 7), 3, 107), ((7, 16), 1, 137), ((7, 23), 0, 185), ((7, 32), 6, 215), ((6, 9), 2, 221), ((6, 18), 5, 246), ((7, 44), 4, 327), ((9, 10), 8, 939), ((8, 16), 25, 945), ((8, 95), 26, 947)]
def zKs : List ((Nat × Nat) × Int32 × Nat) := [((10, 265), (1431655765), 837), ((10, 266), (858993459), 838), ((10, 267), (252645135), 839), ((7, 326), (1103515245), 857), ((8, 382), (1103515245), 1399)]
def zLs : List ((Nat × Nat) × Int64 × Nat) := [((7, 112), (-2), 617), ((8, 258), (-2), 1241)]
/-- the texts: class, entry; which text (its cell is 3 more) -/
def zXs : List ((Nat × Nat) × Nat) := [((3, 117), 0), ((3, 119), 1), ((3, 121), 2), ((3, 123), 3), ((3, 125), 4), ((3, 127), 5), ((8, 146), 0), ((8, 152), 1), ((8, 154), 2), ((8, 156), 3), ((8, 158), 4), ((8, 160), 5)]
def zNs : List ((Nat × Nat) × Nat × Nat) := [((7, 9), 1, 109), ((7, 22), 2, 140), ((6, 32), 7, 249), ((7, 50), 8, 330), ((3, 51), 10, 403), ((3, 97), 26, 495), ((3, 86), 27, 498), ((1, 37), 35, 530), ((1, 59), 26, 557), ((2, 69), 35, 576), ((5, 84), 10, 670), ((6, 88), 35, 689), ((6, 51), 26, 796), ((6, 176), 60, 797), ((6, 183), 10, 802), ((6, 47), 93, 808), ((4, 37), 10, 912)]
theorem zmx : lw_tbl[193]? = some (.code Lib.Math.max.name Lib.Math.max.code 2 (some .int)) := by decide +kernel
theorem zmn : lw_tbl[905]? = some (.code Lib.Math.min.name Lib.Math.min.code 2 (some .int)) := by decide +kernel
def zUnP : Nat := 631
theorem zUnW : lw_tbl[zUnP]? = some (.fieldLink "SagaDesk" 300 "SagaDesk" "UNDER" "[I") := by decide +kernel
def zXt : List String := ["add", "take", "move", "hold", "swap", "mark"]
end
section
/-! ===== the small machine: cells by number, ints, references and longs in rows of their own; a method's run is a relation ===== -/
abbrev zM : Type := (Nat → Nat → Int32) × (Nat → Nat → Option Nat) × (Nat → Nat → Int64) × (Nat → Nat × Nat) × Nat × Nat
def zi (M : zM) : Nat → Nat → Int32 := M.1
def zr (M : zM) : Nat → Nat → Option Nat := M.2.1
def zl (M : zM) : Nat → Nat → Int64 := M.2.2.1
def zk (M : zM) : Nat → Nat × Nat := M.2.2.2.1
def zn (M : zM) : Nat := M.2.2.2.2.1
def zs (M : zM) : Nat := M.2.2.2.2.2
def zup {α : Type} (f : Nat → Nat → α) (a k : Nat) (v : α) : Nat → Nat → α := fun b j => if b = a ∧ j = k then v else f b j
def zwi (M : zM) (a k : Nat) (v : Int32) : zM := (zup M.1 a k v, M.2)
def zwr (M : zM) (a k : Nat) (v : Option Nat) : zM := (M.1, zup M.2.1 a k v, M.2.2)
def zwl (M : zM) (a k : Nat) (v : Int64) : zM := (M.1, M.2.1, zup M.2.2.1 a k v, M.2.2.2)
/-- a new cell of a kind -/
def znw (M : zM) (t n c : Nat) : zM := (M.1, M.2.1, M.2.2.1, (fun a => if a = M.2.2.2.2.1 then (t, n) else M.2.2.2.1 a), M.2.2.2.2.1 + 1, M.2.2.2.2.2 + c)
/-- n ints of cell a0 from s on come to cell a from d on -/
def zcp (M : zM) (a0 s a d n : Nat) : zM := ((fun b j => if b = a ∧ d ≤ j ∧ j < d + n then M.1 a0 (s + (j - d)) else M.1 b j), M.2)
/-- kinds: 0 .. 19 objects of that class; 20 int rows, 21 long rows, 22 .. rows of references -/
def zN (c : Nat) : Nat := (zFk.getD c []).length
def zF (c k : Nat) : Nat := (zFk.getD c []).getD k 0
def zgv (M : zM) (t a k : Nat) : Value := if t = 1 then va_rf (zr M a k) else .int (zi M a k)
def zMt (y : Nat) : zMT := if y < 900 then zMs.getD y (⟨"", "", ""⟩, ⟨#[]⟩, 0, none, 0, 0, 0, 0) else if y = 900 then zMtL else if y = 901 then zMtC else (x, code, maxLocals, ret, 9, 1, 2, 0)
def zNm (y : Nat) : MethodName := (zMt y).1
def zB (y : Nat) : ByteArray := (zMt y).2.1
def zML (y : Nat) : Nat := (zMt y).2.2.1
def zRt (y : Nat) : Option FieldType := (zMt y).2.2.2.1
def zO (y : Nat) : Nat := (zMt y).2.2.2.2.1
def zA (y : Nat) : Nat := (zMt y).2.2.2.2.2.1
def zRk (y : Nat) : Nat := (zMt y).2.2.2.2.2.2.1
def zP (y : Nat) : Nat := (zMt y).2.2.2.2.2.2.2
def zCall (o i : Nat) : Option (Nat × Nat) := ((zSs o).find? (fun q => q.1 == (o, i))).map (fun q => (q.2.1, q.2.2.1))
def zFld (o i : Nat) : Option (Nat × Nat) := ((zGs o).find? (fun q => q.1 == (o, i))).map (fun q => (q.2.1, q.2.2.1))
def zCls (o i : Nat) : Option Nat := (zHs.find? (fun q => q.1 == (o, i))).map (fun q => q.2.1)
def zKi (o i : Nat) : Option Int32 := (zKs.find? (fun q => q.1 == (o, i))).map (fun q => q.2.1)
def zKl (o i : Nat) : Option Int64 := (zLs.find? (fun q => q.1 == (o, i))).map (fun q => q.2.1)
def zKx (o i : Nat) : Option Nat := (zXs.find? (fun q => q.1 == (o, i))).map (fun q => q.2)
def zTx (i : Nat) : List Int32 := ((zXt.getD i "").toList.map (fun c => Int32.ofNat c.toNat))
/-- the static rows: which cell -/
def zSt (o i : Nat) : Option Nat := if o = 7 ∧ i = 300 then some 1 else if o = 3 ∧ i = 80 then some 2 else none
def zld (l : List (Nat × Value)) (i : Nat) : Option Value := (l.find? (fun q => q.1 == i)).map (fun q => q.2)
def zst (l : List (Nat × Value)) (i : Nat) (v : Value) : List (Nat × Value) := (i, v) :: l.filter (fun q => !(q.1 == i) && !(q.1 + 1 == i && q.2.category == 2))
def zcc (c : ClassFile.Cond) (x y : Int32) : Prop := match c with
  | .eq => x = y
  | .ne => ¬ x = y
  | .lt => x < y
  | .ge => y ≤ x
  | .gt => y < x
  | .le => x ≤ y
def zbr (p a b : Prop) : Prop := (p → a) ∧ (¬ p → b)
def zct (st : List Value) : Nat := (st.map fun v => v.category).sum
abbrev zKT : Type := Nat → List (Nat × Value) → List Value → zM → Prop
abbrev zRT : Type := Nat → List Value → zM → Option Value → zM → Prop
/-- an operation on two ints -/
def zb2 (m : Nat) (k : zKT) (pc : Nat) (l : List (Nat × Value)) (st : List Value) (M : zM) (n : Nat) (f : Int32 → Int32 → Int32) : Prop :=
  n = 1 ∧ ∃ x y st', st = .int y :: .int x :: st' ∧ k (pc + 1) l (.int (f x y) :: st') M
def zldI (k : zKT) (pc : Nat) (l : List (Nat × Value)) (st : List Value) (M : zM) (i d : Nat) : Prop := ∃ x : Int32, zld l i = some (.int x) ∧ k (pc + d) l (.int x :: st) M
def zldA (k : zKT) (pc : Nat) (l : List (Nat × Value)) (st : List Value) (M : zM) (i d : Nat) : Prop := ∃ r : Option Nat, zld l i = some (va_rf r) ∧ k (pc + d) l (va_rf r :: st) M
def zstI (m : Nat) (k : zKT) (pc : Nat) (l : List (Nat × Value)) (st : List Value) (M : zM) (i d : Nat) : Prop := i < zML m ∧ ∃ (x : Int32) (st' : List Value), st = .int x :: st' ∧ k (pc + d) (zst l i (.int x)) st' M
def zstA (m : Nat) (k : zKT) (pc : Nat) (l : List (Nat × Value)) (st : List Value) (M : zM) (i d : Nat) : Prop := i < zML m ∧ ∃ (r : Option Nat) (st' : List Value), st = va_rf r :: st' ∧ k (pc + d) (zst l i (va_rf r)) st' M
def zCallS (R : zRT) (k : zKT) (pc : Nat) (l : List (Nat × Value)) (M : zM) (y : Nat) (as rest : List Value) : Prop := zct rest ≤ 8 ∧ ∃ (w : Option Value) (M1 : zM), R y as M w M1 ∧ k (pc + 3) l (w.toList ++ rest) M1
/-- rows of rows: the outer cell, then n rows of ints -/
def znm2 (M : zM) (t n j : Nat) : zM :=
  (M.1, (fun a i => if a = M.2.2.2.2.1 ∧ i < n then some (M.2.2.2.2.1 + 1 + i) else M.2.1 a i), M.2.2.1, (fun a => if a = M.2.2.2.2.1 then (t, n) else if M.2.2.2.2.1 < a ∧ a ≤ M.2.2.2.2.1 + n then (20, j) else M.2.2.2.1 a), M.2.2.2.2.1 + 1 + n, M.2.2.2.2.2 + n + n * j)
/-- rows of rows of rows: the outer cell, then n times a row of q rows of j ints -/
def znm3 (M : zM) (n q j : Nat) : zM :=
  (M.1, (fun a i => if a = M.2.2.2.2.1 ∧ i < n then some (M.2.2.2.2.1 + 1 + i * (1 + q)) else if M.2.2.2.2.1 < a ∧ a ≤ M.2.2.2.2.1 + n * (1 + q) ∧ (a - M.2.2.2.2.1 - 1) % (1 + q) = 0 ∧ i < q then some (a + 1 + i) else M.2.1 a i), M.2.2.1,
    (fun a => if a = M.2.2.2.2.1 then (26, n) else if M.2.2.2.2.1 < a ∧ a ≤ M.2.2.2.2.1 + n * (1 + q) then (if (a - M.2.2.2.2.1 - 1) % (1 + q) = 0 then (25, q) else (20, j)) else M.2.2.2.1 a), M.2.2.2.2.1 + 1 + n * (1 + q), M.2.2.2.2.2 + n + n * (q + q * j))
/-- what a method's end asks of its answer -/
def zRet (y : Nat) (v : Value) : Prop := match zRk y with
  | 1 => ∃ x : Int32, v = .int x
  | 2 => v = .int 0 ∨ v = .int 1
  | 3 => False
  | _ => False
/-- one instruction -/
def zSem (R : zRT) (m : Nat) (k : zKT) (v : Option Value) (M' : zM) (pc : Nat) (l : List (Nat × Value)) (st : List Value) (M : zM) (n : Nat) (i : Instr) : Prop := match i with
  | .aconst_null => n = 1 ∧ k (pc + 1) l (.null :: st) M
  | .iconst z => n = 1 ∧ k (pc + 1) l (.int (Int32.ofInt z) :: st) M
  | .bipush z => n = 2 ∧ k (pc + 2) l (.int (Int8.ofInt z).toInt32 :: st) M
  | .sipush z => n = 3 ∧ k (pc + 3) l (.int (Int16.ofInt z).toInt32 :: st) M
  | .lconst z => n = 1 ∧ k (pc + 1) l (.long (Int64.ofNat (z : Nat)) :: st) M
  | .ldc ix => n = 2 ∧ ((∃ x, zKi (zO m) ix = some x ∧ k (pc + 2) l (.int x :: st) M) ∨ (∃ x, zKx (zO m) ix = some x ∧ k (pc + 2) l (.ref (3 + x) :: st) M))
  | .ldc_w ix => n = 3 ∧ ∃ x, zKi (zO m) ix = some x ∧ k (pc + 3) l (.int x :: st) M
  | .ldc2_w ix => n = 3 ∧ ∃ x, zKl (zO m) ix = some x ∧ k (pc + 3) l (.long x :: st) M
  | .iload_n j => n = 1 ∧ zldI k pc l st M (j : Nat) 1
  | .iload j => n = 2 ∧ zldI k pc l st M j 2
  | .aload_n j => n = 1 ∧ zldA k pc l st M (j : Nat) 1
  | .aload j => n = 2 ∧ zldA k pc l st M j 2
  | .istore_n j => n = 1 ∧ zstI m k pc l st M (j : Nat) 1
  | .istore j => n = 2 ∧ zstI m k pc l st M j 2
  | .astore_n j => n = 1 ∧ zstA m k pc l st M (j : Nat) 1
  | .astore j => n = 2 ∧ zstA m k pc l st M j 2
  | .iinc j z => n = 3 ∧ j < zML m ∧ ∃ x : Int32, zld l j = some (.int x) ∧ k (pc + 3) (zst l j (.int (x + Int32.ofInt z))) st M
  | .iadd => zb2 m k pc l st M n (fun x y => x + y)
  | .isub => zb2 m k pc l st M n (fun x y => x - y)
  | .imul => zb2 m k pc l st M n (fun x y => x * y)
  | .iand => zb2 m k pc l st M n (fun x y => x &&& y)
  | .ior => zb2 m k pc l st M n (fun x y => x ||| y)
  | .ixor => zb2 m k pc l st M n (fun x y => x ^^^ y)
  | .ishl => zb2 m k pc l st M n (fun x y => x <<< (y &&& 31))
  | .ishr => zb2 m k pc l st M n (fun x y => x >>> (y &&& 31))
  | .iushr => zb2 m k pc l st M n (fun x y => (x.toUInt32 >>> (y.toUInt32 &&& Int32.toUInt32 31)).toInt32)
  | .idiv => n = 1 ∧ ∃ x y st', st = .int y :: .int x :: st' ∧ ¬ y = 0 ∧ k (pc + 1) l (.int (x / y) :: st') M
  | .irem => n = 1 ∧ ∃ x y st', st = .int y :: .int x :: st' ∧ ¬ y = 0 ∧ k (pc + 1) l (.int (x - x / y * y) :: st') M
  | .ineg => n = 1 ∧ ∃ x st', st = .int x :: st' ∧ k (pc + 1) l (.int (-x) :: st') M
  | .i2b => n = 1 ∧ ∃ x st', st = .int x :: st' ∧ k (pc + 1) l (.int x.toInt8.toInt32 :: st') M
  | .ladd => n = 1 ∧ ∃ x y st', st = .long y :: .long x :: st' ∧ k (pc + 1) l (.long (x + y) :: st') M
  | .lcmp => n = 1 ∧ ∃ x y st', st = .long y :: .long x :: st' ∧ k (pc + 1) l (.int (lg_cmp x y) :: st') M
  | .dup => n = 1 ∧ ∃ a st', st = a :: st' ∧ a.category = 1 ∧ k (pc + 1) l (a :: a :: st') M
  | .dup2 => n = 1 ∧ ∃ a b st', st = a :: b :: st' ∧ a.category = 1 ∧ b.category = 1 ∧ k (pc + 1) l (a :: b :: a :: b :: st') M
  | .pop => n = 1 ∧ ∃ a st', st = a :: st' ∧ a.category = 1 ∧ k (pc + 1) l st' M
  | .goto off => n = 3 ∧ ∃ tgt : Nat, (pc : Int) + off = tgt ∧ k tgt l st M
  | .ifCond c off => n = 3 ∧ ∃ (x : Int32) (st' : List Value) (tgt : Nat), st = .int x :: st' ∧ (pc : Int) + off = tgt ∧ zbr (zcc c x 0) (k tgt l st' M) (k (pc + 3) l st' M)
  | .if_icmp c off => n = 3 ∧ ∃ (x y : Int32) (st' : List Value) (tgt : Nat), st = .int y :: .int x :: st' ∧ (pc : Int) + off = tgt ∧ zbr (zcc c x y) (k tgt l st' M) (k (pc + 3) l st' M)
  | .ifnull off => n = 3 ∧ ∃ (r : Option Nat) (st' : List Value) (tgt : Nat), st = va_rf r :: st' ∧ (pc : Int) + off = tgt ∧ zbr (r = none) (k tgt l st' M) (k (pc + 3) l st' M)
  | .ifnonnull off => n = 3 ∧ ∃ (r : Option Nat) (st' : List Value) (tgt : Nat), st = va_rf r :: st' ∧ (pc : Int) + off = tgt ∧ zbr (r = none) (k (pc + 3) l st' M) (k tgt l st' M)
  | .tableswitch d lo hi offs => ∃ (x : Int32) (st' : List Value), st = .int x :: st' ∧ zbr (x.toInt < lo ∨ hi < x.toInt) (∃ tgt : Nat, (pc : Int) + d = tgt ∧ k tgt l st' M) (∃ (off : Int) (tgt : Nat), offs[(x.toInt - lo).toNat]? = some off ∧ (pc : Int) + off = tgt ∧ k tgt l st' M)
  | .getfield ix => n = 3 ∧ ∃ (a : Nat) (st' : List Value) (c f : Nat), st = .ref a :: st' ∧ zFld (zO m) ix = some (c, f) ∧ zk M a = (c, 0) ∧ k (pc + 3) l (zgv M (zF c f) a f :: st') M
  | .putfield ix => n = 3 ∧ ∃ (w : Value) (a : Nat) (st' : List Value) (c f : Nat), st = w :: .ref a :: st' ∧ zFld (zO m) ix = some (c, f) ∧ zk M a = (c, 0) ∧ (((zCl.getD c ("", zT0, 0)).2.1 f).2.2.2 = true → (zNm m).name = "<init>" ∧ zO m = c) ∧
      ((zF c f = 0 ∧ ∃ x, w = .int x ∧ k (pc + 3) l st' (zwi M a f x)) ∨ (zF c f = 2 ∧ ∃ x, w = .int x ∧ (x = 0 ∨ x = 1) ∧ k (pc + 3) l st' (zwi M a f x)) ∨ (zF c f = 1 ∧ ∃ r, w = va_rf r ∧ k (pc + 3) l st' (zwr M a f r)))
  | .getstatic ix => n = 3 ∧ ∃ a, zSt (zO m) ix = some a ∧ k (pc + 3) l (.ref a :: st) M
  | .arraylength => n = 1 ∧ ∃ (a : Nat) (st' : List Value) (N : Nat), st = .ref a :: st' ∧ (zk M a = (20, N) ∨ zk M a = (21, N) ∨ (a < 3 ∧ zk M a = (30, N))) ∧ k (pc + 1) l (.int (Int32.ofNat N) :: st') M
  | .iaload => n = 1 ∧ ∃ (j : Int32) (a : Nat) (st' : List Value) (N : Nat), st = .int j :: .ref a :: st' ∧ (zk M a = (20, N) ∨ (a < 3 ∧ zk M a = (30, N))) ∧ vp_in j N ∧ k (pc + 1) l (.int (zi M a j.toNatClampNeg) :: st') M
  | .laload => n = 1 ∧ ∃ (j : Int32) (a : Nat) (st' : List Value) (N : Nat), st = .int j :: .ref a :: st' ∧ zk M a = (21, N) ∧ vp_in j N ∧ k (pc + 1) l (.long (zl M a j.toNatClampNeg) :: st') M
  | .aaload => n = 1 ∧ ∃ (j : Int32) (a : Nat) (st' : List Value) (t N : Nat), st = .int j :: .ref a :: st' ∧ zk M a = (t, N) ∧ 22 ≤ t ∧ t < 27 ∧ vp_in j N ∧ k (pc + 1) l (va_rf (zr M a j.toNatClampNeg) :: st') M
  | .iastore => n = 1 ∧ ∃ (x j : Int32) (a : Nat) (st' : List Value) (N : Nat), st = .int x :: .int j :: .ref a :: st' ∧ zk M a = (20, N) ∧ vp_in j N ∧ k (pc + 1) l st' (zwi M a j.toNatClampNeg x)
  | .lastore => n = 1 ∧ ∃ (x : Int64) (j : Int32) (a : Nat) (st' : List Value) (N : Nat), st = .long x :: .int j :: .ref a :: st' ∧ zk M a = (21, N) ∧ vp_in j N ∧ k (pc + 1) l st' (zwl M a j.toNatClampNeg x)
  | .aastore => n = 1 ∧ ∃ (b : Nat) (j : Int32) (a : Nat) (st' : List Value) (t N : Nat), st = .ref b :: .int j :: .ref a :: st' ∧ zk M a = (t, N) ∧ ((t = 22 ∧ zk M b = (1, 0)) ∨ (t = 23 ∧ zk M b = (5, 0)) ∨ (t = 24 ∧ zk M b = (4, 0))) ∧ vp_in j N ∧ k (pc + 1) l st' (zwr M a j.toNatClampNeg (some b))
  | .new ix => n = 3 ∧ ∃ c, zCls (zO m) ix = some c ∧ c < 9 ∧ k (pc + 3) l (.ref (zn M) :: st) (znw M c 0 (zN c))
  | .newarray t => n = 2 ∧ ∃ (z : Int32) (st' : List Value) (N : Nat), st = .int z :: st' ∧ ¬ z < 0 ∧ z.toNatClampNeg = N ∧ N ≤ 65536 ∧ ((t = .int ∧ k (pc + 2) l (.ref (zn M) :: st') (znw M 20 N N)) ∨ (t = .long ∧ k (pc + 2) l (.ref (zn M) :: st') (znw M 21 N N)))
  | .anewarray ix => n = 3 ∧ ∃ (z : Int32) (st' : List Value) (N c t : Nat), st = .int z :: st' ∧ ¬ z < 0 ∧ z.toNatClampNeg = N ∧ N ≤ 65536 ∧ zCls (zO m) ix = some c ∧ ((c = 1 ∧ t = 22) ∨ (c = 5 ∧ t = 23) ∨ (c = 4 ∧ t = 24)) ∧ k (pc + 3) l (.ref (zn M) :: st') (znw M t N N)
  | .multianewarray ix d => n = 4 ∧ ∃ (z j : Int32) (st' : List Value) (N J : Nat), ¬ z < 0 ∧ ¬ j < 0 ∧ z.toNatClampNeg = N ∧ j.toNatClampNeg = J ∧ N ≤ 4096 ∧ J ≤ 4096 ∧
      ((d = 2 ∧ zCls (zO m) ix = some 25 ∧ st = .int j :: .int z :: st' ∧ k (pc + 4) l (.ref (zn M) :: st') (znm2 M 25 N J)) ∨
       (d = 3 ∧ zCls (zO m) ix = some 26 ∧ ∃ (y : Int32) (K : Nat), ¬ y < 0 ∧ y.toNatClampNeg = K ∧ K ≤ 4096 ∧ st = .int j :: .int y :: .int z :: st' ∧ k (pc + 4) l (.ref (zn M) :: st') (znm3 M N K J)))
  | .invokevirtual ix => n = 3 ∧ ∃ (kd y : Nat) (b : Nat) (as rest : List Value), zCall (zO m) ix = some (kd, y) ∧ st = as.reverse ++ .ref b :: rest ∧
      ((kd = 0 ∧ as.length = zA y ∧ zk M b = (zO y, 0) ∧ zCallS R k pc l M y (.ref b :: as) rest) ∨ ((kd = 8 ∨ kd = 9) ∧ zCallS R k pc l M y (.ref b :: as) rest))
  | .invokestatic ix => n = 3 ∧ ∃ (kd y : Nat), zCall (zO m) ix = some (kd, y) ∧
      (((kd = 1 ∨ kd = 4) ∧ ∃ (as rest : List Value), st = as.reverse ++ rest ∧ as.length = zA y ∧ zCallS R k pc l M y as rest) ∨
       (kd = 7 ∧ ∃ (N dp sp : Int32) (a a0 : Nat) (rest : List Value) (n0 n1 : Nat), st = .int N :: .int dp :: .ref a :: .int sp :: .ref a0 :: rest ∧ zk M a0 = (20, n0) ∧ zk M a = (20, n1) ∧ ¬ sp < 0 ∧ ¬ dp < 0 ∧ ¬ N < 0 ∧ sp.toNatClampNeg + N.toNatClampNeg ≤ n0 ∧ dp.toNatClampNeg + N.toNatClampNeg ≤ n1 ∧ zct rest ≤ 8 ∧ k (pc + 3) l rest (zcp M a0 sp.toNatClampNeg a dp.toNatClampNeg N.toNatClampNeg)) ∨
       (kd = 10 ∧ ∃ (a b : Int32) (rest : List Value), st = .int b :: .int a :: rest ∧ zct rest ≤ 8 ∧ k (pc + 3) l (.int (if a < b then b else a) :: rest) M) ∨
       (kd = 11 ∧ ∃ (a b : Int32) (rest : List Value), st = .int b :: .int a :: rest ∧ zct rest ≤ 8 ∧ k (pc + 3) l (.int (if b < a then b else a) :: rest) M))
  | .invokespecial ix => n = 3 ∧ ∃ (kd y : Nat) (b : Nat) (as rest : List Value), zCall (zO m) ix = some (kd, y) ∧ st = as.reverse ++ .ref b :: rest ∧
      ((kd = 6 ∧ as = [] ∧ zct rest ≤ 8 ∧ k (pc + 3) l rest M) ∨ ((kd = 2 ∨ kd = 5) ∧ as.length = zA y ∧ zRk y = 0 ∧ zCallS R k pc l M y (.ref b :: as) rest))
  | .ireturn => n = 1 ∧ ∃ x : Int32, st = [.int x] ∧ (zRk m = 1 ∨ (zRk m = 2 ∧ (x = 0 ∨ x = 1))) ∧ v = some (.int x) ∧ M' = M
  | .lreturn => n = 1 ∧ ∃ x : Int64, st = [.long x] ∧ zRk m = 3 ∧ v = some (.long x) ∧ M' = M
  | .areturn => n = 1 ∧ ∃ r : Option Nat, st = [va_rf r] ∧ zRk m = 4 ∧ v = some (va_rf r) ∧ M' = M
  | .return_ => n = 1 ∧ st = [] ∧ zRk m = 0 ∧ v = none ∧ M' = M
  | _ => False
/-- f instructions of a method, till its end -/
def zLoop (R : zRT) (m : Nat) (v : Option Value) (M' : zM) : Nat → zKT
  | 0 => fun _ _ _ _ => False
  | f + 1 => fun pc l st M => ∃ (i : Instr) (n : Nat), decode (zB m) pc = .ok (i, n) ∧ zSem R m (zLoop R m v M' f) v M' pc l st M n i
/-- a method's run, at most d deep -/
def zEv : Nat → zRT
  | 0 => fun _ _ _ _ _ => False
  | d + 1 => fun y as M v M' =>
    (y = 900 ∧ 6 ≤ d ∧ M' = M ∧ ∃ i, i < 6 ∧ as = [.ref (3 + i)] ∧ v = some (.int (Int32.ofNat (zTx i).length))) ∨
    (y = 901 ∧ 6 ≤ d ∧ M' = M ∧ ∃ i j, i < 6 ∧ j < (zTx i).length ∧ as = [.ref (3 + i), .int (Int32.ofNat j)] ∧ v = some (.int ((zTx i).getD j 0))) ∨
    (y < 216 ∧ zct as ≤ zML y ∧ ∃ f, zLoop (zEv d) y v M' f 0 (lv_args 0 as) [] M)
end
section
/-! ===== what the tables say, checked by the kernel ===== -/
def zW : List Cond := lw_tbl.filter goodWord
theorem zW_in {w : Cond} (i : Nat) (h : lw_tbl[i]? = some w) (g : goodWord w = true) : w ∈ zW := List.mem_filter.mpr ⟨List.mem_of_getElem? h, g⟩
theorem zW_good : GoodIn zW zW := fun w h => ⟨h, good_of_word (List.mem_filter.mp h).2⟩
theorem zW_sub : ∀ w ∈ zW, w ∈ lw_tbl := fun _ h => (List.mem_filter.mp h).1
def zSw (q : zST) : List Cond := match q.2.1 with
  | 0 => [.methodLink (zRn q.1.1) q.1.2 (zNm q.2.2.1), .instanceMethod (zNm q.2.2.1), .selects (zNm q.2.2.1).cls (zNm q.2.2.1) (zNm q.2.2.1), .initialized (zNm q.2.2.1).cls]
  | 1 => [.methodLink (zRn q.1.1) q.1.2 (zNm q.2.2.1), .static (zNm q.2.2.1), .initialized (zNm q.2.2.1).cls]
  | 2 => [.methodLink (zRn q.1.1) q.1.2 (zNm q.2.2.1), .instanceMethod (zNm q.2.2.1), .initialized (zNm q.2.2.1).cls]
  | 4 => [.static (zNm q.2.2.1), .initialized (zNm q.2.2.1).cls]
  | 5 => [.instanceMethod (zNm q.2.2.1), .initialized (zNm q.2.2.1).cls]
  | 6 => [.methodLink (zRn q.1.1) q.1.2 objectInit, .instanceMethod objectInit, .code objectInit object_method_1_code 1 none]
  | 7 => [.methodLink (zRn q.1.1) q.1.2 arraycopyName, .native arraycopyName, .static arraycopyName, .initialized "java/lang/System"]
  | 10 => [.methodLink (zRn q.1.1) q.1.2 Lib.Math.max.name, .static Lib.Math.max.name, .initialized "java/lang/Math"]
  | 11 => [.methodLink (zRn q.1.1) q.1.2 Lib.Math.min.name, .static Lib.Math.min.name, .initialized "java/lang/Math"]
  | _ => [.methodLink (zRn q.1.1) q.1.2 (zNm q.2.2.1), .instanceMethod (zNm q.2.2.1), .selects (zNm q.2.2.1).cls (zNm q.2.2.1) (zNm q.2.2.1), .initialized (zNm q.2.2.1).cls]
def zSwOk (o : Nat) (q : zST) : Bool := decide (zSw q = q.2.2.2.filterMap (fun i => lw_tbl[i]?)) && (zSw q).all goodWord && decide (q.1.1 = o) && decide (q.2.1 = 8 → q.2.2.1 = 900) && decide (q.2.1 = 9 → q.2.2.1 = 901) && decide (q.2.1 < 6 → q.2.2.1 < 216) && decide (q.2.1 = 0 → zO q.2.2.1 < 9) && decide ((q.2.1 = 2 ∨ q.2.1 = 5) → (zNm q.2.2.1).name = "<init>") && decide ((q.2.1 = 4 ∨ q.2.1 = 5) → zNs.any (fun r => decide (r.1 = q.1 ∧ r.2.1 = q.2.2.1)) = true)
theorem zS_0 : zSs0.all (zSwOk 0) = true := by decide +kernel
theorem zS_1 : zSs1.all (zSwOk 1) = true := by decide +kernel
theorem zS_2 : zSs2.all (zSwOk 2) = true := by decide +kernel
theorem zS_3 : zSs3.all (zSwOk 3) = true := by decide +kernel
theorem zS_4 : zSs4.all (zSwOk 4) = true := by decide +kernel
theorem zS_5 : zSs5.all (zSwOk 5) = true := by decide +kernel
theorem zS_6 : zSs6.all (zSwOk 6) = true := by decide +kernel
theorem zS_7 : zSs7.all (zSwOk 7) = true := by decide +kernel
theorem zS_8 : zSs8.all (zSwOk 8) = true := by decide +kernel
theorem zS_9 : zSs9.all (zSwOk 9) = true := by decide +kernel
theorem zS_10 : zSs10.all (zSwOk 10) = true := by decide +kernel
theorem zS_11 : zSs11.all (zSwOk 11) = true := by decide +kernel
theorem zS_12 : zSs12.all (zSwOk 12) = true := by decide +kernel
theorem zS_13 : zSs13.all (zSwOk 13) = true := by decide +kernel
theorem zS_14 : zSs14.all (zSwOk 14) = true := by decide +kernel
theorem zS_15 : zSs15.all (zSwOk 15) = true := by decide +kernel
theorem zS_all (o : Nat) : ∀ q ∈ zSs o, zSwOk o q = true := by
  intro q hq
  unfold zSs at hq
  split at hq
  · exact List.all_eq_true.mp zS_0 q hq
  · exact List.all_eq_true.mp zS_1 q hq
  · exact List.all_eq_true.mp zS_2 q hq
  · exact List.all_eq_true.mp zS_3 q hq
  · exact List.all_eq_true.mp zS_4 q hq
  · exact List.all_eq_true.mp zS_5 q hq
  · exact List.all_eq_true.mp zS_6 q hq
  · exact List.all_eq_true.mp zS_7 q hq
  · exact List.all_eq_true.mp zS_8 q hq
  · exact List.all_eq_true.mp zS_9 q hq
  · exact List.all_eq_true.mp zS_10 q hq
  · exact List.all_eq_true.mp zS_11 q hq
  · exact List.all_eq_true.mp zS_12 q hq
  · exact List.all_eq_true.mp zS_13 q hq
  · exact List.all_eq_true.mp zS_14 q hq
  · exact List.all_eq_true.mp zS_15 q hq
  · cases hq
/-- a call site's words -/
theorem zCall_w {o i kd y : Nat} (h : zCall o i = some (kd, y)) : (∀ w ∈ zSw ((o, i), kd, y, []), w ∈ zW) ∧ (kd = 8 → y = 900) ∧ (kd = 9 → y = 901) ∧ (kd < 6 → y < 216) ∧ (kd = 0 → zO y < 9) ∧ ((kd = 2 ∨ kd = 5) → (zNm y).name = "<init>") ∧ ((kd = 4 ∨ kd = 5) → ∃ r ∈ zNs, r.1 = (o, i) ∧ r.2.1 = y) := by
  unfold zCall at h
  cases hf : (zSs o).find? (fun q => q.1 == (o, i)) with
  | none => rw [hf] at h; cases h
  | some q =>
    rw [hf] at h
    simp only [Option.map_some, Option.some.injEq, Prod.mk.injEq] at h
    obtain ⟨rfl, rfl⟩ := h
    have hm := List.mem_of_find?_eq_some hf
    have he := List.find?_some hf
    have e1 : q.1 = (o, i) := by simpa using he
    have hk := zS_all o q hm
    simp only [zSwOk, Bool.and_eq_true, decide_eq_true_eq] at hk
    obtain ⟨⟨⟨⟨⟨⟨⟨⟨k1, k2⟩, k3⟩, k4⟩, k5⟩, k6⟩, k7⟩, k8⟩, k9⟩ := hk
    obtain ⟨q1, q2, q3, q4⟩ := q
    simp only at e1
    subst e1
    refine ⟨fun w hw => ?_, k4, k5, k6, k7, k8, fun hq => ?_⟩
    · have hw : w ∈ zSw ((o, i), q2, q3, q4) := hw
      have g := List.all_eq_true.mp k2 w hw
      rw [k1] at hw
      obtain ⟨j, -, hj⟩ := List.mem_filterMap.mp hw
      exact zW_in j hj g
    · have h2 := k9 hq
      obtain ⟨r, h3, h4⟩ := List.any_eq_true.mp h2
      exact ⟨r, h3, of_decide_eq_true h4⟩
def zRkOk (r : Option FieldType) (k : Nat) : Bool := match k with
  | 0 => decide (r = none)
  | 1 => decide (r = some .int)
  | 2 => decide (r = some .boolean)
  | 3 => decide (r = some .long)
  | _ => match r with
    | some (.object _) => true
    | some (.array _) => true
    | _ => false
def zMok (q : zMT) : Bool := plainName q.1.cls && decide (q.1.cls ≠ "java/lang/invoke/MethodHandle") && decide (q.1.cls ≠ "java/lang/invoke/VarHandle") && decide ((parseMethodDescriptor q.1.desc).map (fun d => d.parameters.length) = some q.2.2.2.2.2.1) &&
  goodWord (.code q.1 q.2.1 q.2.2.1 q.2.2.2.1) && decide (q.2.2.1 ≤ 30) && decide (q.1.cls = zRn q.2.2.2.2.1) && zRkOk q.2.2.2.1 q.2.2.2.2.2.2.1
theorem zM_all : zMs.all zMok = true := by decide +kernel
theorem zMs_len : zMs.length = 216 := by decide +kernel
theorem zMt_mem {y : Nat} (h : y < 216) : zMt y ∈ zMs := by
  unfold zMt
  rw [if_pos (by omega), List.getD_eq_getElem?_getD, List.getElem?_eq_getElem (by rw [zMs_len]; exact h)]
  exact List.getElem_mem _
theorem zM_ok {y : Nat} (h : y < 216) : plainName (zNm y).cls = true ∧ ((zNm y).cls ≠ "java/lang/invoke/MethodHandle" ∧ (zNm y).cls ≠ "java/lang/invoke/VarHandle") ∧ (parseMethodDescriptor (zNm y).desc).map (fun d => d.parameters.length) = some (zA y) ∧
    Cond.code (zNm y) (zB y) (zML y) (zRt y) ∈ zW ∧ zML y ≤ 30 ∧ (zNm y).cls = zRn (zO y) ∧ zRkOk (zRt y) (zRk y) = true := by
  have hk := List.all_eq_true.mp zM_all _ (zMt_mem h)
  have hw := zMw_all _ (zMt_mem h)
  unfold zNm
  simp only [zMok, Bool.and_eq_true, decide_eq_true_eq] at hk
  obtain ⟨⟨⟨⟨⟨⟨⟨k1, k2⟩, k3⟩, k4⟩, k6⟩, k7⟩, k8⟩, k9⟩ := hk
  exact ⟨k1, ⟨k2, k3⟩, k4, zW_in _ hw k6, k7, k8, k9⟩
/-- the words of nest mates: they go through the contracts' starts -/
def zNw : List Cond := (zNs.map fun q => Cond.methodLinkNest (zRn q.1.1) q.1.2 (zNm q.2.1) "SagaDesk") ++ [.fieldLinkNest "SagaDesk$Reader" 80 "SagaDesk" "ACCOUNTS_OF" "[I" "SagaDesk"]
theorem zNw_in : ∀ w ∈ zNw, w ∈ lw_tbl := by decide +kernel
def zClT (c : Nat) : u_T := (zCl.getD c ("", zT0, 0)).2.1
def zClN (c : Nat) : String := (zCl.getD c ("", zT0, 0)).1
def zYT (c : Nat) : Nat → FieldType := [zY0, zY1, zY2, zY3, zY4, zY5, zY6, zY7, zY8].getD c zY0
def zGok (o : Nat) (q : zGT) : Bool := decide (lw_tbl[q.2.2.2]? = some (.fieldLink (zRn q.1.1) q.1.2 (zClT q.2.1 q.2.2.1).1 (zClT q.2.1 q.2.2.1).2.1 (zClT q.2.1 q.2.2.1).2.2.1)) && goodWord (.fieldLink (zRn q.1.1) q.1.2 (zClT q.2.1 q.2.2.1).1 (zClT q.2.1 q.2.2.1).2.1 (zClT q.2.1 q.2.2.1).2.2.1) && decide (q.1.1 = o) && decide (q.2.1 < 9) && decide (q.2.2.1 < zN q.2.1)
theorem zG_0 : zGs0.all (zGok 0) = true := by decide +kernel
theorem zG_1 : zGs1.all (zGok 1) = true := by decide +kernel
theorem zG_2 : zGs2.all (zGok 2) = true := by decide +kernel
theorem zG_3 : zGs3.all (zGok 3) = true := by decide +kernel
theorem zG_4 : zGs4.all (zGok 4) = true := by decide +kernel
theorem zG_5 : zGs5.all (zGok 5) = true := by decide +kernel
theorem zG_6 : zGs6.all (zGok 6) = true := by decide +kernel
theorem zG_7 : zGs7.all (zGok 7) = true := by decide +kernel
theorem zG_8 : zGs8.all (zGok 8) = true := by decide +kernel
theorem zG_all (o : Nat) : ∀ q ∈ zGs o, zGok o q = true := by
  intro q hq
  unfold zGs at hq
  split at hq
  · exact List.all_eq_true.mp zG_0 q hq
  · exact List.all_eq_true.mp zG_1 q hq
  · exact List.all_eq_true.mp zG_2 q hq
  · exact List.all_eq_true.mp zG_3 q hq
  · exact List.all_eq_true.mp zG_4 q hq
  · exact List.all_eq_true.mp zG_5 q hq
  · exact List.all_eq_true.mp zG_6 q hq
  · exact List.all_eq_true.mp zG_7 q hq
  · exact List.all_eq_true.mp zG_8 q hq
  all_goals cases hq
/-- a field site's word -/
theorem zFld_w {o i c f : Nat} (h : zFld o i = some (c, f)) : Cond.fieldLink (zRn o) i (zClT c f).1 (zClT c f).2.1 (zClT c f).2.2.1 ∈ zW ∧ c < 9 ∧ f < zN c := by
  unfold zFld at h
  cases hf : (zGs o).find? (fun q => q.1 == (o, i)) with
  | none => rw [hf] at h; cases h
  | some q =>
    rw [hf] at h
    simp only [Option.map_some, Option.some.injEq, Prod.mk.injEq] at h
    obtain ⟨rfl, rfl⟩ := h
    have hm := List.mem_of_find?_eq_some hf
    have he := List.find?_some hf
    have e1 : q.1 = (o, i) := by simpa using he
    have hk := zG_all o q hm
    simp only [zGok, Bool.and_eq_true, decide_eq_true_eq] at hk
    obtain ⟨⟨⟨⟨k1, k2⟩, k3⟩, k4⟩, k5⟩ := hk
    rw [e1] at k1 k2
    exact ⟨zW_in _ k1 k2, k4, k5⟩
def zHok (q : (Nat × Nat) × Nat × Nat) : Bool := if q.2.1 < 9 then decide (lw_tbl[q.2.2]? = some (.classLink (zRn q.1.1) q.1.2 (zClN q.2.1))) && goodWord (.classLink (zRn q.1.1) q.1.2 (zClN q.2.1)) else if q.2.1 = 25 then decide (lw_tbl[q.2.2]? = some (.classLink (zRn q.1.1) q.1.2 "[[I")) && goodWord (.classLink (zRn q.1.1) q.1.2 "[[I") else decide (q.2.1 = 26) && decide (lw_tbl[q.2.2]? = some (.classLink (zRn q.1.1) q.1.2 "[[[I")) && goodWord (.classLink (zRn q.1.1) q.1.2 "[[[I")
theorem zH_all : zHs.all zHok = true := by decide +kernel
def zHw (c : Nat) : String := if c < 9 then zClN c else if c = 25 then "[[I" else "[[[I"
theorem zCls_w {o i c : Nat} (h : zCls o i = some c) : Cond.classLink (zRn o) i (zHw c) ∈ zW := by
  unfold zCls at h
  cases hf : zHs.find? (fun q => q.1 == (o, i)) with
  | none => rw [hf] at h; cases h
  | some q =>
    rw [hf] at h
    simp only [Option.map_some, Option.some.injEq] at h
    subst h
    have hm := List.mem_of_find?_eq_some hf
    have he := List.find?_some hf
    have e1 : q.1 = (o, i) := by simpa using he
    have hk := List.all_eq_true.mp zH_all q hm
    unfold zHok at hk
    unfold zHw
    rw [e1] at hk
    split at hk
    · rename_i h9
      rw [if_pos h9]
      simp only [Bool.and_eq_true, decide_eq_true_eq] at hk
      exact zW_in _ hk.1 hk.2
    · rename_i h9
      rw [if_neg h9]
      split at hk
      · rename_i h5
        rw [if_pos h5]
        simp only [Bool.and_eq_true, decide_eq_true_eq] at hk
        exact zW_in _ hk.1 hk.2
      · rename_i h5
        rw [if_neg h5]
        simp only [Bool.and_eq_true, decide_eq_true_eq] at hk
        exact zW_in _ hk.1.2 hk.2
theorem zK_all : zKs.all (fun q => decide (lw_tbl[q.2.2]? = some (.constant (zRn q.1.1) q.1.2 q.2.1)) && goodWord (.constant (zRn q.1.1) q.1.2 q.2.1)) = true := by decide +kernel
theorem zKi_w {o i : Nat} {x : Int32} (h : zKi o i = some x) : Cond.constant (zRn o) i x ∈ zW := by
  unfold zKi at h
  cases hf : zKs.find? (fun q => q.1 == (o, i)) with
  | none => rw [hf] at h; cases h
  | some q =>
    rw [hf] at h
    simp only [Option.map_some, Option.some.injEq] at h
    subst h
    have hm := List.mem_of_find?_eq_some hf
    have he := List.find?_some hf
    have e1 : q.1 = (o, i) := by simpa using he
    have hk := List.all_eq_true.mp zK_all q hm
    simp only [Bool.and_eq_true, decide_eq_true_eq] at hk
    rw [e1] at hk
    exact zW_in _ hk.1 hk.2
theorem zL_all : zLs.all (fun q => decide (lw_tbl[q.2.2]? = some (.constantLong (zRn q.1.1) q.1.2 q.2.1)) && goodWord (.constantLong (zRn q.1.1) q.1.2 q.2.1)) = true := by decide +kernel
theorem zKl_w {o i : Nat} {x : Int64} (h : zKl o i = some x) : Cond.constantLong (zRn o) i x ∈ zW := by
  unfold zKl at h
  cases hf : zLs.find? (fun q => q.1 == (o, i)) with
  | none => rw [hf] at h; cases h
  | some q =>
    rw [hf] at h
    simp only [Option.map_some, Option.some.injEq] at h
    subst h
    have hm := List.mem_of_find?_eq_some hf
    have he := List.find?_some hf
    have e1 : q.1 = (o, i) := by simpa using he
    have hk := List.all_eq_true.mp zL_all q hm
    simp only [Bool.and_eq_true, decide_eq_true_eq] at hk
    rw [e1] at hk
    exact zW_in _ hk.1 hk.2
/-- the classes: their words, the kinds of their fields -/
theorem zC_lay : (List.range 9).all (fun c => (u_ws (zClN c) (zClT c) (zN c)).all (fun w => goodWord w && decide (w ∈ lw_tbl))) = true := by decide +kernel
theorem zC_cl : ∀ c, c < 9 → zCl[c]? = some (zClN c, zClT c, zN c)
  | 0, _ | 1, _ | 2, _ | 3, _ | 4, _ | 5, _ | 6, _ | 7, _ | 8, _ => rfl
  | _ + 9, h => absurd h (by omega)
theorem zC_new : (List.range 9).all (fun c => goodWord (.instantiable (zClN c) (zN c)) && decide (Cond.instantiable (zClN c) (zN c) ∈ lw_tbl) && goodWord (.initialized (zClN c)) && decide (Cond.initialized (zClN c) ∈ lw_tbl)) = true := by decide +kernel
theorem zC_ty : ∀ c, c < 9 → ∀ f, f < zN c → parseFieldDescriptor (zClT c f).2.2.1 = some (zYT c f) ∧ ((zF c f = 0 ∧ zYT c f = .int) ∨ (zF c f = 2 ∧ zYT c f = .boolean) ∨ (zF c f = 1 ∧ (zYT c f).isReference = true)) ∧ (zClT c f).1 = zClN c := by decide +kernel
theorem zC_nm : ∀ c, c < 9 → ∀ a, a < zN c → ∀ b, b < zN c → a ≠ b → (zClT c a).2.1 ≠ (zClT c b).2.1 := by decide +kernel
theorem zC_nr : ∀ c, c < 9 → zClN c = zRn c := by decide +kernel
theorem zC_ok {c : Nat} (h : c < 9) : zCl[c]? = some (zClN c, zClT c, zN c) ∧ (∀ w ∈ u_ws (zClN c) (zClT c) (zN c), w ∈ zW) ∧ Cond.instantiable (zClN c) (zN c) ∈ zW ∧ Cond.initialized (zClN c) ∈ zW := by
  have h1 := List.all_eq_true.mp zC_lay c (List.mem_range.mpr h)
  have h2 := List.all_eq_true.mp zC_new c (List.mem_range.mpr h)
  simp only [Bool.and_eq_true, decide_eq_true_eq] at h2
  refine ⟨zC_cl c h, fun w hw => ?_, List.mem_filter.mpr ⟨h2.1.1.2, h2.1.1.1⟩, List.mem_filter.mpr ⟨h2.2, h2.1.2⟩⟩
  have h3 := List.all_eq_true.mp h1 w hw
  simp only [Bool.and_eq_true, decide_eq_true_eq] at h3
  exact List.mem_filter.mpr ⟨h3.2, h3.1⟩
theorem zAw_i : Cond.arrayClass (newarray.typeOf .int) ∈ zW := List.mem_filter.mpr ⟨by decide +kernel, by decide⟩
theorem zAw_l : Cond.arrayClass (newarray.typeOf .long) ∈ zW := List.mem_filter.mpr ⟨by decide +kernel, by decide⟩
end
section
/-! ===== the small machine's cells as the machine's ===== -/
abbrev zX : Type := Nat × (Nat → Nat) × (Nat → ClassId) × va_G × Nat × (Nat → Int32) × (Nat → Nat)
def zb (Z : zX) : Nat := Z.1
def zsp (Z : zX) : Nat → Nat := Z.2.1
def zcy (Z : zX) : Nat → ClassId := Z.2.2.1
def zD (Z : zX) : va_G := Z.2.2.2.1
def zLn (Z : zX) : Nat := Z.2.2.2.2.1
def zxs (Z : zX) : Nat → Int32 := Z.2.2.2.2.2.1
def zav (Z : zX) : Nat → Nat := Z.2.2.2.2.2.2
def zρ (Z : zX) (a : Nat) : Nat := if a < 16 then zsp Z a else zb Z + (a - 16)
def zAd (Z : zX) : Nat → Prop := fun q => zb Z ≤ q
def zτ (Z : zX) (v : Value) : Value := match v with
  | .ref a => .ref (zρ Z a)
  | w => w
theorem zτ_cat (Z : zX) (v : Value) : (zτ Z v).category = v.category := by cases v <;> rfl
theorem zτ_rf (Z : zX) (r : Option Nat) : zτ Z (va_rf r) = va_rf (r.map (zρ Z)) := by cases r <;> rfl
def zlm (Z : zX) (l : List (Nat × Value)) : List (Nat × Value) := l.map fun q => (q.1, zτ Z q.2)
def zent (Z : zX) (M : zM) (a : Nat) : va_E :=
  if (zk M a).1 < 20 then .inr ((zk M a).1, (List.range (zN (zk M a).1)).map fun j => zτ Z (zgv M (zF (zk M a).1 j) a j))
  else if (zk M a).1 = 20 then .inl (zcy Z 20, (zk M a).2, .inl (zi M a))
  else if (zk M a).1 = 21 then .inl (zcy Z 21, (zk M a).2, .inr (.inl (zl M a)))
  else .inl (zcy Z (zk M a).1, (zk M a).2, .inr (.inr (.inr (.inr fun j => (zr M a j).map (zρ Z)))))
def zws (Z : zX) (M : zM) : va_W := (List.range (zn M - 16)).map fun i => (zρ Z (16 + i), zent Z M (16 + i))
def zTy (Z : zX) : List (ClassId × FieldType) := [(zcy Z 20, .int), (zcy Z 21, .long), (zcy Z 22, .object "SagaDesk$Program"), (zcy Z 23, .object "SagaDesk$Saga"), (zcy Z 24, .object "SagaDesk$Row"), (zcy Z 25, .array .int), (zcy Z 26, .array (.array .int))]
theorem zρ_own {Z : zX} {a : Nat} (h : 16 ≤ a) : zρ Z a = zb Z + (a - 16) := if_neg (by omega)
theorem zws_get {Z : zX} {M : zM} {a : Nat} (h1 : 16 ≤ a) (h2 : a < zn M) : (zws Z M)[a - 16]? = some (zρ Z a, zent Z M a) := by
  unfold zws
  rw [List.getElem?_map, List.getElem?_range (by omega)]
  show some (zρ Z (16 + (a - 16)), zent Z M (16 + (a - 16))) = _
  rw [show 16 + (a - 16) = a by omega]
theorem zws_len (Z : zX) (M : zM) : (zws Z M).length = zn M - 16 := by unfold zws; rw [List.length_map, List.length_range]
theorem zws_at {Z : zX} {M : zM} {i : Nat} {q : Nat × va_E} (h : (zws Z M)[i]? = some q) : i < zn M - 16 ∧ q = (zb Z + i, zent Z M (16 + i)) := by
  have hl : i < zn M - 16 := by rw [← zws_len Z M]; exact (List.getElem?_eq_some_iff.mp h).1
  have h2 := zws_get (Z := Z) (M := M) (a := 16 + i) (by omega) (by omega)
  rw [show 16 + i - 16 = i by omega] at h2
  rw [h2] at h
  refine ⟨hl, ?_⟩
  rw [← Option.some.inj h, zρ_own (by omega), show 16 + i - 16 = i by omega]
theorem zws_D (Z : zX) (M : zM) : va_D (zAd Z) (zws Z M) := by
  refine ⟨fun i j p q hi hj e => ?_, fun k q hk => ?_⟩
  · rw [(zws_at hi).2, (zws_at hj).2] at e
    have e : zb Z + i = zb Z + j := e
    omega
  · rw [(zws_at hk).2]
    exact Nat.le_add_right _ _
theorem zws_upd {Z : zX} {M M2 : zM} {a : Nat} (h1 : 16 ≤ a) (hn : zn M2 = zn M) (he : ∀ b, b ≠ a → zent Z M2 b = zent Z M b) : zws Z M2 = (zws Z M).set (a - 16) (zρ Z a, zent Z M2 a) := by
  apply List.ext_getElem?
  intro i
  rcases Nat.lt_or_ge i (zn M - 16) with hi | hi
  · have e2 := zws_get (Z := Z) (M := M2) (a := 16 + i) (by omega) (by omega)
    have e1 := zws_get (Z := Z) (M := M) (a := 16 + i) (by omega) (by omega)
    rw [show 16 + i - 16 = i by omega] at e1 e2
    rw [e2]
    by_cases hia : i = a - 16
    · subst hia
      rw [List.getElem?_set_self (by rw [zws_len]; exact hi), show 16 + (a - 16) = a by omega]
    · rw [List.getElem?_set_ne (Ne.symm hia), e1, he _ (by omega)]
  · rw [List.getElem?_eq_none (by rw [zws_len]; omega), List.getElem?_eq_none (by rw [List.length_set, zws_len]; omega)]
theorem zws_new {Z : zX} {M M2 : zM} (h1 : 16 ≤ zn M) (hn : zn M2 = zn M + 1) (he : ∀ b, b < zn M → zent Z M2 b = zent Z M b) : zws Z M2 = zws Z M ++ [(zρ Z (zn M), zent Z M2 (zn M))] := by
  unfold zws
  rw [hn, show zn M + 1 - 16 = (zn M - 16) + 1 by omega, List.range_succ, List.map_append]
  congr 1
  · apply List.map_congr_left
    intro i hi
    rw [he _ (by have := List.mem_range.mp hi; omega)]
  · rw [List.map_singleton, show 16 + (zn M - 16) = zn M by omega]
def zFr (M : zM) : Prop := ∀ a, zn M ≤ a → zk M a = (99, 0) ∧ ∀ j, zi M a j = 0 ∧ zr M a j = none ∧ zl M a j = 0
def zUn (j : Nat) : Int32 := [-1, 0, 0, 1, 2, 0].getD j 0
def zAo (j : Nat) : Int32 := [1, 1, 2, 1, 2, 0].getD j 0
def zSk (Z : zX) (M : zM) : Prop := zk M 0 = (30, zLn Z) ∧ zk M 1 = (30, 6) ∧ zk M 2 = (30, 6) ∧ (∀ a, 3 ≤ a → a < 16 → zk M a = (98, 0)) ∧ zi M 0 = zxs Z ∧ zi M 1 = zUn ∧ zi M 2 = zAo
theorem zSk_own {Z : zX} {M : zM} {a : Nat} (h : zSk Z M) (hf : zFr M) (hk : (zk M a).1 < 30) : 16 ≤ a ∧ a < zn M := by
  refine ⟨?_, ?_⟩
  · rcases Nat.lt_or_ge a 16 with q | q
    · exfalso
      rcases Nat.lt_or_ge a 3 with q3 | q3
      · rcases (show a = 0 ∨ a = 1 ∨ a = 2 by omega) with rfl | rfl | rfl
        · rw [h.1] at hk; exact absurd hk (Nat.lt_irrefl 30)
        · rw [h.2.1] at hk; exact absurd hk (by decide)
        · rw [h.2.2.1] at hk; exact absurd hk (by decide)
      · rw [h.2.2.2.1 a q3 q] at hk; exact absurd hk (by decide)
    · exact q
  · rcases Nat.lt_or_ge a (zn M) with q | q
    · exact q
    · rw [(hf a q).1] at hk; exact absurd hk (by decide)
/-- entries under writes -/
theorem zent_wi {Z : zX} {M : zM} {a k b : Nat} {x : Int32} (h : b ≠ a) : zent Z (zwi M a k x) b = zent Z M b := by
  have e : zi (zwi M a k x) b = zi M b := funext fun j => if_neg (fun q => h q.1)
  have e2 : ∀ t j, zgv (zwi M a k x) t b j = zgv M t b j := fun t j => by
    unfold zgv
    rw [e]
    rfl
  unfold zent
  simp only [e2, e]
  rfl
theorem zent_wr {Z : zX} {M : zM} {a k b : Nat} {x : Option Nat} (h : b ≠ a) : zent Z (zwr M a k x) b = zent Z M b := by
  have e : zr (zwr M a k x) b = zr M b := funext fun j => if_neg (fun q => h q.1)
  have e2 : ∀ t j, zgv (zwr M a k x) t b j = zgv M t b j := fun t j => by
    unfold zgv
    rw [e]
    rfl
  unfold zent
  simp only [e2, e]
  rfl
theorem zent_wl {Z : zX} {M : zM} {a k b : Nat} {x : Int64} (h : b ≠ a) : zent Z (zwl M a k x) b = zent Z M b := by
  have e : zl (zwl M a k x) b = zl M b := funext fun j => if_neg (fun q => h q.1)
  have e2 : ∀ t j, zgv (zwl M a k x) t b j = zgv M t b j := fun t j => rfl
  unfold zent
  simp only [e2, e]
  rfl
theorem zent_cp {Z : zX} {M : zM} {a0 s a d n b : Nat} (h : b ≠ a) : zent Z (zcp M a0 s a d n) b = zent Z M b := by
  have e : zi (zcp M a0 s a d n) b = zi M b := funext fun j => if_neg (fun q => h q.1)
  have e2 : ∀ t j, zgv (zcp M a0 s a d n) t b j = zgv M t b j := fun t j => by
    unfold zgv
    rw [e]
    rfl
  unfold zent
  simp only [e2, e]
  rfl
theorem zent_o {Z : zX} {M : zM} {a c : Nat} (h : zk M a = (c, 0)) (hc : c < 9) : zent Z M a = .inr (c, (List.range (zN c)).map fun j => zτ Z (zgv M (zF c j) a j)) := by
  unfold zent
  rw [h, if_pos (show c < 20 by omega)]
theorem zent_i {Z : zX} {M : zM} {a n : Nat} (h : zk M a = (20, n)) : zent Z M a = .inl (zcy Z 20, n, .inl (zi M a)) := by
  unfold zent
  rw [h, if_neg (show ¬ (20 : Nat) < 20 by decide), if_pos rfl]
theorem zent_l {Z : zX} {M : zM} {a n : Nat} (h : zk M a = (21, n)) : zent Z M a = .inl (zcy Z 21, n, .inr (.inl (zl M a))) := by
  unfold zent
  rw [h, if_neg (show ¬ (21 : Nat) < 20 by decide), if_neg (show ¬ (21 : Nat) = 20 by decide), if_pos rfl]
theorem zent_r {Z : zX} {M : zM} {a t n : Nat} (h : zk M a = (t, n)) (ht : 22 ≤ t) : zent Z M a = .inl (zcy Z t, n, .inr (.inr (.inr (.inr fun j => (zr M a j).map (zρ Z))))) := by
  unfold zent
  rw [h, if_neg (show ¬ t < 20 by omega), if_neg (show ¬ t = 20 by omega), if_neg (show ¬ t = 21 by omega)]
theorem zfs_get {Z : zX} {M : zM} {a c f : Nat} (hf : f < zN c) : ((List.range (zN c)).map fun j => zτ Z (zgv M (zF c j) a j))[f]? = some (zτ Z (zgv M (zF c f) a f)) := by
  rw [List.getElem?_map, List.getElem?_range hf]
  rfl
theorem zfs_set {Z : zX} {M M2 : zM} {a c f : Nat} {v : Value} (hf : f < zN c) (hv : zτ Z (zgv M2 (zF c f) a f) = v) (he : ∀ j, j ≠ f → zgv M2 (zF c j) a j = zgv M (zF c j) a j) :
    ((List.range (zN c)).map fun j => zτ Z (zgv M2 (zF c j) a j)) = ((List.range (zN c)).map fun j => zτ Z (zgv M (zF c j) a j)).set f v := by
  apply List.ext_getElem?
  intro i
  rcases Nat.lt_or_ge i (zN c) with hi | hi
  · by_cases e : i = f
    · subst e
      rw [List.getElem?_set_self (by rw [List.length_map, List.length_range]; exact hi), zfs_get hi, hv]
    · rw [List.getElem?_set_ne (Ne.symm e), zfs_get hi, zfs_get hi, he i e]
  · rw [List.getElem?_eq_none (by rw [List.length_map, List.length_range]; exact hi), List.getElem?_eq_none (by rw [List.length_set, List.length_map, List.length_range]; exact hi)]
/-- what is there beside the small machine's own cells: the script, the class's static rows, the texts -/
def zLen : List Nat := [3, 4, 4, 4, 4, 4]
def zByt : List (List Int32) := [zTx 0, zTx 1, zTx 2, zTx 3, zTx 4, zTx 5]
def zSpc (Z : zX) (U : State) (H : Heap) : Prop :=
  va_T .int (zsp Z 0) (zLn Z) (fun j => .int (zxs Z j)) (zAd Z) U H ∧ va_T .int (zsp Z 1) 6 (fun j => .int (zUn j)) (zAd Z) U H ∧ va_T .int (zsp Z 2) 6 (fun j => .int (zAo j)) (zAd Z) U H ∧
  va_Z "SagaDesk" "UNDER" "[I" (.ref (zsp Z 1)) (zAd Z) U H ∧ va_Z "SagaDesk" "ACCOUNTS_OF" "[I" (.ref (zsp Z 2)) (zAd Z) U H ∧
  vk_S 6 zLen zByt (fun i => zsp Z (3 + i)) (zav Z) (zAd Z) U H ∧ va_Z "java/lang/String" "COMPACT_STRINGS" "Z" (.int 1) (zAd Z) U H ∧ va_Zq "jdk/internal/util/Preconditions" "SIOOBE_FORMATTER" "Ljava/util/function/BiFunction;" (zAd Z) U H
/-- the tables on rows of rows -/
def zAA (Z : zX) (V : Vm) : Prop := (∃ k co, V.classes[zcy Z 20]? = some k ∧ k.kind = .array co .int) ∧ (∃ k, V.classes[zcy Z 25]? = some k ∧ k.kind = .array (zcy Z 20) (.array .int)) ∧ (∃ k, V.classes[zcy Z 26]? = some k ∧ k.kind = .array (zcy Z 25) (.array (.array .int)))
theorem zAA.moved {Z : zX} {V W : Vm} (hvm : V.Alike W) (h : zAA Z V) : zAA Z W := by
  obtain ⟨⟨k1, co, h1, h2⟩, ⟨k2, h3, h4⟩, ⟨k3, h5, h6⟩⟩ := h
  obtain ⟨k1', g1, e1⟩ := hvm.2.2 _ _ h1
  obtain ⟨k2', g2, e2⟩ := hvm.2.2 _ _ h3
  obtain ⟨k3', g3, e3⟩ := hvm.2.2 _ _ h5
  exact ⟨⟨k1', co, g1, by rw [e1]; exact h2⟩, ⟨k2', g2, by rw [e2]; exact h4⟩, ⟨k3', g3, by rw [e3]; exact h6⟩⟩
def zTab (Z : zX) (U : State) : Prop :=
  va_K (zD Z) zCl (zTy Z) U ∧ (∀ q ∈ zXs, vk_R (zRn q.1.1) q.1.2 (zXt.getD q.2 "") (zsp Z (3 + q.2)) U) ∧ (∀ w ∈ zNw, va_Nw w U) ∧ va_AO "SagaDesk$Program" U ∧ va_AO "SagaDesk$Saga" U ∧ va_AO "SagaDesk$Row" U ∧ zAA Z U.vm
theorem zSpc.kept {Z : zX} {U : State} {H H1 : Heap} (h : zSpc Z U H) (hq : ∀ a : Nat, a < H.size → ¬ zAd Z a → H1[a]? = H[a]?) : zSpc Z U H1 :=
  ⟨h.1.kept hq, h.2.1.kept hq, h.2.2.1.kept hq, h.2.2.2.1.kept hq, h.2.2.2.2.1.kept hq, h.2.2.2.2.2.1.kept hq, h.2.2.2.2.2.2.1.kept hq, h.2.2.2.2.2.2.2.kept hq⟩
theorem zSpc.moved {Z : zX} {u U : State} {H : Heap} (hvm : u.vm.Alike U.vm) (h : zSpc Z u H) : zSpc Z U H :=
  ⟨h.1.moved hvm, h.2.1.moved hvm, h.2.2.1.moved hvm, h.2.2.2.1.moved hvm, h.2.2.2.2.1.moved hvm, h.2.2.2.2.2.1.moved hvm, h.2.2.2.2.2.2.1.moved hvm, h.2.2.2.2.2.2.2.moved hvm⟩
theorem zNw_warm {s U : State} (hW : s.WarmedH U.vm) (h : ∀ w ∈ zNw, va_Nw w s) : ∀ w ∈ zNw, va_Nw w U := by
  intro w hw
  have h1 := h w hw
  unfold zNw at hw
  rcases List.mem_append.mp hw with h2 | h2
  · obtain ⟨q, -, rfl⟩ := List.mem_map.mp h2
    exact h1.warmM hW
  · rw [List.mem_singleton] at h2
    subst h2
    exact h1.warmF hW
theorem zTab.warm {Z : zX} {s U : State} (hW : s.WarmedH U.vm) (h : zTab Z s) : zTab Z U :=
  ⟨h.1.moved hW.alike, fun q hq => (h.2.1 q hq).warm hW, zNw_warm hW h.2.2.1, h.2.2.2.1.moved hW.alike, h.2.2.2.2.1.moved hW.alike, h.2.2.2.2.2.1.moved hW.alike, h.2.2.2.2.2.2.moved hW.alike⟩
theorem zNw_same {s U : State} (hW : U.vm = s.vm) (h : ∀ w ∈ zNw, va_Nw w s) : ∀ w ∈ zNw, va_Nw w U := by
  intro w hw
  have h1 := h w hw
  unfold zNw at hw
  rcases List.mem_append.mp hw with h2 | h2
  · obtain ⟨q, -, rfl⟩ := List.mem_map.mp h2
    exact h1.same rfl hW.symm
  · rw [List.mem_singleton] at h2
    subst h2
    exact h1.same rfl hW.symm
theorem zTab.same {Z : zX} {s U : State} (hW : U.vm = s.vm) (h : zTab Z s) : zTab Z U := by
  have ha : s.vm.Alike U.vm := by rw [hW]; exact Vm.Alike.refl _
  exact ⟨h.1.moved ha, fun q hq => (h.2.1 q hq).same hW, zNw_same hW h.2.2.1, h.2.2.2.1.moved ha, h.2.2.2.2.1.moved ha, h.2.2.2.2.2.1.moved ha, h.2.2.2.2.2.2.moved ha⟩
/-- a heap that holds the small machine's cells -/
def zCore (Z : zX) (M : zM) (H : Heap) : Prop := 16 ≤ zn M ∧ H.size = zb Z + (zn M - 16) ∧ va_P (zD Z) zCl (zws Z M) H ∧ zFr M ∧ zSk Z M
def zRep (Z : zX) (M : zM) (U : State) : Prop := zCore Z M U.heap ∧ zTab Z U ∧ zSpc Z U U.heap
def zPc (Z : zX) (as : List Value) (M : zM) : Array Value → State → Prop := va_Pc (as.map (zτ Z)) (zRep Z M)
def zQc (Z : zX) (v : Option Value) (M' : zM) : Array Value → State → Outcome → State → Prop := fun _ st o t => o = .returned (v.map (zτ Z)) ∧ zCore Z M' t.heap ∧ va_F (zAd Z) st t
theorem zPc_blind (Z : zX) (as : List Value) (M : zM) : FrameBlind (zPc Z as M) := fun a U g mk h => by
  obtain ⟨h1, h2, h3, h4⟩ := h
  exact ⟨h1, h2, zTab.same (s := U) (U := U.calling g mk a) rfl h3, zSpc.moved (u := U) (U := U.calling g mk a) (Vm.Alike.refl U.vm) h4⟩
def zRm (d c n : Nat) : Room := { frames := d, cells := c, slots := n, locals := 60 * d }
def zWs (y : Nat) : List Cond := .code (zNm y) (zB y) (zML y) (zRt y) :: zW
end
section
/-! ===== what the small machine does the machine does ===== -/
theorem z_mono {R : zRT} {m : Nat} {v : Option Value} {M' : zM} (hR : ∀ y as M w M1, R y as M w M1 → zn M ≤ zn M1 ∧ zs M ≤ zs M1) : ∀ (f pc : Nat) (l : List (Nat × Value)) (st : List Value) (M : zM), zLoop R m v M' f pc l st M → zn M ≤ zn M' ∧ zs M ≤ zs M' := by
  intro f
  induction f with
  | zero => intro _ _ _ _ h; exact h.elim
  | succ f ih =>
    intro pc l st M h
    obtain ⟨i, n, -, h⟩ := h
    have hcs : ∀ y as rest pc l, zCallS R (zLoop R m v M' f) pc l M y as rest → zn M ≤ zn M' ∧ zs M ≤ zs M' := by
      intro y as rest pc l h
      obtain ⟨-, w, M1, h1, h2⟩ := h
      have a := hR _ _ _ _ _ h1
      have b := ih _ _ _ _ h2
      exact ⟨Nat.le_trans a.1 b.1, Nat.le_trans a.2 b.2⟩
    have hbr : ∀ (p A B : Prop), (A → zn M ≤ zn M' ∧ zs M ≤ zs M') → (B → zn M ≤ zn M' ∧ zs M ≤ zs M') → zbr p A B → zn M ≤ zn M' ∧ zs M ≤ zs M' := by
      intro p A B hA hB h
      by_cases hp : p
      · exact hA (h.1 hp)
      · exact hB (h.2 hp)
    cases i with
    | ldc ix =>
      obtain ⟨-, h⟩ := h
      rcases h with ⟨x, -, h⟩ | ⟨x, -, h⟩
      · have b := ih _ _ _ _ h; exact b
      · have b := ih _ _ _ _ h; exact b
    | ifCond c off =>
      obtain ⟨-, x, st', tgt, -, -, h⟩ := h
      exact hbr _ _ _ (ih _ _ _ _) (ih _ _ _ _) h
    | if_icmp c off =>
      obtain ⟨-, x, y, st', tgt, -, -, h⟩ := h
      exact hbr _ _ _ (ih _ _ _ _) (ih _ _ _ _) h
    | ifnull off =>
      obtain ⟨-, r, st', tgt, -, -, h⟩ := h
      exact hbr _ _ _ (ih _ _ _ _) (ih _ _ _ _) h
    | ifnonnull off =>
      obtain ⟨-, r, st', tgt, -, -, h⟩ := h
      exact hbr _ _ _ (ih _ _ _ _) (ih _ _ _ _) h
    | tableswitch d lo hi offs =>
      obtain ⟨x, st', -, h⟩ := h
      exact hbr _ _ _ (fun ⟨_, _, h⟩ => ih _ _ _ _ h) (fun ⟨_, _, _, _, h⟩ => ih _ _ _ _ h) h
    | putfield ix =>
      obtain ⟨-, w, a, st', c, f', -, -, -, -, h⟩ := h
      rcases h with ⟨-, x, -, h⟩ | ⟨-, x, -, -, h⟩ | ⟨-, x, -, h⟩
      · have b := ih _ _ _ _ h; exact b
      · have b := ih _ _ _ _ h; exact b
      · have b := ih _ _ _ _ h; exact b
    | new ix =>
      obtain ⟨-, c, -, -, h⟩ := h
      have b := ih _ _ _ _ h
      exact ⟨Nat.le_trans (Nat.le_succ _) b.1, Nat.le_trans (Nat.le_add_right _ _) b.2⟩
    | newarray t =>
      obtain ⟨-, z, st', N, -, -, -, -, h⟩ := h
      rcases h with ⟨-, h⟩ | ⟨-, h⟩
      · have b := ih _ _ _ _ h
        exact ⟨Nat.le_trans (Nat.le_succ _) b.1, Nat.le_trans (Nat.le_add_right _ _) b.2⟩
      · have b := ih _ _ _ _ h
        exact ⟨Nat.le_trans (Nat.le_succ _) b.1, Nat.le_trans (Nat.le_add_right _ _) b.2⟩
    | anewarray ix =>
      obtain ⟨-, z, st', N, c, t, -, -, -, -, -, -, h⟩ := h
      have b := ih _ _ _ _ h
      exact ⟨Nat.le_trans (Nat.le_succ _) b.1, Nat.le_trans (Nat.le_add_right _ _) b.2⟩
    | multianewarray ix d =>
      obtain ⟨-, z, j, st', N, J, -, -, -, -, -, -, h⟩ := h
      rcases h with ⟨-, -, -, h⟩ | ⟨-, -, y, K, -, -, -, -, h⟩
      · have b := ih _ _ _ _ h
        refine ⟨Nat.le_trans ?_ b.1, Nat.le_trans ?_ b.2⟩
        · show zn M ≤ zn M + 1 + N; omega
        · show zs M ≤ zs M + N + N * J; omega
      · have b := ih _ _ _ _ h
        refine ⟨Nat.le_trans ?_ b.1, Nat.le_trans ?_ b.2⟩
        · show zn M ≤ zn M + 1 + N * (1 + K); omega
        · show zs M ≤ zs M + N + N * (K + K * J); omega
    | invokevirtual ix =>
      obtain ⟨-, kd, y, b, as, rest, -, -, h⟩ := h
      rcases h with ⟨-, -, -, h⟩ | ⟨-, h⟩
      · exact hcs _ _ _ _ _ h
      · exact hcs _ _ _ _ _ h
    | invokestatic ix =>
      obtain ⟨-, kd, y, -, h⟩ := h
      rcases h with ⟨-, as, rest, -, -, h⟩ | ⟨-, N, dp, sp, a, a0, rest, n0, n1, -, -, -, -, -, -, -, -, -, h⟩ | ⟨-, a, b, rest, -, -, h⟩ | ⟨-, a, b, rest, -, -, h⟩
      · exact hcs _ _ _ _ _ h
      · have b := ih _ _ _ _ h; exact b
      · have b := ih _ _ _ _ h; exact b
      · have b := ih _ _ _ _ h; exact b
    | invokespecial ix =>
      obtain ⟨-, kd, y, b, as, rest, -, -, h⟩ := h
      rcases h with ⟨-, -, -, h⟩ | ⟨-, -, -, h⟩
      · have b := ih _ _ _ _ h; exact b
      · exact hcs _ _ _ _ _ h
    | ireturn => obtain ⟨-, x, -, -, -, h⟩ := h; subst h; exact ⟨Nat.le_refl _, Nat.le_refl _⟩
    | lreturn => obtain ⟨-, x, -, -, -, h⟩ := h; subst h; exact ⟨Nat.le_refl _, Nat.le_refl _⟩
    | areturn => obtain ⟨-, x, -, -, -, h⟩ := h; subst h; exact ⟨Nat.le_refl _, Nat.le_refl _⟩
    | return_ => obtain ⟨-, -, -, -, h⟩ := h; subst h; exact ⟨Nat.le_refl _, Nat.le_refl _⟩
    | _ => first
      | exact h.elim
      | (obtain ⟨-, h⟩ := h; have b := ih _ _ _ _ h; exact b)
      | (obtain ⟨-, _, h⟩ := h; have b := ih _ _ _ _ h; exact b)
      | (obtain ⟨-, _, _, h⟩ := h; have b := ih _ _ _ _ h; exact b)
      | (obtain ⟨-, _, _, _, h⟩ := h; have b := ih _ _ _ _ h; exact b)
      | (obtain ⟨-, _, _, _, _, h⟩ := h; have b := ih _ _ _ _ h; exact b)
      | (obtain ⟨-, _, _, _, _, _, h⟩ := h; have b := ih _ _ _ _ h; exact b)
      | (obtain ⟨-, _, _, _, _, _, _, h⟩ := h; have b := ih _ _ _ _ h; exact b)
      | (obtain ⟨-, _, _, _, _, _, _, _, h⟩ := h; have b := ih _ _ _ _ h; exact b)
      | (obtain ⟨-, _, _, _, _, _, _, _, _, h⟩ := h; have b := ih _ _ _ _ h; exact b)
      | (obtain ⟨-, _, _, _, _, _, _, _, _, _, h⟩ := h; have b := ih _ _ _ _ h; exact b)
      | (obtain ⟨-, _, _, _, _, _, _, _, _, _, _, h⟩ := h; have b := ih _ _ _ _ h; exact b)
theorem zEv_mono : ∀ (d y : Nat) (as : List Value) (M : zM) (v : Option Value) (M' : zM), zEv d y as M v M' → zn M ≤ zn M' ∧ zs M ≤ zs M' := by
  intro d
  induction d with
  | zero => intro _ _ _ _ _ h; exact h.elim
  | succ d ih =>
    intro y as M v M' h
    rcases h with ⟨-, -, rfl, -⟩ | ⟨-, -, rfl, -⟩ | ⟨-, -, f, h⟩
    · exact ⟨Nat.le_refl _, Nat.le_refl _⟩
    · exact ⟨Nat.le_refl _, Nat.le_refl _⟩
    · exact z_mono ih _ _ _ _ _ h
def zInv (Z : zX) (s : State) (M : zM) (H : Heap) (locs : List Loc) (cells : Nat) : Prop := zCore Z M H ∧ s.heap.size + cells = zb Z + (zn M - 16) ∧ va_S (zAd Z) s.heap H locs ∧ zb Z ≤ s.heap.size
def zEnd (m : Nat) (i : Instr) (st : List Value) (v : Option Value) : Prop := match i with
  | .ireturn => ∃ x : Int32, st = [.int x] ∧ (zRk m = 1 ∨ (zRk m = 2 ∧ (x = 0 ∨ x = 1))) ∧ v = some (.int x)
  | .lreturn => ∃ x : Int64, st = [.long x] ∧ zRk m = 3 ∧ v = some (.long x)
  | .areturn => ∃ r : Option Nat, st = [va_rf r] ∧ zRk m = 4 ∧ v = some (va_rf r)
  | .return_ => st = [] ∧ zRk m = 0 ∧ v = none
  | _ => False
theorem zlm_ld {Z : zX} {ls : Array Slot} {nL : Nat} {l : List (Nat × Value)} {i : Nat} {w : Value} (hl : lv_has ls nL (zlm Z l)) (h : zld l i = some w) : ls[i]? = some (.val (zτ Z w)) := by
  unfold zld at h
  cases hf : l.find? (fun q => q.1 == i) with
  | none => rw [hf] at h; cases h
  | some q =>
    rw [hf] at h
    have hm := List.mem_of_find?_eq_some hf
    have he := List.find?_some hf
    have e1 : q.1 = i := by simpa using he
    have e2 : q.2 = w := by simpa using h
    have := hl.2.2 (q.1, zτ Z q.2) (List.mem_map.mpr ⟨q, hm, rfl⟩)
    rw [e1, e2] at this
    exact this
theorem zlm_ix {Z : zX} {l : List (Nat × Value)} {i : Nat} {w : Value} (h : zld l i = some w) : ∃ k : Nat, (zlm Z l)[k]? = some (i, zτ Z w) := by
  unfold zld at h
  cases hf : l.find? (fun q => q.1 == i) with
  | none => rw [hf] at h; cases h
  | some q =>
    rw [hf] at h
    have hm := List.mem_of_find?_eq_some hf
    have he := List.find?_some hf
    have e1 : q.1 = i := by simpa using he
    have e2 : q.2 = w := by simpa using h
    have h3 : (i, zτ Z w) ∈ zlm Z l := List.mem_map.mpr ⟨q, hm, by rw [e1, e2]⟩
    exact List.getElem?_of_mem h3
theorem zlm_st {Z : zX} {l : List (Nat × Value)} {i : Nat} {w : Value} : (i, zτ Z w) :: (zlm Z l).filter (fun q => !(q.1 == i) && !(q.1 + 1 == i && q.2.category == 2)) = zlm Z (zst l i w) := by
  unfold zst zlm
  rw [List.map_cons]
  congr 1
  rw [List.filter_map]
  congr 1
  apply List.filter_congr
  intro q _
  simp [Function.comp, zτ_cat]
theorem zct_map (Z : zX) (st : List Value) : ((st.map (zτ Z)).map fun v => v.category).sum = zct st := by
  unfold zct
  rw [List.map_map]
  congr 1
  apply List.map_congr_left
  intro v _
  exact zτ_cat Z v
section ZS
variable {p : Program} {lc : Launch} {e : Env} {R0 : Room} {s : State} {mm : MethodId} {args : Array Value} {below : List Frame} {meth : Method} {c : Code} {H : Heap} {locs : List Loc} {cells slots : Nat} {Q : State → Prop} {Z : zX} {M M2 : zM} {g : JFrame}
theorem z_size (h : H.size ≤ s.heap.size + cells → W p lc e R0 s mm args below meth c H locs cells slots Q g) : W p lc e R0 s mm args below meth c H locs cells slots Q g := by
  intro T hT X
  exact h (by rw [← hT]; exact X.heapSize) T hT X
theorem zInv.self (h : zInv Z s M H locs cells) : va_S (zAd Z) H H locs := ⟨Nat.le_refl _, fun _ _ _ => rfl, h.2.2.1.2.2⟩
theorem zS_tr {H1 : Heap} {locs1 : List Loc} (h : va_S (zAd Z) s.heap H locs) (h1 : va_S (zAd Z) H H1 locs1) : va_S (zAd Z) s.heap H1 locs1 :=
  ⟨Nat.le_trans h.1 h1.1, fun q hq ha => (h1.2.1 q (Nat.lt_of_lt_of_le hq h.1) ha).trans (h.2.1 q hq ha), h1.2.2⟩
/-- behind a write -/
theorem z_wr {H1 : Heap} {locs1 : List Loc} (hI : zInv Z s M H locs cells) (hn : zn M2 = zn M) (hP1 : va_P (zD Z) zCl (zws Z M2) H1) (hS1 : va_S (zAd Z) H H1 locs1) (hf : zFr M2) (hk : zSk Z M2)
    (kk : zInv Z s M2 H1 locs1 cells → W p lc e R0 s mm args below meth c H1 locs1 cells slots Q g) : W p lc e R0 s mm args below meth c H1 locs1 cells slots Q g := by
  refine z_size fun hz => kk ?_
  obtain ⟨⟨h16, hH, hP, hfr, hsk⟩, hc, hS, hb⟩ := hI
  have h1 := hS1.1
  exact ⟨⟨by rw [hn]; exact h16, by rw [hn]; omega, hP1, hf, hk⟩, by rw [hn]; exact hc, zS_tr hS hS1, hb⟩
theorem zFr_wi {a k : Nat} {x : Int32} (h : zFr M) (ha : a < zn M) : zFr (zwi M a k x) := fun b hb => by
  have hb : zn M ≤ b := hb
  refine ⟨(h b hb).1, fun j => ⟨?_, ((h b hb).2 j).2⟩⟩
  show (if b = a ∧ j = k then x else zi M b j) = 0
  rw [if_neg (fun q => by omega)]
  exact ((h b hb).2 j).1
theorem zFr_wr {a k : Nat} {x : Option Nat} (h : zFr M) (ha : a < zn M) : zFr (zwr M a k x) := fun b hb => by
  have hb : zn M ≤ b := hb
  refine ⟨(h b hb).1, fun j => ⟨((h b hb).2 j).1, ?_, ((h b hb).2 j).2.2⟩⟩
  show (if b = a ∧ j = k then x else zr M b j) = none
  rw [if_neg (fun q => by omega)]
  exact ((h b hb).2 j).2.1
theorem zFr_wl {a k : Nat} {x : Int64} (h : zFr M) (ha : a < zn M) : zFr (zwl M a k x) := fun b hb => by
  have hb : zn M ≤ b := hb
  refine ⟨(h b hb).1, fun j => ⟨((h b hb).2 j).1, ((h b hb).2 j).2.1, ?_⟩⟩
  show (if b = a ∧ j = k then x else zl M b j) = 0
  rw [if_neg (fun q => by omega)]
  exact ((h b hb).2 j).2.2
theorem zFr_cp {a0 s0 a d n : Nat} (h : zFr M) (ha : a < zn M) : zFr (zcp M a0 s0 a d n) := fun b hb => by
  have hb : zn M ≤ b := hb
  refine ⟨(h b hb).1, fun j => ⟨?_, ((h b hb).2 j).2⟩⟩
  show (if b = a ∧ d ≤ j ∧ j < d + n then zi M a0 (s0 + (j - d)) else zi M b j) = 0
  rw [if_neg (fun q => by omega)]
  exact ((h b hb).2 j).1
theorem zSk_wi {a k : Nat} {x : Int32} (h : zSk Z M) (ha : 16 ≤ a) : zSk Z (zwi M a k x) := by
  have e : ∀ b, b < 16 → zi (zwi M a k x) b = zi M b := fun b hb => funext fun j => if_neg (fun q => by omega)
  exact ⟨h.1, h.2.1, h.2.2.1, h.2.2.2.1, (e 0 (by omega)).trans h.2.2.2.2.1, (e 1 (by omega)).trans h.2.2.2.2.2.1, (e 2 (by omega)).trans h.2.2.2.2.2.2⟩
theorem zSk_cp {a0 s0 a d n : Nat} (h : zSk Z M) (ha : 16 ≤ a) : zSk Z (zcp M a0 s0 a d n) := by
  have e : ∀ b, b < 16 → zi (zcp M a0 s0 a d n) b = zi M b := fun b hb => funext fun j => if_neg (fun q => by omega)
  exact ⟨h.1, h.2.1, h.2.2.1, h.2.2.2.1, (e 0 (by omega)).trans h.2.2.2.2.1, (e 1 (by omega)).trans h.2.2.2.2.2.1, (e 2 (by omega)).trans h.2.2.2.2.2.2⟩
theorem zSk_wr {a k : Nat} {x : Option Nat} (h : zSk Z M) : zSk Z (zwr M a k x) := h
theorem zSk_wl {a k : Nat} {x : Int64} (h : zSk Z M) : zSk Z (zwl M a k x) := h
theorem zSk_new {t n k : Nat} (h : zSk Z M) (h16 : 16 ≤ zn M) : zSk Z (znw M t n k) := by
  have e : ∀ b, b < 16 → zk (znw M t n k) b = zk M b := fun b hb => if_neg (show ¬ b = zn M by omega)
  exact ⟨(e 0 (by omega)).trans h.1, (e 1 (by omega)).trans h.2.1, (e 2 (by omega)).trans h.2.2.1, fun a h1 h2 => (e a h2).trans (h.2.2.2.1 a h1 h2), h.2.2.2.2⟩
theorem zFr_new {t n k : Nat} (h : zFr M) : zFr (znw M t n k) := fun b hb => by
  have hb : zn M + 1 ≤ b := hb
  refine ⟨?_, (h b (by omega)).2⟩
  show (if b = zn M then (t, n) else zk M b) = (99, 0)
  rw [if_neg (by omega)]
  exact (h b (by omega)).1
theorem zk_new {t n k : Nat} : zk (znw M t n k) (zn M) = (t, n) := if_pos rfl
theorem zent_new {t n k b : Nat} (h : b < zn M) : zent Z (znw M t n k) b = zent Z M b := by
  have e : zk (znw M t n k) b = zk M b := if_neg (show ¬ b = zn M by omega)
  unfold zent
  rw [e]
  rfl
/-- behind a new cell: its address is the next -/
theorem z_nw {H1 : Heap} {t n k q : Nat} (hI : zInv Z s M H locs cells) (hP1 : va_P (zD Z) zCl (zws Z M ++ [(q, zent Z (znw M t n k) (zn M))]) H1) (hD1 : va_D (zAd Z) (zws Z M ++ [(q, zent Z (znw M t n k) (zn M))])) (hS1 : va_S (zAd Z) H H1 locs)
    (kk : q = zρ Z (zn M) → zInv Z s (znw M t n k) H1 locs (cells + 1) → W p lc e R0 s mm args below meth c H1 locs (cells + 1) slots Q g) : W p lc e R0 s mm args below meth c H1 locs (cells + 1) slots Q g := by
  refine z_size fun hz => ?_
  obtain ⟨⟨h16, hH, hP, hfr, hsk⟩, hc, hS, hb⟩ := hI
  have hlen := zws_len Z M
  have hl : (zws Z M ++ [(q, zent Z (znw M t n k) (zn M))])[(zws Z M).length]? = some (q, zent Z (znw M t n k) (zn M)) := by
    rw [List.getElem?_append_right (Nat.le_refl _), Nat.sub_self]
    rfl
  have hlt := (hP1 _ _ hl).lt
  have hq : q = zb Z + (zn M - 16) := by
    have hA : zb Z ≤ q := hD1.2 _ _ hl
    rcases Nat.lt_or_ge q (zb Z + (zn M - 16)) with h1 | h1
    · exfalso
      have h2 := zws_get (Z := Z) (M := M) (a := q - zb Z + 16) (by omega) (by omega)
      rw [zρ_own (by omega), show q - zb Z + 16 - 16 = q - zb Z by omega, show zb Z + (q - zb Z) = q by omega] at h2
      have h3 : (zws Z M ++ [(q, zent Z (znw M t n k) (zn M))])[q - zb Z]? = some (q, zent Z M (q - zb Z + 16)) := by
        rw [List.getElem?_append_left (by rw [hlen]; omega)]
        exact h2
      have := hD1.1 _ _ _ _ h3 hl rfl
      omega
    · have h1' := hS1.1
      have hlt : q < H1.size := hlt
      omega
  have hq2 : q = zρ Z (zn M) := by rw [hq, zρ_own h16]
  have h1' := hS1.1
  have hlt : q < H1.size := hlt
  refine kk hq2 ⟨⟨?_, ?_, ?_, zFr_new hfr, zSk_new hsk h16⟩, ?_, zS_tr hS hS1, hb⟩
  · show 16 ≤ zn M + 1; omega
  · show H1.size = zb Z + (zn M + 1 - 16); omega
  · rw [zws_new h16 rfl (fun b hb => zent_new hb), ← hq2]
    exact hP1
  · show s.heap.size + (cells + 1) = zb Z + (zn M + 1 - 16); omega
theorem z_back {mc ms pc : Nat} {ls : Array Slot} {st0 rest : List Value} {Qa : State → Outcome → State → Prop} {free : Addr → Prop} (hr : va_Run p lc e R0 s mm args below meth c H locs cells slots mc ms (F0 mm pc ls st0) rest Qa free)
    (kk : ∀ (v : Option Value) (st1 t : State) (L : List Loc), st1.heap = H → s.WarmedH t.vm → Qa st1 (.returned v) t → (∀ q ∈ L, free q.base) → W p lc e R0 s mm args below meth c t.heap (locs ++ L) (cells + mc) (slots + ms) Q (F0 mm (pc + 3) ls (v.toList ++ rest))) :
    W p lc e R0 s mm args below meth c H locs cells slots Q (F0 mm pc ls st0) := by
  intro T hT X
  obtain ⟨v, st₀, t, T', L, h0, X', hL, e1, e2, hq, st⟩ := hr T hT X
  obtain ⟨t2, a1, b1⟩ := kk v st₀ t L h0 (by rw [← e2]; exact X'.warmed) hq hL T' e1 X'
  exact ⟨t2, st t2 a1, b1⟩
end ZS
end
section
/-! ===== new T[n][m] and new T[n][m][k] ===== -/
section ZMW
variable {E : CtlPost} {e : Env} {d : Bool} {acts : List Action} {s : State}
theorem zm_new {c comp : ClassId} {k : Class} {ty : FieldType} {n : Nat} {v : Value} (hk : s.vm.classes[c]? = some k) (hkind : k.kind = .array comp ty)
    (hl : ¬ n > e.platform.arrayLengthLimit) (hb : ¬ n * componentBytes ty > e.platform.maxHeapBytes) (hf : fits ty v = true) (hv : v.isDefault = true) {Q : Addr → Pre}
    (h1 : s.heap.size < e.platform.maxCells) (h2 : s.slotsUsed + n ≤ e.platform.maxSlots) (hq : Q s.heap.size d acts (s.pushCell (arrV c n (fun _ => v)))) : wp (Jvm.newArray c n v) Q E e d acts s := by
  rw [← arrV_new] at hq
  have hfit : ∀ i w, (Array.replicate n v)[i]? = some w → s.fitsSlot c .none i w = true := by
    intro i w hw
    rw [Array.getElem?_replicate] at hw
    by_cases hi : i < n
    · rw [if_pos hi] at hw
      cases hw
      simp [State.fitsSlot, State.slotType?, hk, hkind, hf]
    · rw [if_neg hi] at hw
      cases hw
  have hact : allocActs (Array.replicate n v) s.heap.size acts = acts := by
    unfold allocActs
    rw [if_pos]
    rw [Array.all_replicate]
    split <;> simp [hv]
  simp only [Jvm.newArray, Jvm.arrayFits, wp_bind', W.ask, W.ite, hl, if_false, wp_pure', W.theClass, hk, hkind, hb, W.alloc, W.stop, Option.some.injEq, exists_eq_left', Array.size_replicate, hact]
  rw [if_neg (by omega)]
  exact ⟨h1, h2, hfit, hq⟩
/-- what a 'make' of a row of some shape does: 'a' cells of 'b' slots, laid as L says -/
def zMk (P : State → Nat → Nat → Prop) (V : Vm) (e : Env) (Rc Rs : Nat) (c : ClassId) (ns : List Int32) (a b : Nat) (L : Nat → Heap → Prop) : Prop :=
  ∀ (E : CtlPost) (s : State) (x y : Nat) (d : Bool) (acts : List Action) (Q : Addr → Pre), P s x y → s.vm = V → x + a ≤ Rc → y + b ≤ Rs →
    (∀ s' d' acts', P s' (x + a) (y + b) → s'.vm = V → s'.heap.size = s.heap.size + a → (∀ q, q < s.heap.size → s'.heap[q]? = s.heap[q]?) → L s.heap.size s'.heap → Q s.heap.size d' acts' s') → wp (multianewarray.make c ns) Q E e d acts s
theorem zMk_1 {P : State → Nat → Nat → Prop} {V : Vm} {Rc Rs : Nat} {c comp : ClassId} {k : Class} {n : Int32} {N : Nat} (hroom : ∀ s x y a b, P s x y → x + a ≤ Rc → y + b ≤ Rs → s.heap.size + a ≤ e.platform.maxCells ∧ s.slotsUsed + b ≤ e.platform.maxSlots)
    (hpush : ∀ s x y cell, P s x y → P (s.pushCell cell) (x + 1) (y + cell.slots.size)) (hk : V.classes[c]? = some k) (hkind : k.kind = .array comp .int) (hn : ¬ n < 0) (hN : n.toNatClampNeg = N) (hl : ¬ N > e.platform.arrayLengthLimit) (hb : ¬ N * 4 > e.platform.maxHeapBytes) :
    zMk P V e Rc Rs c [n] 1 N (fun h H => H[h]? = some (arrV c N (fun _ => .int 0))) := by
  subst hN
  intro E s x y d acts Q hP hV hx hy hq
  obtain ⟨r1, r2⟩ := hroom s x y 1 n.toNatClampNeg hP hx hy
  have hk' : s.vm.classes[c]? = some k := by rw [hV]; exact hk
  rw [multianewarray.make]
  simp only [wp_bind', W.ite, hn, if_false, wp_pure', W.theClass, hk', hkind, Option.some.injEq, exists_eq_left']
  refine zm_new hk' hkind hl hb rfl rfl (by omega) r2 ?_
  have hs := hpush s x y (arrV c n.toNatClampNeg (fun _ => .int 0)) hP
  rw [arrV_size] at hs
  exact hq _ _ _ hs hV (size_pushCell _ _) (fun q hq => State.heap_pushCell_of_lt _ _ hq) (State.heap_pushCell_size _ _)
theorem zMk_S {P : State → Nat → Nat → Prop} {V : Vm} {Rc Rs : Nat} {c comp : ClassId} {k : Class} {t : FieldType} {n m : Int32} {ms : List Int32} {N a b B : Nat} {L : Nat → Heap → Prop} (hroom : ∀ s x y a b, P s x y → x + a ≤ Rc → y + b ≤ Rs → s.heap.size + a ≤ e.platform.maxCells ∧ s.slotsUsed + b ≤ e.platform.maxSlots)
    (hpush : ∀ s x y cell, P s x y → P (s.pushCell cell) (x + 1) (y + cell.slots.size)) (hset : ∀ s x y q cell i v, P s x y → s.heap[q]? = some cell → B ≤ q → P (s.setCell q (cell.setSlot i v)) x y) (hB : ∀ s x y, P s x y → B ≤ s.heap.size)
    (hk : V.classes[c]? = some k) (hkind : k.kind = .array comp t) (href : t.isReference = true) (hn : ¬ n < 0) (hN : n.toNatClampNeg = N) (hl : ¬ N > e.platform.arrayLengthLimit) (hb : ¬ N * componentBytes t > e.platform.maxHeapBytes) (hneg : (m :: ms).find? (· < 0) = none)
    (hL : ∀ h H H', L h H → (∀ q, h ≤ q → q < h + a → H'[q]? = H[q]?) → L h H') (sub : zMk P V e Rc Rs comp (m :: ms) a b L) :
    zMk P V e Rc Rs c (n :: m :: ms) (1 + N * a) (N + N * b) (fun h H => H[h]? = some (arrV c N (fun j => .ref (h + 1 + j * a))) ∧ ∀ j, j < N → L (h + 1 + j * a) H) := by
  subst hN
  intro E s x y d acts Q hP hV hx hy hq
  generalize hNN : n.toNatClampNeg = N at *
  obtain ⟨r1, r2⟩ := hroom s x y (1 + N * a) (N + N * b) hP hx hy
  have hk' : s.vm.classes[c]? = some k := by rw [hV]; exact hk
  have hrf : ∀ v, v = .null ∨ (∃ q, v = .ref q) → fits t v = true := by
    intro v hv
    rcases hv with rfl | ⟨q, rfl⟩ <;> cases t <;> simp [FieldType.isReference] at href <;> rfl
  rw [multianewarray.make]
  simp only [wp_bind', W.ite, hn, if_false, wp_pure', W.theClass, hk', hkind, Option.some.injEq, exists_eq_left', hNN]
  refine zm_new hk' hkind hl hb (hrf _ (Or.inl rfl)) rfl (by omega) (by have := Nat.zero_le (N * b); omega) ?_
  simp only [hneg]
  rw [ite_self, wp_bind', Std.Legacy.Range.forIn_eq_forIn_range']
  have hsz : ([:N] : Std.Legacy.Range).size = N := by simp [Std.Legacy.Range.size]
  rw [hsz]
  show wp (forIn (List.range' 0 N 1) PUnit.unit _) _ E e d acts _
  have hP0 := hpush s x y (arrV c N (fun _ => .null)) hP
  rw [arrV_size] at hP0
  refine wp_forIn_inv (fun rest s' => ∃ i, i ≤ N ∧ rest = List.range' i (N - i) ∧ P s' (x + 1 + i * a) (y + N + i * b) ∧ s'.vm = V ∧ s'.heap.size = s.heap.size + 1 + i * a ∧ (∀ q, q < s.heap.size → s'.heap[q]? = s.heap[q]?) ∧
    s'.heap[s.heap.size]? = some (arrV c N (fun j => if j < i then .ref (s.heap.size + 1 + j * a) else .null)) ∧ ∀ j, j < i → L (s.heap.size + 1 + j * a) s'.heap) _ _ ?_ ?_ ?_
  · refine ⟨0, Nat.zero_le _, rfl, by simpa using hP0, hV, by rw [size_pushCell]; simp, fun q hq => State.heap_pushCell_of_lt _ _ hq, ?_, fun j hj => absurd hj (Nat.not_lt_zero _)⟩
    rw [State.heap_pushCell_size]
    congr 2
  · rintro z rest s' d' acts' Q' ⟨i, hi, hl2, hPi, hVi, hsi, hold, hout, hin⟩ hnext
    have hlt : i < N := by
      rcases Nat.lt_or_ge i N with h | h
      · exact h
      · rw [show N - i = 0 from by omega] at hl2; simp at hl2
    obtain ⟨rfl, hrest⟩ : z = i ∧ rest = List.range' (i + 1) (N - (i + 1)) := by
      rw [show N - i = (N - (i + 1)) + 1 from by omega, List.range'_succ] at hl2
      exact ⟨(List.cons.inj hl2).1, (List.cons.inj hl2).2⟩
    have m1 : z * a + a ≤ N * a := by
      have := Nat.mul_le_mul_right a (show z + 1 ≤ N from hlt)
      rw [Nat.succ_mul] at this; exact this
    have m2 : z * b + b ≤ N * b := by
      have := Nat.mul_le_mul_right b (show z + 1 ≤ N from hlt)
      rw [Nat.succ_mul] at this; exact this
    simp only [wp_bind']
    refine sub E s' _ _ d' acts' _ hPi hVi (by omega) (by omega) (fun s2 d2 acts2 hP2 hV2 hs2 hold2 hL2 => ?_)
    have hlt0 : s.heap.size < s'.heap.size := by omega
    have hcell : s2.heap[s.heap.size]? = some (arrV c N (fun j => if j < z then .ref (s.heap.size + 1 + j * a) else .null)) := by rw [hold2 _ hlt0]; exact hout
    simp only [wp_bind', W.writeLoc, wp_pure']
    have hst : (arrV c N (fun j => if j < z then Value.ref (s.heap.size + 1 + j * a) else .null)).setSlot z (.ref s'.heap.size) = arrV c N (fun j => if j < z + 1 then .ref (s.heap.size + 1 + j * a) else .null) := by
      rw [arrV_store]
      congr 1
      funext j
      unfold updV
      by_cases hj : j = z
      · subst hj
        rw [if_pos rfl, if_pos (Nat.lt_succ_self _), hsi]
      · rw [if_neg hj]
        dsimp only
        by_cases hj2 : j < z
        · rw [if_pos hj2, if_pos (by omega)]
        · rw [if_neg hj2, if_neg (by omega)]
    have hk2 : s2.vm.classes[c]? = some k := by rw [hV2]; exact hk
    have hlt2 : s.heap.size < s2.heap.size := by omega
    refine ⟨_, hcell, fun q => (by cases q), by rw [arrV_size]; exact hlt, ?_, ?_⟩
    · show s2.fitsSlot c .none z _ = true
      simp [State.fitsSlot, State.slotType?, hk2, hkind, hrf _ (Or.inr ⟨_, rfl⟩)]
    · rw [hst]
      have hP3 := hset s2 _ _ s.heap.size _ z (.ref s'.heap.size) hP2 hcell (hB s x y hP)
      rw [hst] at hP3
      have hne : ∀ q, q ≠ s.heap.size → (s2.setCell s.heap.size (arrV c N (fun j => if j < z + 1 then .ref (s.heap.size + 1 + j * a) else .null))).heap[q]? = s2.heap[q]? := fun q hq => heapAt_setCell_ne _ (Ne.symm hq)
      refine hnext _ _ _ ⟨z + 1, hlt, hrest, ?_, hV2, ?_, ?_, heapAt_setCell_self _ hlt2, ?_⟩
      · rw [Nat.succ_mul, Nat.succ_mul]
        rw [show x + 1 + (z * a + a) = x + 1 + z * a + a by omega, show y + N + (z * b + b) = y + N + z * b + b by omega]
        exact hP3
      · rw [size_setCell, hs2, hsi, Nat.succ_mul]; omega
      · intro q hq
        rw [hne q (by omega), hold2 q (by omega), hold q hq]
      · intro j hj
        rcases Nat.lt_or_ge j z with h | h
        · refine hL _ s'.heap _ (hin j h) (fun q h1 h2 => ?_)
          have m3 : j * a + a ≤ z * a := by
            have := Nat.mul_le_mul_right a (show j + 1 ≤ z from h)
            rw [Nat.succ_mul] at this; exact this
          rw [hne q (by omega), hold2 q (by omega)]
        · obtain rfl : j = z := by omega
          refine hL _ s2.heap _ (by rw [← hsi]; exact hL2) (fun q h1 h2 => ?_)
          rw [hne q (by omega)]
  · rintro s' d' acts' ⟨i, hi, hl2, hPi, hVi, hsi, hold, hout, hin⟩
    have hiN : i = N := by
      rcases Nat.lt_or_ge i N with h | h
      · rw [show N - i = (N - (i + 1)) + 1 from by omega, List.range'_succ] at hl2; cases hl2
      · omega
    subst hiN
    simp only [wp_pure']
    refine hq _ _ _ (by rw [← Nat.add_assoc, ← Nat.add_assoc]; exact hPi) hVi (by omega) hold ⟨?_, hin⟩
    rw [hout]
    congr 1
    unfold arrV
    congr 1
    apply Array.ext_getElem?
    intro j
    by_cases hj : j < i
    · simp [Array.getElem?_ofFn, hj]
    · simp [Array.getElem?_ofFn, hj]
end ZMW
section ZMX
variable {p : Program} {lc : Launch} {e : Env} {R0 : Room} {s : State} {mm : MethodId} {args : Array Value} {below : List Frame} {meth : Method} {c : Code} {H : Heap} {locs : List Loc} {cells slots : Nat} {Q : State → Prop} {Z : zX}
/-- the machine stands there, nothing written below B -/
def zMP (p : Program) (lc : Launch) (e : Env) (R0 : Room) (s : State) (mm : MethodId) (args : Array Value) (below : List Frame) (meth : Method) (c : Code) (g : JFrame) (B : Nat) (u : State) (x y : Nat) : Prop :=
  ∃ (T : State) (locs : List Loc), u = T.setTop g ∧ Stand p lc e R0 s mm args below meth c T locs x y ∧ (∀ q ∈ locs, B ≤ q.base) ∧ B ≤ T.heap.size
theorem zMP_room {g : JFrame} {B : Nat} : ∀ u x y a b, zMP p lc e R0 s mm args below meth c g B u x y → x + a ≤ R0.cells → y + b ≤ R0.slots → u.heap.size + a ≤ e.platform.maxCells ∧ u.slotsUsed + b ≤ e.platform.maxSlots := by
  rintro u x y a b ⟨T, locs, rfl, X, -, -⟩ h1 h2
  exact X.roomAbove h1 h2
theorem zMP_push {g : JFrame} {B : Nat} : ∀ u x y cell, zMP p lc e R0 s mm args below meth c g B u x y → zMP p lc e R0 s mm args below meth c g B (u.pushCell cell) (x + 1) (y + cell.slots.size) := by
  rintro u x y cell ⟨T, locs, rfl, X, hl, hB⟩
  exact ⟨T.pushCell cell, locs, rfl, X.pushed cell, hl, by rw [size_pushCell]; omega⟩
theorem zMP_set {g : JFrame} {B : Nat} : ∀ u x y q cell i v, zMP p lc e R0 s mm args below meth c g B u x y → u.heap[q]? = some cell → B ≤ q → zMP p lc e R0 s mm args below meth c g B (u.setCell q (cell.setSlot i v)) x y := by
  rintro u x y q cell i v ⟨T, locs, rfl, X, hl, hB⟩ hc hq
  have hc : T.heap[q]? = some cell := hc
  refine ⟨T.setCell q (cell.setSlot i v), locs ++ [⟨q, i⟩], rfl, X.stored hc i v, ?_, by rw [size_setCell]; exact hB⟩
  intro r hr
  rcases List.mem_append.mp hr with h | h
  · exact hl r h
  · rw [List.mem_singleton] at h
    subst h
    exact hq
/-- one instruction, to the state behind it, whichever that is -/
theorem z_instrE {s : State} {f : JFrame} (h : At s f.method c below) {P : State → Prop} {i : Instr} {len : Nat} (hd : decode c.code f.pc = .ok (i, len))
    (hw : wpRun (p.tables.exec i) (fun _ s₁ _ => ∀ acts, P (afterInstr e len (.ok () s₁ acts)).1) (fun x s₁ _ => ∀ acts, P (afterInstr e len (.ctl x s₁ acts)).1) e (s.setTop f)) : ∃ s', P s' ∧ Steps p.tables e below (s.setTop f) s' := by
  have hw := (wpRun_iff_run _ _ _ _ _).mp hw
  refine ⟨(stepThread p.tables e (s.setTop f)).1, ?_, Steps.head ⟨h.running, by rw [State.curStatus?_setTop]; exact h.runnable, by rw [State.alone_setTop]; exact h.alone⟩ (h.within f) (Steps.refl _)⟩
  rw [stepThread_java (State.frames_setTop' f h.top) h.plain h.code hd]
  cases hr : (p.tables.exec i).run e (s.setTop f) with
  | ok a s₁ acts => rw [hr] at hw; exact hw acts
  | ctl x s₁ acts => rw [hr] at hw; cases x <;> first | exact hw acts | exact hw.elim
set_option maxHeartbeats 2000000 in
/-- the instruction, over what its 'make' does -/
theorem z_multiE {T : State} {own cn : String} {ix dm a b B : Nat} {ns : List Int32} {rest : List Value} {cA : ClassId} {L : Nat → Heap → Prop} {g : JFrame} (X : Stand p lc e R0 s mm args below meth c T locs cells slots) (hx : p.tables.exec = Jvm.exec) (hown : s.vm.findClass own = some mm.cls)
    (hcl : (Cond.classLink own ix cn).before args s = true) (hcA : s.vm.findClass cn = some cA) (hB : B ≤ T.heap.size) (hlo : ∀ q ∈ locs, B ≤ q.base) (hg : g.method = mm) (hstack : g.stack = (ns.map Value.int).reverse ++ rest) (hlen : ns.length = dm) (hdm : dm = 2 ∨ dm = 3)
    (mk : lc.admits e → ∀ (V : Vm) (g : JFrame), s.vm.Alike V → zMk (zMP p lc e R0 s mm args below meth c g B) V e R0.cells R0.slots cA ns a b L) (hc : cells + a ≤ R0.cells) (hs : slots + b ≤ R0.slots) (hd : decode c.code g.pc = .ok (.multianewarray ix dm, 4))
    {G : State → Prop} (kk : ∀ (T' : State) (locs' : List Loc), Stand p lc e R0 s mm args below meth c T' locs' (cells + a) (slots + b) → T'.heap.size = T.heap.size + a → (∀ q, q < T.heap.size → T'.heap[q]? = T.heap[q]?) → L T.heap.size T'.heap → (∀ q ∈ locs', B ≤ q.base) → G (T'.setTop { g with pc := g.pc + 4, stack := .ref T.heap.size :: rest })) :
    ∃ s', G s' ∧ Steps p.tables e below (T.setTop g) s' := by
  subst hg
  have hpl : e.platform.magicAccessors = ({} : Platform).magicAccessors := by rw [X.admits.platform]
  obtain ⟨c0, hfc0, hcl0⟩ := Cond.classLink_spec hown hcl e.platform hpl
  cases hcA.symm.trans hfc0
  obtain ⟨hg₁, hwarm₁, hready₁⟩ := State.classEntry (e := e) X.warmed hcl0
  generalize T.vm.noted g.method.cls ix (.cls cA) = vm₁ at hg₁ hwarm₁ hready₁
  have X₁ := X.noted hwarm₁
  have hgo : ∀ (Q' : Addr → Pre) (d' : Bool) (acts' : List Action), (∀ (T' : State) (locs' : List Loc) d2 acts2, Stand p lc e R0 s g.method args below meth c T' locs' (cells + a) (slots + b) → T'.heap.size = T.heap.size + a → (∀ q, q < T.heap.size → T'.heap[q]? = T.heap[q]?) → L T.heap.size T'.heap → (∀ q ∈ locs', B ≤ q.base) → Q' T.heap.size d2 acts2 (T'.setTop { g with stack := rest })) →
      ∀ E : CtlPost, wp (multianewarray.make cA ns) Q' E e d' acts' ((T.setVm vm₁).setTop { g with stack := rest }) := by
    intro Q' d' acts' hq E
    refine mk X.admits vm₁ { g with stack := rest } hwarm₁.alike E _ cells slots d' acts' Q' ⟨T.setVm vm₁, locs, rfl, X₁, hlo, hB⟩ rfl hc hs ?_
    rintro s' d2 acts2 ⟨T', locs', rfl, X', h1, h2⟩ h3 h4 h5 h6
    exact hq T' locs' d2 acts2 X' h4 h5 h6 h1
  refine z_instrE (P := G) X.here hd ?_
  rw [hx]
  simp only [wpRun, exec, multianewarray.sem, wp_bind', W.resolveClassAt_links (State.method?_setTop g X.here.top) hg₁]
  have eS : ((T.setTop g).setVm vm₁).setTop { g with stack := rest } = (T.setVm vm₁).setTop { g with stack := rest } := by
    show ((T.setVm vm₁).setTop g).setTop _ = _
    rw [State.setTop_setTop]
  have fin : ∀ (T' : State) (locs' : List Loc) (d2 : Bool) (acts2 : List Action), Stand p lc e R0 s g.method args below meth c T' locs' (cells + a) (slots + b) → T'.heap.size = T.heap.size + a → (∀ q, q < T.heap.size → T'.heap[q]? = T.heap[q]?) → L T.heap.size T'.heap → (∀ q ∈ locs', B ≤ q.base) →
      wp (do mark "op.multianewarray"; pushRef T.heap.size) (fun _ _ acts s₁ => ∀ acts, G (afterInstr e 4 (.ok () s₁ acts)).1) (fun x acts s₁ => ∀ acts, G (afterInstr e 4 (.ctl x s₁ acts)).1) e d2 acts2 (T'.setTop { g with stack := rest }) := by
    intro T' locs' d2 acts2 X' h1 h2 h3 h4
    simp only [wp_bind', W.mark, W.pushRef, State.topJava?_setTop' _ X'.here.top, Option.some.injEq, exists_eq_left', State.setTop_setTop]
    intro acts
    have := kk T' locs' X' h1 h2 h3 h4
    simpa [jvm, X'.here.top] using this
  rcases hdm with rfl | rfl
  · match ns, hlen with
    | [n, m], _ =>
      rw [W.popN, if_neg (by decide)]
      refine ⟨g, State.topJava?_setTop' (s := T.setVm vm₁) g X.here.top, [.int n, .int m], rest, rfl, hstack, ?_⟩
      simp only [List.mapM_cons, List.mapM_nil, wp_bind', wp_pure']
      rw [eS]
      exact hgo _ _ _ (fun T' locs' d2 acts2 X' h1 h2 h3 h4 => by have := fin T' locs' d2 acts2 X' h1 h2 h3 h4; simpa only [wp_bind'] using this) _
  · match ns, hlen with
    | [n, m, k], _ =>
      rw [W.popN, if_neg (by decide)]
      refine ⟨g, State.topJava?_setTop' (s := T.setVm vm₁) g X.here.top, [.int n, .int m, .int k], rest, rfl, hstack, ?_⟩
      simp only [List.mapM_cons, List.mapM_nil, wp_bind', wp_pure']
      rw [eS]
      exact hgo _ _ _ (fun T' locs' d2 acts2 X' h1 h2 h3 h4 => by have := fin T' locs' d2 acts2 X' h1 h2 h3 h4; simpa only [wp_bind'] using this) _
theorem z_multi {cc : ByteArray} {own cn : String} {ix pc dm a b B : Nat} {ns : List Int32} {rest : List Value} {ls : Array Slot} {cA : ClassId} {L : Nat → Heap → Prop} (hx : p.tables.exec = Jvm.exec) (hb : c.code = cc) (hown : s.vm.findClass own = some mm.cls)
    (hcl : (Cond.classLink own ix cn).before args s = true) (hcA : s.vm.findClass cn = some cA) (hB : B ≤ H.size) (hlo : ∀ q ∈ locs, B ≤ q.base) (hlen : ns.length = dm) (hdm : dm = 2 ∨ dm = 3)
    (mk : lc.admits e → ∀ (V : Vm) (g : JFrame), s.vm.Alike V → zMk (zMP p lc e R0 s mm args below meth c g B) V e R0.cells R0.slots cA ns a b L) (hc : cells + a ≤ R0.cells) (hs : slots + b ≤ R0.slots) (hd : decode cc pc = .ok (.multianewarray ix dm, 4))
    (kk : ∀ (H1 : Heap) (locs1 : List Loc), H1.size = H.size + a → (∀ q, q < H.size → H1[q]? = H[q]?) → L H.size H1 → (∀ q ∈ locs1, B ≤ q.base) → W p lc e R0 s mm args below meth c H1 locs1 (cells + a) (slots + b) Q (F0 mm (pc + 4) ls (.ref H.size :: rest))) :
    W p lc e R0 s mm args below meth c H locs cells slots Q (F0 mm pc ls ((ns.map Value.int).reverse ++ rest)) := by
  intro T hT X
  subst hT
  obtain ⟨s', ⟨t, h1, h2⟩, h3⟩ := z_multiE (g := F0 mm pc ls ((ns.map Value.int).reverse ++ rest)) X hx hown hcl hcA hB hlo rfl rfl hlen hdm mk hc hs (by rw [hb]; exact hd)
    (G := fun u => ∃ t, Steps p.tables e below u t ∧ Q t) (fun T' locs' X' h1 h2 h3 h4 => kk T'.heap locs' h1 h2 h3 h4 T' rfl X')
  exact ⟨t, h3.trans h1, h2⟩
theorem zm_lim (h : lc.admits e) {n k : Nat} (hn : n ≤ 4096) (hk : k ≤ 8) : ¬ n > e.platform.arrayLengthLimit ∧ ¬ n * k > e.platform.maxHeapBytes := by
  have h8 : n * k ≤ 4096 * 8 := Nat.mul_le_mul hn hk
  rw [Launch.admits_arrayLengthLimit h, Launch.admits_maxHeapBytes h]
  exact ⟨by omega, by omega⟩
theorem arrV_cg {cA : ClassId} {N : Nat} {f g : Nat → Value} (h : ∀ j, j < N → f j = g j) : arrV cA N f = arrV cA N g := by
  unfold arrV
  congr 1
  apply Array.ext_getElem?
  intro j
  by_cases hj : j < N
  · simp [Array.getElem?_ofFn, hj, h j hj]
  · simp [Array.getElem?_ofFn, hj]
theorem zm_neg {m : Int32} {ms : List Int32} (h : ¬ m < 0) (h2 : ms.find? (· < 0) = none) : (m :: ms).find? (· < 0) = none := by
  rw [List.find?_cons]
  have : decide (m < 0) = false := by simpa using h
  rw [this]
  exact h2
def zL1 (Z : zX) (J : Nat) : Nat → Heap → Prop := fun h H => H[h]? = some (arrV (zcy Z 20) J (fun _ => .int 0))
def zL2 (Z : zX) (N J : Nat) : Nat → Heap → Prop := fun h H => H[h]? = some (arrV (zcy Z 25) N (fun j => .ref (h + 1 + j * 1))) ∧ ∀ j, j < N → zL1 Z J (h + 1 + j * 1) H
def zL3 (Z : zX) (N K J : Nat) : Nat → Heap → Prop := fun h H => H[h]? = some (arrV (zcy Z 26) N (fun j => .ref (h + 1 + j * (1 + K * 1)))) ∧ ∀ j, j < N → zL2 Z K J (h + 1 + j * (1 + K * 1)) H
theorem zMk_d2 {V : Vm} {g : JFrame} {B : Nat} {n j : Int32} {N J : Nat} (had : lc.admits e) (hA : zAA Z V) (hn : ¬ n < 0) (hj : ¬ j < 0) (hN : n.toNatClampNeg = N) (hJ : j.toNatClampNeg = J) (hN4 : N ≤ 4096) (hJ4 : J ≤ 4096) :
    zMk (zMP p lc e R0 s mm args below meth c g B) V e R0.cells R0.slots (zcy Z 25) [n, j] (1 + N * 1) (N + N * J) (zL2 Z N J) := by
  obtain ⟨⟨k1, co, h1, h2⟩, ⟨k2, h3, h4⟩, -⟩ := hA
  obtain ⟨q1, q2⟩ := zm_lim (k := 4) had hN4 (by decide)
  obtain ⟨q3, q4⟩ := zm_lim (k := 4) had hJ4 (by decide)
  refine zMk_S (P := zMP p lc e R0 s mm args below meth c g B) (B := B) zMP_room zMP_push zMP_set (fun s x y ⟨T, l, e, _, _, hB⟩ => by rw [e]; exact hB) h3 h4 rfl hn hN q1 q2 (zm_neg hj rfl) (fun h H H' hl hq => ?_) (zMk_1 zMP_room zMP_push h1 h2 hj hJ q3 q4)
  show H'[h]? = _
  rw [hq h (Nat.le_refl _) (by omega)]
  exact hl
theorem zMk_d3 {V : Vm} {g : JFrame} {B : Nat} {n y j : Int32} {N K J : Nat} (had : lc.admits e) (hA : zAA Z V) (hn : ¬ n < 0) (hy : ¬ y < 0) (hj : ¬ j < 0) (hN : n.toNatClampNeg = N) (hK : y.toNatClampNeg = K) (hJ : j.toNatClampNeg = J) (hN4 : N ≤ 4096) (hK4 : K ≤ 4096) (hJ4 : J ≤ 4096) :
    zMk (zMP p lc e R0 s mm args below meth c g B) V e R0.cells R0.slots (zcy Z 26) [n, y, j] (1 + N * (1 + K * 1)) (N + N * (K + K * J)) (zL3 Z N K J) := by
  obtain ⟨-, -, ⟨k3, h5, h6⟩⟩ := id hA
  obtain ⟨q1, q2⟩ := zm_lim (k := 4) had hN4 (by decide)
  refine zMk_S (P := zMP p lc e R0 s mm args below meth c g B) (B := B) zMP_room zMP_push zMP_set (fun s x y ⟨T, l, e, _, _, hB⟩ => by rw [e]; exact hB) h5 h6 rfl hn hN q1 q2 (zm_neg hy (zm_neg hj rfl)) (fun h H H' hl hq => ?_) (zMk_d2 had hA hy hj hK hJ hK4 hJ4)
  refine ⟨?_, fun i hi => ?_⟩
  · rw [hq h (Nat.le_refl _) (by omega)]
    exact hl.1
  · show H'[_]? = _
    rw [hq _ (by omega) (by omega)]
    exact hl.2 i hi
theorem znm2_k (M : zM) (t N J a : Nat) : zk (znm2 M t N J) a = if a = zn M then (t, N) else if zn M < a ∧ a ≤ zn M + N then (20, J) else zk M a := rfl
theorem znm2_r (M : zM) (t N J a i : Nat) : zr (znm2 M t N J) a i = if a = zn M ∧ i < N then some (zn M + 1 + i) else zr M a i := rfl
theorem znm3_k (M : zM) (N K J a : Nat) : zk (znm3 M N K J) a = if a = zn M then (26, N) else if zn M < a ∧ a ≤ zn M + N * (1 + K) then (if (a - zn M - 1) % (1 + K) = 0 then (25, K) else (20, J)) else zk M a := rfl
theorem znm3_r (M : zM) (N K J a i : Nat) : zr (znm3 M N K J) a i = if a = zn M ∧ i < N then some (zn M + 1 + i * (1 + K)) else if zn M < a ∧ a ≤ zn M + N * (1 + K) ∧ (a - zn M - 1) % (1 + K) = 0 ∧ i < K then some (a + 1 + i) else zr M a i := rfl
theorem zent_eq {M M2 : zM} {b : Nat} (h1 : zk M2 b = zk M b) (h2 : zi M2 b = zi M b) (h3 : zr M2 b = zr M b) (h4 : zl M2 b = zl M b) : zent Z M2 b = zent Z M b := by
  have e2 : ∀ t j, zgv M2 t b j = zgv M t b j := fun t j => by
    unfold zgv
    rw [h2, h3]
  unfold zent
  simp only [e2, h1, h2, h3, h4]
/-- behind new cells -/
theorem z_nws {M M2 : zM} {H1 : Heap} {locs1 : List Loc} {k : Nat} (hI : zInv Z s M H locs cells) (hn : zn M2 = zn M + k) (hsz : H1.size = H.size + k) (hold : ∀ q, q < H.size → H1[q]? = H[q]?) (hlo : ∀ q ∈ locs1, zb Z ≤ q.base)
    (he : ∀ b, b < zn M → zent Z M2 b = zent Z M b) (hnew : ∀ i, i < k → va_at (zD Z) zCl (H.size + i, zent Z M2 (zn M + i)) H1) (hf : zFr M2) (hk : zSk Z M2) : zInv Z s M2 H1 locs1 (cells + k) := by
  obtain ⟨⟨h16, hH, hP, hfr, hsk⟩, hc, hS, hb⟩ := hI
  refine ⟨⟨by omega, by omega, fun i q hq => ?_, hf, hk⟩, by omega, ⟨by have := hS.1; omega, fun q h1 h2 => (hold q (Nat.lt_of_lt_of_le h1 hS.1)).trans (hS.2.1 q h1 h2), hlo⟩, hb⟩
  obtain ⟨hi, rfl⟩ := zws_at hq
  rcases Nat.lt_or_ge i (zn M - 16) with h | h
  · have h2 := zws_get (Z := Z) (M := M) (a := 16 + i) (by omega) (by omega)
    rw [show 16 + i - 16 = i by omega, zρ_own (by omega), show 16 + i - 16 = i by omega] at h2
    have h3 := hP i _ h2
    rw [he _ (by omega)]
    exact h3.kept (hold _ h3.lt)
  · have h4 := hnew (i - (zn M - 16)) (by omega)
    rw [show H.size + (i - (zn M - 16)) = zb Z + i by omega, show zn M + (i - (zn M - 16)) = 16 + i by omega] at h4
    exact h4
theorem z_m2 {M : zM} {H1 : Heap} {locs1 : List Loc} {N J : Nat} (hI : zInv Z s M H locs cells) (hsz : H1.size = H.size + (1 + N * 1)) (hold : ∀ q, q < H.size → H1[q]? = H[q]?) (hL : zL2 Z N J H.size H1) (hlo : ∀ q ∈ locs1, zb Z ≤ q.base) :
    zInv Z s (znm2 M 25 N J) H1 locs1 (cells + (1 + N * 1)) := by
  obtain ⟨h16, hH, hP, hfr, hsk⟩ := hI.1
  have kold : ∀ b, b < zn M → zk (znm2 M 25 N J) b = zk M b ∧ zr (znm2 M 25 N J) b = zr M b := by
    intro b hb
    refine ⟨?_, funext fun i => ?_⟩
    · rw [znm2_k, if_neg (by omega), if_neg (by omega)]
    · rw [znm2_r, if_neg (by omega)]
  refine z_nws (k := 1 + N * 1) hI (by show zn M + 1 + N = _; omega) hsz hold hlo (fun b hb => zent_eq (kold b hb).1 rfl (kold b hb).2 rfl) (fun i hi => ?_) (fun b hb => ?_) ?_
  · have f0 := hfr (zn M + i) (by omega)
    rcases Nat.eq_zero_or_pos i with h | h
    · subst h
      have hk : zk (znm2 M 25 N J) (zn M) = (25, N) := if_pos rfl
      show va_at _ _ (H.size, zent Z (znm2 M 25 N J) (zn M)) H1
      rw [zent_r hk (by decide)]
      show H1[H.size]? = some (vp_cell _ _)
      rw [vp_cell_q, hL.1]
      congr 1
      refine arrV_cg fun j hj => ?_
      rw [znm2_r, if_pos ⟨rfl, hj⟩]
      show _ = Value.ref (zρ Z (zn M + 1 + j))
      rw [zρ_own (by omega), hH]
      exact congrArg Value.ref (show zb Z + (zn M - 16) + 1 + j * 1 = zb Z + (zn M + 1 + j - 16) by omega)
    · have hk : zk (znm2 M 25 N J) (zn M + i) = (20, J) := by
        rw [znm2_k, if_neg (by omega), if_pos (by omega)]
      rw [zent_i hk]
      show H1[H.size + i]? = some (vp_cell _ _)
      rw [vp_cell_i]
      have h2 := hL.2 (i - 1) (by omega)
      unfold zL1 at h2
      rw [show H.size + 1 + (i - 1) * 1 = H.size + i by omega] at h2
      rw [h2]
      congr 1
      refine arrV_cg fun j hj => ?_
      show _ = Value.int (zi M (zn M + i) j)
      rw [(f0.2 j).1]
  · have hb : zn M + 1 + N ≤ b := hb
    have f0 := hfr b (by omega)
    refine ⟨?_, fun j => ⟨(f0.2 j).1, ?_, (f0.2 j).2.2⟩⟩
    · rw [znm2_k, if_neg (by omega), if_neg (by omega)]
      exact f0.1
    · rw [znm2_r, if_neg (by omega)]
      exact (f0.2 j).2.1
  · exact ⟨(kold 0 (by omega)).1.trans hsk.1, (kold 1 (by omega)).1.trans hsk.2.1, (kold 2 (by omega)).1.trans hsk.2.2.1, fun a h1 h2 => (kold a (by omega)).1.trans (hsk.2.2.2.1 a h1 h2), hsk.2.2.2.2⟩
theorem z_m3 {M : zM} {H1 : Heap} {locs1 : List Loc} {N K J : Nat} (hI : zInv Z s M H locs cells) (hsz : H1.size = H.size + (1 + N * (1 + K * 1))) (hold : ∀ q, q < H.size → H1[q]? = H[q]?) (hL : zL3 Z N K J H.size H1) (hlo : ∀ q ∈ locs1, zb Z ≤ q.base) :
    zInv Z s (znm3 M N K J) H1 locs1 (cells + (1 + N * (1 + K * 1))) := by
  obtain ⟨h16, hH, hP, hfr, hsk⟩ := hI.1
  rw [Nat.mul_one] at hsz ⊢
  have kold : ∀ b, b < zn M → zk (znm3 M N K J) b = zk M b ∧ zr (znm3 M N K J) b = zr M b := by
    intro b hb
    refine ⟨?_, funext fun i => ?_⟩
    · rw [znm3_k, if_neg (by omega), if_neg (by omega)]
    · rw [znm3_r, if_neg (by omega), if_neg (fun q => by omega)]
  refine z_nws (k := 1 + N * (1 + K)) hI (by show zn M + 1 + N * (1 + K) = _; omega) hsz hold hlo (fun b hb => zent_eq (kold b hb).1 rfl (kold b hb).2 rfl) (fun i hi => ?_) (fun b hb => ?_) ?_
  · have f0 := hfr (zn M + i) (by omega)
    rcases Nat.eq_zero_or_pos i with h | h
    · subst h
      have hk : zk (znm3 M N K J) (zn M) = (26, N) := if_pos rfl
      show va_at _ _ (H.size, zent Z (znm3 M N K J) (zn M)) H1
      rw [zent_r hk (by decide)]
      show H1[H.size]? = some (vp_cell _ _)
      rw [vp_cell_q, hL.1]
      congr 1
      refine arrV_cg fun j hj => ?_
      rw [znm3_r, if_pos ⟨rfl, hj⟩]
      show _ = Value.ref (zρ Z (zn M + 1 + j * (1 + K)))
      rw [zρ_own (by omega), hH, Nat.mul_one]
      exact congrArg Value.ref (show zb Z + (zn M - 16) + 1 + j * (1 + K) = zb Z + (zn M + 1 + j * (1 + K) - 16) by omega)
    · have hdm := Nat.div_add_mod (i - 1) (1 + K)
      have hml := Nat.mod_lt (i - 1) (show 1 + K > 0 by omega)
      have hdl : (i - 1) / (1 + K) < N := Nat.div_lt_of_lt_mul (by rw [Nat.mul_comm]; omega)
      generalize (i - 1) / (1 + K) = t at hdm hdl
      have hmc : (1 + K) * t = t * (1 + K) := Nat.mul_comm _ _
      have h3 := hL.2 t hdl
      rw [Nat.mul_one] at h3
      have hmod : (zn M + i - zn M - 1) % (1 + K) = (i - 1) % (1 + K) := by congr 1; omega
      by_cases hr : (i - 1) % (1 + K) = 0
      · have hk : zk (znm3 M N K J) (zn M + i) = (25, K) := by
          rw [znm3_k, if_neg (by omega), if_pos (by omega), hmod, if_pos hr]
        rw [zent_r hk (by decide)]
        show H1[H.size + i]? = some (vp_cell _ _)
        rw [vp_cell_q]
        have h4 := h3.1
        rw [show H.size + 1 + t * (1 + K) = H.size + i by omega] at h4
        rw [h4]
        congr 1
        refine arrV_cg fun j hj => ?_
        rw [znm3_r, if_neg (by omega), if_pos ⟨by omega, by omega, by rw [hmod]; exact hr, hj⟩]
        show _ = Value.ref (zρ Z (zn M + i + 1 + j))
        rw [zρ_own (by omega), hH]
        exact congrArg Value.ref (show zb Z + (zn M - 16) + i + 1 + j * 1 = zb Z + (zn M + i + 1 + j - 16) by omega)
      · have hk : zk (znm3 M N K J) (zn M + i) = (20, J) := by
          rw [znm3_k, if_neg (by omega), if_pos (by omega), hmod, if_neg hr]
        rw [zent_i hk]
        show H1[H.size + i]? = some (vp_cell _ _)
        rw [vp_cell_i]
        have h4 := h3.2 ((i - 1) % (1 + K) - 1) (by omega)
        unfold zL1 at h4
        rw [show H.size + 1 + t * (1 + K) + 1 + ((i - 1) % (1 + K) - 1) * 1 = H.size + i by omega] at h4
        rw [h4]
        congr 1
        refine arrV_cg fun j hj => ?_
        show _ = Value.int (zi M (zn M + i) j)
        rw [(f0.2 j).1]
  · have hb : zn M + 1 + N * (1 + K) ≤ b := hb
    have f0 := hfr b (by omega)
    refine ⟨?_, fun j => ⟨(f0.2 j).1, ?_, (f0.2 j).2.2⟩⟩
    · rw [znm3_k, if_neg (by omega), if_neg (by omega)]
      exact f0.1
    · rw [znm3_r, if_neg (by omega), if_neg (fun q => by omega)]
      exact (f0.2 j).2.1
  · exact ⟨(kold 0 (by omega)).1.trans hsk.1, (kold 1 (by omega)).1.trans hsk.2.1, (kold 2 (by omega)).1.trans hsk.2.2.1, fun a h1 h2 => (kold a (by omega)).1.trans (hsk.2.2.2.1 a h1 h2), hsk.2.2.2.2⟩
end ZMX
end
section
/-! ===== one instruction after another ===== -/
section ZR
variable {p : Program} {lc : Launch} {e : Env} {R0 : Room} {s : State} {mm : MethodId} {args : Array Value} {below : List Frame} {meth : Method} {c : Code} {Q : State → Prop} {Z : zX} {M' : zM} {d m : Nat} {v : Option Value}
theorem zUpd_rf {f : Nat → Option Nat} {k b : Nat} {Z : zX} : (fun j => (va_up f k (some b) j).map (zρ Z)) = va_up (fun j => (f j).map (zρ Z)) k (some (zρ Z b)) := by
  funext j
  unfold va_up
  by_cases h : j = k
  · rw [if_pos h, if_pos h]; rfl
  · rw [if_neg h, if_neg h]
theorem zi_wi_self {M : zM} {a k : Nat} {x : Int32} : zi (zwi M a k x) a = upd (zi M a) k x := by
  funext j
  show (if a = a ∧ j = k then x else zi M a j) = upd (zi M a) k x j
  unfold upd
  by_cases h : j = k
  · rw [if_pos ⟨rfl, h⟩, if_pos h]
  · rw [if_neg (fun q => h q.2), if_neg h]
theorem zl_wl_self {M : zM} {a k : Nat} {x : Int64} : zl (zwl M a k x) a = vp_updL (zl M a) k x := by
  funext j
  show (if a = a ∧ j = k then x else zl M a j) = vp_updL (zl M a) k x j
  unfold vp_updL
  by_cases h : j = k
  · rw [if_pos ⟨rfl, h⟩, if_pos h]
  · rw [if_neg (fun q => h q.2), if_neg h]
theorem zr_wr_self {M : zM} {a k : Nat} {x : Option Nat} : zr (zwr M a k x) a = va_up (zr M a) k x := by
  funext j
  show (if a = a ∧ j = k then x else zr M a j) = va_up (zr M a) k x j
  unfold va_up
  by_cases h : j = k
  · rw [if_pos ⟨rfl, h⟩, if_pos h]
  · rw [if_neg (fun q => h q.2), if_neg h]
theorem zi_cp_self {M : zM} {a0 s0 a dd n : Nat} : zi (zcp M a0 s0 a dd n) a = va_cpy (zi M a0) (zi M a) s0 dd n := by
  funext j
  show (if a = a ∧ dd ≤ j ∧ j < dd + n then zi M a0 (s0 + (j - dd)) else zi M a j) = va_cpy (zi M a0) (zi M a) s0 dd n j
  unfold va_cpy
  by_cases h : dd ≤ j ∧ j < dd + n
  · rw [if_pos ⟨rfl, h⟩, if_pos h]
  · rw [if_neg (fun q => h q.2), if_neg h]
/-- an int row that stands beside the machine's own -/
theorem z_tld {H : Heap} {locs : List Loc} {cells slots pc t N : Nat} {ls : Array Slot} {rest : List Value} {f : Nat → Int32} {A : Nat → Prop} {i : Int32} (hexec : p.tables.exec = Jvm.exec) {cc : ByteArray} (hb : c.code = cc) (hT : va_T .int t N (fun j => .int (f j)) A s s.heap) (hS : va_S A s.heap H locs) (hin : vp_in i N) (hdg : decode cc pc = .ok (.iaload, 1))
    (kk : W p lc e R0 s mm args below meth c H locs cells slots Q (F0 mm (pc + 1) ls (.int (f i.toNatClampNeg) :: rest))) : W p lc e R0 s mm args below meth c H locs cells slots Q (F0 mm pc ls (.int i :: .ref t :: rest)) := by
  obtain ⟨cell, h1, h2, h3, h4, h5, h6, h7⟩ := hT
  have hlt : t < s.heap.size := (Array.getElem?_eq_some_iff.mp h1).1
  have hj : i.toNatClampNeg < N := Nat.not_le.mp fun q => hin (Or.inr q)
  exact W.iald hexec hb (by rw [hS.2.1 t hlt h7]; exact h1) h2 h3 (fun q => q.elim (fun q => hin (Or.inl q)) (fun q => by omega)) (h6 _ hj) rfl rfl hdg kk
theorem z_tlen {H : Heap} {locs : List Loc} {cells slots pc t N : Nat} {ls : Array Slot} {rest : List Value} {f : Nat → Int32} {A : Nat → Prop} (hexec : p.tables.exec = Jvm.exec) {cc : ByteArray} (hb : c.code = cc) (hT : va_T .int t N (fun j => .int (f j)) A s s.heap) (hS : va_S A s.heap H locs) (hdg : decode cc pc = .ok (.arraylength, 1))
    (kk : W p lc e R0 s mm args below meth c H locs cells slots Q (F0 mm (pc + 1) ls (.int (Int32.ofNat N) :: rest))) : W p lc e R0 s mm args below meth c H locs cells slots Q (F0 mm pc ls (.ref t :: rest)) := by
  obtain ⟨cell, h1, h2, h3, h4, h5, h6, h7⟩ := hT
  have hlt : t < s.heap.size := (Array.getElem?_eq_some_iff.mp h1).1
  exact W.alen hexec hb (by rw [hS.2.1 t hlt h7]; exact h1) h2 h5 rfl rfl hdg kk
theorem zSp_at {M : zM} {a N : Nat} (h : zSk Z M) (ha : a < 3) (hk : zk M a = (30, N)) (hs : zSpc Z s s.heap) : va_T .int (zρ Z a) N (fun j => .int (zi M a j)) (zAd Z) s s.heap := by
  have e : zρ Z a = zsp Z a := if_pos (by omega)
  rw [e]
  rcases (show a = 0 ∨ a = 1 ∨ a = 2 by omega) with rfl | rfl | rfl
  · have hN : N = zLn Z := by have := hk.symm.trans h.1; simpa using this
    rw [hN, h.2.2.2.2.1]
    exact hs.1
  · have hN : N = 6 := by have := hk.symm.trans h.2.1; simpa using this
    rw [hN, h.2.2.2.2.2.1]
    exact hs.2.1
  · have hN : N = 6 := by have := hk.symm.trans h.2.2.1; simpa using this
    rw [hN, h.2.2.2.2.2.2]
    exact hs.2.2.1
theorem z_aald {H : Heap} {locs : List Loc} {cells slots pc a n : Nat} {ls : Array Slot} {rest : List Value} {f : Nat → Option Nat} {cA : ClassId} {ty : FieldType} {i : Int32} (hexec : p.tables.exec = Jvm.exec) {cc : ByteArray} (hb : c.code = cc) (hA : ArrOfT s cA ty) (hty : ty.isReference = true)
    (ha : H[a]? = some (vp_cell cA (n, .inr (.inr (.inr (.inr f)))))) (hin : vp_in i n) (hdg : decode cc pc = .ok (.aaload, 1))
    (kk : W p lc e R0 s mm args below meth c H locs cells slots Q (F0 mm (pc + 1) ls (va_rf (f i.toNatClampNeg) :: rest))) : W p lc e R0 s mm args below meth c H locs cells slots Q (F0 mm pc ls (.int i :: .ref a :: rest)) := by
  have hlt : i.toNatClampNeg < n := Nat.not_le.mp fun q => hin (Or.inr q)
  exact W.aald (v := va_rf (f i.toNatClampNeg)) (ty := ty) hexec hb ha (hA n (fun j => va_rf (f j))) hty (fun q => by cases q) (by show ¬ (i < 0 ∨ (arrV _ _ _).slots.size ≤ _); rw [arrV_size]; exact hin) (by show (arrV _ _ _).slots[_]? = _; rw [arrV_read _ _ hlt]) rfl rfl hdg kk
theorem zTy_at (t : Nat) (h1 : 20 ≤ t) (h2 : t < 27) : ∃ ty, (zTy Z)[t - 20]? = some (zcy Z t, ty) ∧ (22 ≤ t → ty.isReference = true) := by
  rcases (show t = 20 ∨ t = 21 ∨ t = 22 ∨ t = 23 ∨ t = 24 ∨ t = 25 ∨ t = 26 by omega) with rfl | rfl | rfl | rfl | rfl | rfl | rfl
  · exact ⟨_, rfl, fun h => absurd h (by decide)⟩
  · exact ⟨_, rfl, fun h => absurd h (by decide)⟩
  all_goals exact ⟨_, rfl, fun _ => rfl⟩
/-- a call that comes back: the worlds of before and behind -/
theorem z_call {H : Heap} {locs : List Loc} {cells slots pc : Nat} {ls : Array Slot} {st0 rest : List Value} {M M1 : zM} {w : Option Value} {aa : Array Value} (hI : zInv Z s M H locs cells) (hm1 : zn M ≤ zn M1)
    (hr : va_Run p lc e R0 s mm args below meth c H locs cells slots (zn M1 - zn M) (zs M1 - zs M) (F0 mm pc ls st0) (rest.map (zτ Z)) (zQc Z w M1 aa) (zAd Z))
    (kk : ∀ (H1 : Heap) (locs1 : List Loc), zInv Z s M1 H1 locs1 (cells + (zn M1 - zn M)) → W p lc e R0 s mm args below meth c H1 locs1 (cells + (zn M1 - zn M)) (slots + (zs M1 - zs M)) Q (F0 mm (pc + 3) ls ((w.toList ++ rest).map (zτ Z)))) :
    W p lc e R0 s mm args below meth c H locs cells slots Q (F0 mm pc ls st0) := by
  refine z_back hr (fun v st1 t L h0 hW hq hL => ?_)
  obtain ⟨hv, hcore1, hF⟩ := hq
  obtain ⟨hcore, hcs, hS, hbs⟩ := hI
  have hv : v = w.map (zτ Z) := by cases hv; rfl
  have e : v.toList ++ rest.map (zτ Z) = (w.toList ++ rest).map (zτ Z) := by
    rw [hv, List.map_append]
    cases w <;> rfl
  rw [e]
  rw [show va_F (zAd Z) st1 t = (st1.heap.size ≤ t.heap.size ∧ ∀ q : Nat, q < st1.heap.size → ¬ zAd Z q → t.heap[q]? = st1.heap[q]?) from rfl, h0] at hF
  have h16 := hcore.1
  exact kk t.heap (locs ++ L) ⟨hcore1, by omega, ⟨Nat.le_trans hS.1 hF.1, fun q h1 h2 => (hF.2 q (Nat.lt_of_lt_of_le h1 hS.1) h2).trans (hS.2.1 q h1 h2), fun q hq => by
    rcases List.mem_append.mp hq with h | h
    · exact hS.2.2 q h
    · exact hL q h⟩, hbs⟩
theorem zSpc_now {H : Heap} {locs : List Loc} (hSp : zSpc Z s s.heap) (hS : va_S (zAd Z) s.heap H locs) : zSpc Z s H := hSp.kept (fun a h1 h2 => hS.2.1 a h1 h2)
/-- a callee's start at a call -/
theorem z_pre {H : Heap} {locs : List Loc} {cells : Nat} {M : zM} {as : List Value} (hT : zTab Z s) (hSp : zSpc Z s s.heap) (hI : zInv Z s M H locs cells) : ∀ U : State, U.heap = H → s.WarmedH U.vm → zPc Z as M (as.map (zτ Z)).toArray U := by
  intro U hU hW
  obtain ⟨hcore, hcs, hS, hbs⟩ := hI
  exact ⟨rfl, by rw [hU]; exact hcore, hT.warm hW, by rw [hU]; exact (zSpc_now hSp hS).moved hW.alike⟩
theorem zWs_in {y : Nat} (hy : y < 216) : GoodIn zW (zWs y) := by
  intro w hw
  rcases List.mem_cons.mp hw with h | h
  · subst h
    exact zW_good _ (zM_ok hy).2.2.2.1
  · exact zW_good _ h
theorem zCB {R0 : Room} {y ix mc ms o : Nat} (hts : ∀ w ∈ zW, w.before args s = true) (hfr : d + 1 ≤ R0.frames) (hlo : 60 * (d + 1) ≤ R0.locals) (hy : y < 216) (hini : (Cond.initialized (zNm y).cls).before args s = true) (hl : (Cond.methodLink (zRn o) ix (zNm y)).before args s = true) :
    CallB R0 s args (zRn o) ix (zNm y) (zB y) (zML y) (zRt y) (zWs y) (zRm d mc ms) mc ms (zA y) := by
  obtain ⟨k1, k2, k3, k4, k5, k6, k7⟩ := zM_ok hy
  exact callB_of (zA y) hts (zWs_in hy) rfl rfl rfl hini hl ⟨k2.1, k2.2, k3⟩ ⟨hfr, by show 8 + (zML y + 11) + 60 * d ≤ R0.locals; omega⟩
theorem zct_room {rest : List Value} {pc : Nat} {ls : Array Slot} {st0 : List Value} (h : zct rest ≤ 8) : 2 * (F0 mm pc ls st0).monitorRoom + ((rest.map (zτ Z)).map fun v => v.category).sum ≤ 8 := by
  refine lv_room ?_
  rw [zct_map]
  exact h
theorem zmap_stack {as rest : List Value} {b : Nat} : (as.reverse ++ .ref b :: rest).map (zτ Z) = (as.map (zτ Z)).reverse ++ .ref (zρ Z b) :: rest.map (zτ Z) := by
  rw [List.map_append, List.map_reverse]
  rfl
/-- a call, whatever its kind -/
theorem z_callX {f pc y : Nat} {l : List (Nat × Value)} {as rest st0 : List Value} {M : zM} {H : Heap} {locs : List Loc} {cells slots : Nat} {ls : Array Slot}
    (hI : zInv Z s M H locs cells)
    (hmono : ∀ (M1 : zM) (pc : Nat) (l : List (Nat × Value)) (st : List Value), zLoop (zEv d) m v M' f pc l st M1 → zn M1 ≤ zn M' ∧ zs M1 ≤ zs M')
    (h : zCallS (zEv d) (zLoop (zEv d) m v M' f) pc l M y as rest) (hc : cells + (zn M' - zn M) ≤ R0.cells) (hs : slots + (zs M' - zs M) ≤ R0.slots)
    (hrun : ∀ (w : Option Value) (M1 : zM), zEv d y as M w M1 → zct rest ≤ 8 → cells + (zn M1 - zn M) ≤ R0.cells ∧ slots + (zs M1 - zs M) ≤ R0.slots → va_Run p lc e R0 s mm args below meth c H locs cells slots (zn M1 - zn M) (zs M1 - zs M) (F0 mm pc ls st0) (rest.map (zτ Z)) (zQc Z w M1 (as.map (zτ Z)).toArray) (zAd Z))
    (kk : ∀ (M1 : zM) (w : Option Value) (H1 : Heap) (locs1 : List Loc) (cells1 slots1 : Nat), zInv Z s M1 H1 locs1 cells1 → cells1 + (zn M' - zn M1) ≤ R0.cells → slots1 + (zs M' - zs M1) ≤ R0.slots → zLoop (zEv d) m v M' f (pc + 3) l (w.toList ++ rest) M1 → W p lc e R0 s mm args below meth c H1 locs1 cells1 slots1 Q (F0 mm (pc + 3) ls ((w.toList ++ rest).map (zτ Z)))) :
    W p lc e R0 s mm args below meth c H locs cells slots Q (F0 mm pc ls st0) := by
  obtain ⟨hct, w, M1, hev, hlp⟩ := h
  have m1 := zEv_mono d y _ M w M1 hev
  have m2 := hmono M1 _ _ _ hlp
  exact z_call hI m1.1 (hrun w M1 hev hct ⟨by omega, by omega⟩) (fun H1 locs1 hI1 => kk M1 w H1 locs1 _ _ hI1 (by omega) (by omega) hlp)
theorem zNs_w {o ix y : Nat} (hT : zTab Z s) (h : ∃ r ∈ zNs, r.1 = (o, ix) ∧ r.2.1 = y) : va_Nw (.methodLinkNest (zRn o) ix (zNm y) "SagaDesk") s := by
  obtain ⟨r, h1, h2, h3⟩ := h
  have := hT.2.2.1 _ (List.mem_append_left _ (List.mem_map.mpr ⟨r, h1, rfl⟩))
  rw [h2, h3] at this
  exact this
theorem zRt_none {y : Nat} (hy : y < 216) (h : zRk y = 0) : zRt y = none := by
  have := (zM_ok hy).2.2.2.2.2.2
  rw [h] at this
  exact of_decide_eq_true this
set_option maxHeartbeats 4000000 in
set_option maxRecDepth 20000 in
theorem z_run (hx : p.tables.exec = Jvm.exec) (hb : c.code = zB m) (hml : c.maxLocals = zML m) (hown : s.vm.findClass (zRn (zO m)) = some mm.cls) (hts : ∀ w ∈ zW, w.before args s = true) (hT : zTab Z s) (hSp : zSpc Z s s.heap) (hin : (zNm m).name = "<init>" → meth.name = "<init>")
    (hfr : d + 1 ≤ R0.frames) (hlo : 60 * (d + 1) ≤ R0.locals)
    (hM : ∀ y as M w M1, zEv d y as M w M1 → Met lc (zNm y) (zWs y) (zRm d (zn M1 - zn M) (zs M1 - zs M)) (zPc Z as M) (zQc Z w M1) (zn M1 - zn M) (zs M1 - zs M) (zAd Z))
    (hend : ∀ (pc : Nat) (H : Heap) (locs : List Loc) (cells slots : Nat) (ls : Array Slot) (st : List Value) (i : Instr), decode (zB m) pc = .ok (i, 1) → zEnd m i st v → zInv Z s M' H locs cells → cells ≤ R0.cells → slots ≤ R0.slots → W p lc e R0 s mm args below meth c H locs cells slots Q (F0 mm pc ls (st.map (zτ Z)))) :
    ∀ (f pc : Nat) (l : List (Nat × Value)) (st : List Value) (M : zM) (H : Heap) (locs : List Loc) (cells slots : Nat) (ls : Array Slot), zLoop (zEv d) m v M' f pc l st M → lv_has ls (zML m) (zlm Z l) → zInv Z s M H locs cells → cells + (zn M' - zn M) ≤ R0.cells → slots + (zs M' - zs M) ≤ R0.slots →
      W p lc e R0 s mm args below meth c H locs cells slots Q (F0 mm pc ls (st.map (zτ Z))) := by
  intro f
  induction f with
  | zero => intro _ _ _ _ _ _ _ _ _ h; exact h.elim
  | succ f ih =>
    intro pc l st M H locs cells slots ls h hl hI hc hs
    obtain ⟨i, n, hd, h⟩ := h
    have hmono := fun (M1 : zM) (pc : Nat) (l : List (Nat × Value)) (st : List Value) (h : zLoop (zEv d) m v M' f pc l st M1) => z_mono (fun y as M w M1 h => zEv_mono d y as M w M1 h) f pc l st M1 h
    cases i with
    | aconst_null => obtain ⟨rfl, h⟩ := h; exact lv_null hx hb hd (ih _ _ _ _ _ _ _ _ _ h hl hI hc hs)
    | iconst z => obtain ⟨rfl, h⟩ := h; exact lv_iconst hx hb hd rfl (ih _ _ _ _ _ _ _ _ _ h hl hI hc hs)
    | bipush z => obtain ⟨rfl, h⟩ := h; exact lv_bipush hx hb hd rfl (ih _ _ _ _ _ _ _ _ _ h hl hI hc hs)
    | sipush z => obtain ⟨rfl, h⟩ := h; exact lv_sipush hx hb hd rfl (ih _ _ _ _ _ _ _ _ _ h hl hI hc hs)
    | lconst z => obtain ⟨rfl, h⟩ := h; exact lv_lconst hx hb hd rfl (ih _ _ _ _ _ _ _ _ _ h hl hI hc hs)
    | ldc ix =>
      obtain ⟨rfl, h⟩ := h
      rcases h with ⟨x, hk, h⟩ | ⟨x, hk, h⟩
      · exact lv_ldc hx hb hown (hts _ (zKi_w hk)) hd (ih _ _ _ _ _ _ _ _ _ h hl hI hc hs)
      · unfold zKx at hk
        cases hf : zXs.find? (fun q => q.1 == (zO m, ix)) with
        | none => rw [hf] at hk; cases hk
        | some q =>
          rw [hf] at hk
          have hm := List.mem_of_find?_eq_some hf
          have he := List.find?_some hf
          have e1 : q.1 = (zO m, ix) := by simpa using he
          have e2 : q.2 = x := by simpa using hk
          have hz := hT.2.1 q hm
          rw [e1, e2] at hz
          have hx6 : x < 6 := by
            have : ∀ q ∈ zXs, q.2 < 6 := by decide
            rw [← e2]; exact this q hm
          have e3 : zρ Z (3 + x) = zsp Z (3 + x) := if_pos (by omega)
          refine va_ldcS hx hb hown hz hd ?_
          have := ih _ _ _ _ _ _ _ _ _ h hl hI hc hs
          rw [List.map_cons] at this
          rw [← e3]
          exact this
    | ldc_w ix =>
      obtain ⟨rfl, x, hk, h⟩ := h
      exact lv_ldcw hx hb hown (hts _ (zKi_w hk)) hd (ih _ _ _ _ _ _ _ _ _ h hl hI hc hs)
    | ldc2_w ix =>
      obtain ⟨rfl, x, hk, h⟩ := h
      exact lv_ldc2 hx hb hown (hts _ (zKl_w hk)) hd (ih _ _ _ _ _ _ _ _ _ h hl hI hc hs)
    | iload_n j => obtain ⟨rfl, x, hk, h⟩ := h; exact lv_iload_n hx hb hd rfl (zlm_ld hl hk) (ih _ _ _ _ _ _ _ _ _ h hl hI hc hs)
    | iload j => obtain ⟨rfl, x, hk, h⟩ := h; exact lv_iload hx hb hd (zlm_ld hl hk) (ih _ _ _ _ _ _ _ _ _ h hl hI hc hs)
    | aload_n j =>
      obtain ⟨rfl, r, hk, h⟩ := h
      cases r with
      | none => exact lv_aload_nN hx hb hd rfl (zlm_ld hl hk) (ih _ _ _ _ _ _ _ _ _ h hl hI hc hs)
      | some a => exact lv_aload_n hx hb hd rfl (zlm_ld hl hk) (ih _ _ _ _ _ _ _ _ _ h hl hI hc hs)
    | aload j =>
      obtain ⟨rfl, r, hk, h⟩ := h
      cases r with
      | none => exact lv_aloadN hx hb hd (zlm_ld hl hk) (ih _ _ _ _ _ _ _ _ _ h hl hI hc hs)
      | some a => exact lv_aload hx hb hd (zlm_ld hl hk) (ih _ _ _ _ _ _ _ _ _ h hl hI hc hs)
    | istore_n j => obtain ⟨rfl, hj, x, st', rfl, h⟩ := h; exact lv_istore_n hx hb hd rfl hl hj (zlm_st (w := .int x)) (fun ls' hl' => ih _ _ _ _ _ _ _ _ _ h hl' hI hc hs)
    | istore j => obtain ⟨rfl, hj, x, st', rfl, h⟩ := h; exact lv_istore hx hb hd hl hj (zlm_st (w := .int x)) (fun ls' hl' => ih _ _ _ _ _ _ _ _ _ h hl' hI hc hs)
    | astore_n j =>
      obtain ⟨rfl, hj, r, st', rfl, h⟩ := h
      cases r with
      | none => exact lv_astore_nN hx hb hd rfl hl hj (zlm_st (w := va_rf none)) (fun ls' hl' => ih _ _ _ _ _ _ _ _ _ h hl' hI hc hs)
      | some a => exact lv_astore_n hx hb hd rfl hl hj (zlm_st (w := va_rf (some a))) (fun ls' hl' => ih _ _ _ _ _ _ _ _ _ h hl' hI hc hs)
    | astore j =>
      obtain ⟨rfl, hj, r, st', rfl, h⟩ := h
      cases r with
      | none => exact lv_astoreN hx hb hd hl hj (zlm_st (w := va_rf none)) (fun ls' hl' => ih _ _ _ _ _ _ _ _ _ h hl' hI hc hs)
      | some a => exact lv_astore hx hb hd hl hj (zlm_st (w := va_rf (some a))) (fun ls' hl' => ih _ _ _ _ _ _ _ _ _ h hl' hI hc hs)
    | iinc j z =>
      obtain ⟨rfl, hj, x, hk, h⟩ := h
      obtain ⟨k, hk⟩ := zlm_ix (Z := Z) hk
      exact lv_iinc (k := k) hx hb hd hl hk rfl hj (zlm_st (w := .int (x + Int32.ofInt z))) (fun ls' hl' => ih _ _ _ _ _ _ _ _ _ h hl' hI hc hs)
    | iadd => obtain ⟨rfl, x, y, st', rfl, h⟩ := h; exact lv_iadd hx hb hd (ih _ _ _ _ _ _ _ _ _ h hl hI hc hs)
    | isub => obtain ⟨rfl, x, y, st', rfl, h⟩ := h; exact lv_isub hx hb hd (ih _ _ _ _ _ _ _ _ _ h hl hI hc hs)
    | imul => obtain ⟨rfl, x, y, st', rfl, h⟩ := h; exact lv_imul hx hb hd (ih _ _ _ _ _ _ _ _ _ h hl hI hc hs)
    | iand => obtain ⟨rfl, x, y, st', rfl, h⟩ := h; exact lv_iand hx hb hd (ih _ _ _ _ _ _ _ _ _ h hl hI hc hs)
    | ior => obtain ⟨rfl, x, y, st', rfl, h⟩ := h; exact lv_ior hx hb hd (ih _ _ _ _ _ _ _ _ _ h hl hI hc hs)
    | ixor => obtain ⟨rfl, x, y, st', rfl, h⟩ := h; exact lv_ixor hx hb hd (ih _ _ _ _ _ _ _ _ _ h hl hI hc hs)
    | ishl => obtain ⟨rfl, x, y, st', rfl, h⟩ := h; exact lv_ishl hx hb hd (ih _ _ _ _ _ _ _ _ _ h hl hI hc hs)
    | ishr => obtain ⟨rfl, x, y, st', rfl, h⟩ := h; exact lv_ishr hx hb hd (ih _ _ _ _ _ _ _ _ _ h hl hI hc hs)
    | iushr => obtain ⟨rfl, x, y, st', rfl, h⟩ := h; exact lv_iushr hx hb hd rfl (ih _ _ _ _ _ _ _ _ _ h hl hI hc hs)
    | idiv => obtain ⟨rfl, x, y, st', rfl, hy, h⟩ := h; exact lv_idiv hx hb hd hy (ih _ _ _ _ _ _ _ _ _ h hl hI hc hs)
    | irem => obtain ⟨rfl, x, y, st', rfl, hy, h⟩ := h; exact lv_irem hx hb hd hy (ih _ _ _ _ _ _ _ _ _ h hl hI hc hs)
    | ineg => obtain ⟨rfl, x, st', rfl, h⟩ := h; exact lv_ineg hx hb hd (ih _ _ _ _ _ _ _ _ _ h hl hI hc hs)
    | i2b => obtain ⟨rfl, x, st', rfl, h⟩ := h; exact lv_i2b hx hb hd rfl (ih _ _ _ _ _ _ _ _ _ h hl hI hc hs)
    | ladd => obtain ⟨rfl, x, y, st', rfl, h⟩ := h; exact lv_ladd hx hb hd (ih _ _ _ _ _ _ _ _ _ h hl hI hc hs)
    | lcmp => obtain ⟨rfl, x, y, st', rfl, h⟩ := h; exact W.lcmp hx hb hd (ih _ _ _ _ _ _ _ _ _ h hl hI hc hs)
    | dup => obtain ⟨rfl, a, st', rfl, ha, h⟩ := h; exact lv_dup hx hb hd (by rw [zτ_cat]; exact ha) (ih _ _ _ _ _ _ _ _ _ h hl hI hc hs)
    | dup2 => obtain ⟨rfl, a, b, st', rfl, ha, hb2, h⟩ := h; exact lv_dup2_11 hx hb hd (by rw [zτ_cat]; exact ha) (by rw [zτ_cat]; exact hb2) (ih _ _ _ _ _ _ _ _ _ h hl hI hc hs)
    | pop => obtain ⟨rfl, a, st', rfl, ha, h⟩ := h; exact lv_pop hx hb hd (by rw [zτ_cat]; exact ha) (ih _ _ _ _ _ _ _ _ _ h hl hI hc hs)
    | goto off => obtain ⟨rfl, tgt, ht, h⟩ := h; exact lv_goto hx hb hd ht (ih _ _ _ _ _ _ _ _ _ h hl hI hc hs)
    | ifCond cd off =>
      obtain ⟨rfl, x, st', tgt, rfl, ht, h⟩ := h
      have kt := fun q => ih _ _ _ _ _ _ _ _ _ (h.1 q) hl hI hc hs
      have kf := fun q => ih _ _ _ _ _ _ _ _ _ (h.2 q) hl hI hc hs
      cases cd with
      | eq => exact lv_if_eq hx hb hd ht kt kf
      | ne => exact lv_if_ne hx hb hd ht kt (fun q => kf (fun z => z q))
      | lt => exact lv_if_lt hx hb hd ht kt kf
      | ge => exact lv_if_ge hx hb hd ht kt kf
      | gt => exact lv_if_gt hx hb hd ht kt kf
      | le => exact lv_if_le hx hb hd ht kt kf
    | if_icmp cd off =>
      obtain ⟨rfl, x, y, st', tgt, rfl, ht, h⟩ := h
      have kt := fun q => ih _ _ _ _ _ _ _ _ _ (h.1 q) hl hI hc hs
      have kf := fun q => ih _ _ _ _ _ _ _ _ _ (h.2 q) hl hI hc hs
      cases cd with
      | eq => exact lv_icmp_eq hx hb hd ht kt kf
      | ne => exact lv_icmp_ne hx hb hd ht kt (fun q => kf (fun z => z q))
      | lt => exact lv_icmp_lt hx hb hd ht kt kf
      | ge => exact lv_icmp_ge hx hb hd ht kt kf
      | gt => exact lv_icmp_gt hx hb hd ht kt kf
      | le => exact lv_icmp_le hx hb hd ht kt kf
    | ifnull off =>
      obtain ⟨rfl, r, st', tgt, rfl, ht, h⟩ := h
      cases r with
      | none => exact lv_ifnullN hx hb hd ht (ih _ _ _ _ _ _ _ _ _ (h.1 rfl) hl hI hc hs)
      | some a => exact lv_ifnull hx hb hd (ih _ _ _ _ _ _ _ _ _ (h.2 (fun q => by cases q)) hl hI hc hs)
    | ifnonnull off =>
      obtain ⟨rfl, r, st', tgt, rfl, ht, h⟩ := h
      cases r with
      | none => exact lv_ifnonnullN hx hb hd (ih _ _ _ _ _ _ _ _ _ (h.1 rfl) hl hI hc hs)
      | some a => exact lv_ifnonnull hx hb hd ht (ih _ _ _ _ _ _ _ _ _ (h.2 (fun q => by cases q)) hl hI hc hs)
    | tableswitch df lo hi offs =>
      obtain ⟨x, st', rfl, h⟩ := h
      by_cases hq : x.toInt < lo ∨ hi < x.toInt
      · obtain ⟨tgt, ht, h⟩ := h.1 hq
        exact lv_tableOut hx hb hd hq ht (ih _ _ _ _ _ _ _ _ _ h hl hI hc hs)
      · obtain ⟨off, tgt, ho, ht, h⟩ := h.2 hq
        exact lv_tableIn hx hb hd (fun z => hq (Or.inl z)) (fun z => hq (Or.inr z)) ho ht (ih _ _ _ _ _ _ _ _ _ h hl hI hc hs)
    | getstatic ix =>
      obtain ⟨rfl, a, ha, h⟩ := h
      unfold zSt at ha
      have hS := hI.2.2.1
      by_cases h1 : zO m = 7 ∧ ix = 300
      · rw [if_pos h1] at ha
        obtain ⟨ho, rfl⟩ := h1
        cases ha
        have hz := hSp.2.2.2.1
        have hlk : Cond.fieldLink (zRn (zO m)) 300 "SagaDesk" "UNDER" "[I" ∈ zW := by rw [ho]; exact zW_in zUnP zUnW rfl
        exact va_gets hx hb hz hS hown (hts _ hlk) (fun x hx => hx) hd (ih _ _ _ _ _ _ _ _ _ h hl hI hc hs)
      · rw [if_neg h1] at ha
        by_cases h2 : zO m = 3 ∧ ix = 80
        · rw [if_pos h2] at ha
          obtain ⟨ho, rfl⟩ := h2
          cases ha
          have hz := hSp.2.2.2.2.1
          have hlk : va_Nw (.fieldLinkNest (zRn (zO m)) 80 "SagaDesk" "ACCOUNTS_OF" "[I" "SagaDesk") s := by
            rw [ho]
            exact hT.2.2.1 _ (List.mem_append_right _ (List.mem_singleton.mpr rfl))
          exact va_getsN hx hb hz hS hown (hlk.use rfl) (fun x hx => hx) hd (ih _ _ _ _ _ _ _ _ _ h hl hI hc hs)
        · rw [if_neg h2] at ha; cases ha
    | getfield ix =>
      obtain ⟨rfl, a, st', cc, fl, rfl, hf, hk, h⟩ := h
      obtain ⟨hlk, hc9, hfl⟩ := zFld_w hf
      obtain ⟨hcore, hcs, hS, hbs⟩ := id hI
      obtain ⟨ha1, ha2⟩ := zSk_own (a := a) hcore.2.2.2.2 hcore.2.2.2.1 (by rw [hk]; show cc < 30; omega)
      have hws := zws_get (Z := Z) ha1 ha2
      rw [zent_o hk hc9] at hws
      obtain ⟨k1, k2, k3, k4⟩ := zC_ok hc9
      have hty := zC_ty cc hc9 fl hfl
      exact va_get (ref := (zClT cc fl).1) hx hb hts k2 hown hT.1 hcore.2.2.1 (a - 16) hws k1 fl hfl (hts _ hlk) (fun x hx => hx) (zfs_get hfl) hd (ih _ _ _ _ _ _ _ _ _ h hl hI hc hs)
    | putfield ix =>
      obtain ⟨rfl, w, a, st', cc, fl, rfl, hf, hk, hfin, h⟩ := h
      obtain ⟨hlk, hc9, hfl⟩ := zFld_w hf
      obtain ⟨hcore, hcs, hS, hbs⟩ := id hI
      obtain ⟨ha1, ha2⟩ := zSk_own (a := a) hcore.2.2.2.2 hcore.2.2.2.1 (by rw [hk]; show cc < 30; omega)
      have hws := zws_get (Z := Z) ha1 ha2
      rw [zent_o hk hc9] at hws
      obtain ⟨k1, k2, k3, k4⟩ := zC_ok hc9
      have hty := zC_ty cc hc9 fl hfl
      have hlen : fl < ((List.range (zN cc)).map fun j => zτ Z (zgv M (zF cc j) a j)).length := by rw [List.length_map, List.length_range]; exact hfl
      have hyt : ∀ k, k < zN cc → parseFieldDescriptor (zClT cc k).2.2.1 = some (zYT cc k) := fun k hk => (zC_ty cc hc9 k hk).1
      have put : ∀ (wv : Value), narrow (zYT cc fl) wv = wv → fits (zYT cc fl) wv = true → (∀ (H1 : Heap) (locs1 : List Loc), va_P (zD Z) zCl ((zws Z M).set (a - 16) (zρ Z a, .inr (cc, ((List.range (zN cc)).map fun j => zτ Z (zgv M (zF cc j) a j)).set fl wv))) H1 → va_S (zAd Z) H H1 locs1 → W p lc e R0 s mm args below meth c H1 locs1 cells slots Q (F0 mm (pc + 3) ls (st'.map (zτ Z)))) →
          W p lc e R0 s mm args below meth c H locs cells slots Q (F0 mm pc ls (wv :: .ref (zρ Z a) :: st'.map (zτ Z))) := by
        intro wv hn hfi kk
        by_cases hq : (zClT cc fl).2.2.2 = true
        · obtain ⟨hi1, hi2⟩ := hfin hq
          exact va_putF (ref := (zClT cc fl).1) hx hb hts k2 (zYT cc) hyt (zC_nm cc hc9) hown hT.1 hcore.2.2.1 (zws_D Z M) hI.self (a - 16) hws k1 fl hfl (hts _ hlk) (fun x hx => hx) hq (hin hi1) (by rw [hty.2.2, hi2]; exact zC_nr cc hc9) hty.1 hn hfi hlen hd (fun H1 locs1 h1 _ h3 => kk H1 locs1 h1 h3)
        · have hq : (zClT cc fl).2.2.2 = false := by simpa using hq
          exact va_put (ref := (zClT cc fl).1) hx hb hts k2 (zYT cc) hyt (zC_nm cc hc9) hown hT.1 hcore.2.2.1 (zws_D Z M) hI.self (a - 16) hws k1 fl hfl (hts _ hlk) (fun x hx => hx) hq hty.1 hn hfi hlen hd (fun H1 locs1 h1 _ h3 => kk H1 locs1 h1 h3)
      have wi : ∀ (x : Int32), zF cc fl ≠ 1 → narrow (zYT cc fl) (.int x) = .int x → fits (zYT cc fl) (.int x) = true → zLoop (zEv d) m v M' f (pc + 3) l st' (zwi M a fl x) → W p lc e R0 s mm args below meth c H locs cells slots Q (F0 mm pc ls (.int x :: .ref (zρ Z a) :: st'.map (zτ Z))) := by
        intro x hF hn hfi h
        refine put (.int x) hn hfi fun H1 locs1 h1 h3 => ?_
        have e : zws Z (zwi M a fl x) = (zws Z M).set (a - 16) (zρ Z a, .inr (cc, ((List.range (zN cc)).map fun j => zτ Z (zgv M (zF cc j) a j)).set fl (.int x))) := by
          rw [zws_upd (M := M) (M2 := zwi M a fl x) ha1 rfl (fun b hb => zent_wi hb), zent_o (M := zwi M a fl x) hk hc9]
          congr 3
          refine congrArg (Prod.mk cc) (zfs_set hfl ?_ ?_)
          · unfold zgv
            rw [if_neg hF]
            show Value.int (if a = a ∧ fl = fl then x else _) = _
            rw [if_pos ⟨rfl, rfl⟩]
          · intro j hj
            unfold zgv
            split
            · rfl
            · show Value.int (if a = a ∧ j = fl then x else _) = _
              rw [if_neg (fun q => hj q.2)]
              rfl
        rw [← e] at h1
        exact z_wr (M2 := zwi M a fl x) hI rfl h1 h3 (zFr_wi hcore.2.2.2.1 ha2) (zSk_wi hcore.2.2.2.2 ha1) (fun hI2 => ih _ _ _ _ _ _ _ _ _ h hl hI2 hc hs)
      rcases h with ⟨hF, x, rfl, h⟩ | ⟨hF, x, rfl, hx01, h⟩ | ⟨hF, r, rfl, h⟩
      · have hy : zYT cc fl = .int := by
          rcases hty.2.1 with q | q | q
          · exact q.2
          · rw [hF] at q; exact absurd q.1 (by decide)
          · rw [hF] at q; exact absurd q.1 (by decide)
        exact wi x (by rw [hF]; decide) (by rw [hy]; rfl) (by rw [hy]; rfl) h
      · have hy : zYT cc fl = .boolean := by
          rcases hty.2.1 with q | q | q
          · rw [hF] at q; exact absurd q.1 (by decide)
          · exact q.2
          · rw [hF] at q; exact absurd q.1 (by decide)
        exact wi x (by rw [hF]; decide) (by rw [hy]; rcases hx01 with rfl | rfl <;> decide) (by rw [hy]; rcases hx01 with rfl | rfl <;> decide) h
      · have hy : (zYT cc fl).isReference = true := by
          rcases hty.2.1 with q | q | q
          · rw [hF] at q; exact absurd q.1 (by decide)
          · rw [hF] at q; exact absurd q.1 (by decide)
          · exact q.2
        have hnf : ∀ r : Option Nat, narrow (zYT cc fl) (va_rf r) = va_rf r ∧ fits (zYT cc fl) (va_rf r) = true := by
          intro r
          cases hq : zYT cc fl with
          | object C => cases r <;> exact ⟨rfl, rfl⟩
          | array t => cases r <;> exact ⟨rfl, rfl⟩
          | _ => rw [hq] at hy; cases hy
        rw [List.map_cons, List.map_cons, zτ_rf]
        refine put (va_rf (r.map (zρ Z))) (hnf _).1 (hnf _).2 fun H1 locs1 h1 h3 => ?_
        have e : zws Z (zwr M a fl r) = (zws Z M).set (a - 16) (zρ Z a, .inr (cc, ((List.range (zN cc)).map fun j => zτ Z (zgv M (zF cc j) a j)).set fl (va_rf (r.map (zρ Z))))) := by
          rw [zws_upd (M := M) (M2 := zwr M a fl r) ha1 rfl (fun b hb => zent_wr hb), zent_o (M := zwr M a fl r) hk hc9]
          congr 3
          refine congrArg (Prod.mk cc) (zfs_set hfl ?_ ?_)
          · unfold zgv
            rw [if_pos hF, zτ_rf]
            show va_rf ((if a = a ∧ fl = fl then r else _).map _) = _
            rw [if_pos ⟨rfl, rfl⟩]
          · intro j hj
            unfold zgv
            split
            · show va_rf (if a = a ∧ j = fl then r else _) = _
              rw [if_neg (fun q => hj q.2)]
              rfl
            · rfl
        rw [← e] at h1
        exact z_wr (M2 := zwr M a fl r) hI rfl h1 h3 (zFr_wr hcore.2.2.2.1 ha2) hcore.2.2.2.2 (fun hI2 => ih _ _ _ _ _ _ _ _ _ h hl hI2 hc hs)
    | arraylength =>
      obtain ⟨rfl, a, st', N, rfl, hk, h⟩ := h
      obtain ⟨hcore, hcs, hS, hbs⟩ := id hI
      rcases hk with hk | hk | ⟨ha3, hk⟩
      · obtain ⟨ha1, ha2⟩ := zSk_own (a := a) hcore.2.2.2.2 hcore.2.2.2.1 (by rw [hk]; show 20 < 30; omega)
        have hws := zws_get (Z := Z) ha1 ha2
        rw [zent_i hk] at hws
        exact va_alen hx hb hT.1 hcore.2.2.1 (a - 16) 0 hws rfl rfl hd (ih _ _ _ _ _ _ _ _ _ h hl hI hc hs)
      · obtain ⟨ha1, ha2⟩ := zSk_own (a := a) hcore.2.2.2.2 hcore.2.2.2.1 (by rw [hk]; show 21 < 30; omega)
        have hws := zws_get (Z := Z) ha1 ha2
        rw [zent_l hk] at hws
        exact va_alen hx hb hT.1 hcore.2.2.1 (a - 16) 1 hws rfl rfl hd (ih _ _ _ _ _ _ _ _ _ h hl hI hc hs)
      · exact z_tlen hx hb (zSp_at hcore.2.2.2.2 ha3 hk hSp) hS hd (ih _ _ _ _ _ _ _ _ _ h hl hI hc hs)
    | iaload =>
      obtain ⟨rfl, j, a, st', N, rfl, hk, hj, h⟩ := h
      obtain ⟨hcore, hcs, hS, hbs⟩ := id hI
      rcases hk with hk | ⟨ha3, hk⟩
      · obtain ⟨ha1, ha2⟩ := zSk_own (a := a) hcore.2.2.2.2 hcore.2.2.2.1 (by rw [hk]; show 20 < 30; omega)
        have hws := zws_get (Z := Z) ha1 ha2
        rw [zent_i hk] at hws
        exact va_iald hx hb hT.1 hcore.2.2.1 (a - 16) 0 hws rfl hj hd (ih _ _ _ _ _ _ _ _ _ h hl hI hc hs)
      · exact z_tld hx hb (zSp_at hcore.2.2.2.2 ha3 hk hSp) hS hj hd (ih _ _ _ _ _ _ _ _ _ h hl hI hc hs)
    | laload =>
      obtain ⟨rfl, j, a, st', N, rfl, hk, hj, h⟩ := h
      obtain ⟨hcore, hcs, hS, hbs⟩ := id hI
      obtain ⟨ha1, ha2⟩ := zSk_own (a := a) hcore.2.2.2.2 hcore.2.2.2.1 (by rw [hk]; show 21 < 30; omega)
      have hws := zws_get (Z := Z) ha1 ha2
      rw [zent_l hk] at hws
      exact va_lald hx hb hT.1 hcore.2.2.1 (a - 16) 1 hws rfl hj hd (ih _ _ _ _ _ _ _ _ _ h hl hI hc hs)
    | aaload =>
      obtain ⟨rfl, j, a, st', t, N, rfl, hk, ht1, ht2, hj, h⟩ := h
      obtain ⟨hcore, hcs, hS, hbs⟩ := id hI
      obtain ⟨ha1, ha2⟩ := zSk_own (a := a) hcore.2.2.2.2 hcore.2.2.2.1 (by rw [hk]; show t < 30; omega)
      have hws := zws_get (Z := Z) ha1 ha2
      rw [zent_r hk ht1] at hws
      obtain ⟨ty, hty, hrf⟩ := zTy_at (Z := Z) t (by omega) ht2
      have hat := hcore.2.2.1 _ _ hws
      refine z_aald hx hb (hT.1.2 _ _ hty).1 (hrf ht1) hat hj hd ?_
      rw [← zτ_rf]
      exact ih _ _ _ _ _ _ _ _ _ h hl hI hc hs
    | iastore =>
      obtain ⟨rfl, x, j, a, st', N, rfl, hk, hj, h⟩ := h
      obtain ⟨hcore, hcs, hS, hbs⟩ := id hI
      obtain ⟨ha1, ha2⟩ := zSk_own (a := a) hcore.2.2.2.2 hcore.2.2.2.1 (by rw [hk]; show 20 < 30; omega)
      have hws := zws_get (Z := Z) ha1 ha2
      rw [zent_i hk] at hws
      refine va_iast hx hb hT.1 hcore.2.2.1 (zws_D Z M) hI.self (a - 16) 0 hws rfl hj hd (fun H1 locs1 h1 _ h3 => ?_)
      have e : zws Z (zwi M a j.toNatClampNeg x) = (zws Z M).set (a - 16) (zρ Z a, .inl (zcy Z 20, N, .inl (upd (zi M a) j.toNatClampNeg x))) := by
        rw [zws_upd (M := M) (M2 := zwi M a j.toNatClampNeg x) ha1 rfl (fun b hb => zent_wi hb), zent_i (M := zwi M a j.toNatClampNeg x) hk, zi_wi_self]
      rw [← e] at h1
      exact z_wr (M2 := zwi M a j.toNatClampNeg x) hI rfl h1 h3 (zFr_wi hcore.2.2.2.1 ha2) (zSk_wi hcore.2.2.2.2 ha1) (fun hI2 => ih _ _ _ _ _ _ _ _ _ h hl hI2 hc hs)
    | lastore =>
      obtain ⟨rfl, x, j, a, st', N, rfl, hk, hj, h⟩ := h
      obtain ⟨hcore, hcs, hS, hbs⟩ := id hI
      obtain ⟨ha1, ha2⟩ := zSk_own (a := a) hcore.2.2.2.2 hcore.2.2.2.1 (by rw [hk]; show 21 < 30; omega)
      have hws := zws_get (Z := Z) ha1 ha2
      rw [zent_l hk] at hws
      refine va_last hx hb hT.1 hcore.2.2.1 (zws_D Z M) hI.self (a - 16) 1 hws rfl hj hd (fun H1 locs1 h1 _ h3 => ?_)
      have e : zws Z (zwl M a j.toNatClampNeg x) = (zws Z M).set (a - 16) (zρ Z a, .inl (zcy Z 21, N, .inr (.inl (vp_updL (zl M a) j.toNatClampNeg x)))) := by
        rw [zws_upd (M := M) (M2 := zwl M a j.toNatClampNeg x) ha1 rfl (fun b hb => zent_wl hb), zent_l (M := zwl M a j.toNatClampNeg x) hk, zl_wl_self]
      rw [← e] at h1
      exact z_wr (M2 := zwl M a j.toNatClampNeg x) hI rfl h1 h3 (zFr_wl hcore.2.2.2.1 ha2) hcore.2.2.2.2 (fun hI2 => ih _ _ _ _ _ _ _ _ _ h hl hI2 hc hs)
    | aastore =>
      obtain ⟨rfl, b, j, a, st', t, N, rfl, hk, hb3, hj, h⟩ := h
      obtain ⟨hcore, hcs, hS, hbs⟩ := id hI
      have ht : 22 ≤ t ∧ t < 25 := by rcases hb3 with q | q | q <;> omega
      obtain ⟨ha1, ha2⟩ := zSk_own (a := a) hcore.2.2.2.2 hcore.2.2.2.1 (by rw [hk]; show t < 30; omega)
      have hws := zws_get (Z := Z) ha1 ha2
      rw [zent_r hk ht.1] at hws
      have key : ∀ (ci : Nat) (hc9 : ci < 9), zk M b = (ci, 0) → (zTy Z)[t - 20]? = some (zcy Z t, .object (zClN ci)) → W p lc e R0 s mm args below meth c H locs cells slots Q (F0 mm pc ls (.ref (zρ Z b) :: .int j :: .ref (zρ Z a) :: st'.map (zτ Z))) := by
        intro ci hc9 hkb hty
        obtain ⟨hb1, hb2⟩ := zSk_own (a := b) hcore.2.2.2.2 hcore.2.2.2.1 (by rw [hkb]; show ci < 30; omega)
        have hwb := zws_get (Z := Z) hb1 hb2
        rw [zent_o hkb hc9] at hwb
        refine va_astq (r := (zClN ci, zClT ci, zN ci)) hx hb hT.1 hcore.2.2.1 (zws_D Z M) hI.self (a - 16) (t - 20) (b - 16) ci hws hty hwb (zC_cl ci hc9) hj hd (fun H1 locs1 h1 _ h3 => ?_)
        have e : zws Z (zwr M a j.toNatClampNeg (some b)) = (zws Z M).set (a - 16) (zρ Z a, .inl (zcy Z t, N, .inr (.inr (.inr (.inr (va_up (fun j => (zr M a j).map (zρ Z)) j.toNatClampNeg (some (zρ Z b)))))))) := by
          rw [zws_upd (M := M) (M2 := zwr M a j.toNatClampNeg (some b)) ha1 rfl (fun b hb => zent_wr hb), zent_r (M := zwr M a j.toNatClampNeg (some b)) hk ht.1, zr_wr_self, zUpd_rf]
        rw [← e] at h1
        exact z_wr (M2 := zwr M a j.toNatClampNeg (some b)) hI rfl h1 h3 (zFr_wr hcore.2.2.2.1 ha2) hcore.2.2.2.2 (fun hI2 => ih _ _ _ _ _ _ _ _ _ h hl hI2 hc hs)
      rcases hb3 with ⟨rfl, hkb⟩ | ⟨rfl, hkb⟩ | ⟨rfl, hkb⟩
      · exact key 1 (by decide) hkb rfl
      · exact key 5 (by decide) hkb rfl
      · exact key 4 (by decide) hkb rfl
    | new ix =>
      obtain ⟨rfl, cc, hcl, hc9, h⟩ := h
      obtain ⟨hcore, hcs, hS, hbs⟩ := id hI
      obtain ⟨k1, k2, k3, k4⟩ := zC_ok hc9
      have hcw := zCls_w hcl
      unfold zHw at hcw
      rw [if_pos hc9] at hcw
      have hm := hmono _ _ _ _ h
      have hm1 : zn M + 1 ≤ zn M' := hm.1
      have hm2 : zs M + zN cc ≤ zs M' := hm.2
      have hyt : ∀ k, k < zN cc → parseFieldDescriptor (zClT cc k).2.2.1 = some (zYT cc k) := fun k hk => (zC_ty cc hc9 k hk).1
      refine va_new (fs := (List.range (zN cc)).map fun j => zτ Z (zgv (znw M cc 0 (zN cc)) (zF cc j) (zn M) j)) hx hb hts k2 (zYT cc) hyt hown (hts _ hcw) (hts _ k3) (hts _ k4) hT.1 hcore.2.2.1 (zws_D Z M) hI.self (fun q hq => by have hH := hcore.2.1; show zb Z ≤ q; omega) k1 ?_ (by omega) (by omega) hd (fun q H1 h1 h2 h3 => ?_)
      · intro j hj
        have hfr := (hcore.2.2.2.1 (zn M) (Nat.le_refl _)).2 j
        have e : vp_V ((List.range (zN cc)).map fun j => zτ Z (zgv (znw M cc 0 (zN cc)) (zF cc j) (zn M) j)) j = zτ Z (zgv (znw M cc 0 (zN cc)) (zF cc j) (zn M) j) := by
          unfold vp_V
          rw [List.getD_eq_getElem?_getD, zfs_get hj]
          rfl
        rw [e]
        rcases (zC_ty cc hc9 j hj).2.1 with ⟨q1, q2⟩ | ⟨q1, q2⟩ | ⟨q1, q2⟩
        · rw [q1, q2]
          show _ = Value.int (zi M (zn M) j)
          rw [hfr.1]
          rfl
        · rw [q1, q2]
          show _ = Value.int (zi M (zn M) j)
          rw [hfr.1]
          rfl
        · rw [q1]
          show _ = zτ Z (va_rf (zr M (zn M) j))
          rw [hfr.2.1]
          cases hq : zYT cc j with
          | object C => rfl
          | array t => rfl
          | _ => rw [hq] at q2; cases q2
      · have e : zent Z (znw M cc 0 (zN cc)) (zn M) = .inr (cc, (List.range (zN cc)).map fun j => zτ Z (zgv (znw M cc 0 (zN cc)) (zF cc j) (zn M) j)) := zent_o zk_new hc9
        rw [← e] at h1 h2
        refine z_nw hI h1 h2 h3 (fun hq hI2 => ?_)
        rw [hq]
        exact ih _ _ _ _ _ _ _ _ _ h hl hI2 (by show cells + 1 + (zn M' - (zn M + 1)) ≤ _; omega) (by show slots + zN cc + (zs M' - (zs M + zN cc)) ≤ _; omega)
    | newarray t =>
      obtain ⟨rfl, z, st', N, rfl, hz, hN, hN6, h⟩ := h
      obtain ⟨hcore, hcs, hS, hbs⟩ := id hI
      have hfr := (hcore.2.2.2.1 (zn M) (Nat.le_refl _)).2
      rcases h with ⟨rfl, h⟩ | ⟨rfl, h⟩
      · have hm := hmono _ _ _ _ h
        have hm1 : zn M + 1 ≤ zn M' := hm.1
        have hm2 : zs M + N ≤ zs M' := hm.2
        refine va_newa (a0 := (N, .inl (zi M (zn M)))) hx hb (hts _ zAw_i) rfl hT.1 hcore.2.2.1 (zws_D Z M) hI.self (fun q hq => by have hH := hcore.2.1; show zb Z ≤ q; omega) (fun cA => by rw [vp_cell_i]; congr 1; funext j; rw [(hfr j).1]; rfl) hz hN (by show N * 4 ≤ _; omega) (by omega) (by omega) hd (fun q cA H1 hK1 h1 h2 h3 => ?_)
        have ec : cA = zcy Z 20 := by
          have a1 := (hK1.2 7 (cA, .int) rfl).2
          have a2 := (hT.1.2 0 (zcy Z 20, .int) rfl).2
          exact Option.some.inj (a1.symm.trans a2)
        have e : zent Z (znw M 20 N N) (zn M) = .inl (zcy Z 20, N, .inl (zi M (zn M))) := zent_i zk_new
        rw [ec, ← e] at h1 h2
        refine z_nw hI h1 h2 h3 (fun hq hI2 => ?_)
        rw [hq]
        exact ih _ _ _ _ _ _ _ _ _ h hl hI2 (by show cells + 1 + (zn M' - (zn M + 1)) ≤ _; omega) (by show slots + N + (zs M' - (zs M + N)) ≤ _; omega)
      · have hm := hmono _ _ _ _ h
        have hm1 : zn M + 1 ≤ zn M' := hm.1
        have hm2 : zs M + N ≤ zs M' := hm.2
        refine va_newa (a0 := (N, .inr (.inl (zl M (zn M))))) hx hb (hts _ zAw_l) rfl hT.1 hcore.2.2.1 (zws_D Z M) hI.self (fun q hq => by have hH := hcore.2.1; show zb Z ≤ q; omega) (fun cA => by rw [vp_cell_l]; congr 1; funext j; rw [(hfr j).2.2]; rfl) hz hN (by show N * 8 ≤ _; omega) (by omega) (by omega) hd (fun q cA H1 hK1 h1 h2 h3 => ?_)
        have ec : cA = zcy Z 21 := by
          have a1 := (hK1.2 7 (cA, .long) rfl).2
          have a2 := (hT.1.2 1 (zcy Z 21, .long) rfl).2
          exact Option.some.inj (a1.symm.trans a2)
        have e : zent Z (znw M 21 N N) (zn M) = .inl (zcy Z 21, N, .inr (.inl (zl M (zn M)))) := zent_l zk_new
        rw [ec, ← e] at h1 h2
        refine z_nw hI h1 h2 h3 (fun hq hI2 => ?_)
        rw [hq]
        exact ih _ _ _ _ _ _ _ _ _ h hl hI2 (by show cells + 1 + (zn M' - (zn M + 1)) ≤ _; omega) (by show slots + N + (zs M' - (zs M + N)) ≤ _; omega)
    | anewarray ix =>
      obtain ⟨rfl, z, st', N, cc, t, rfl, hz, hN, hN6, hcl, hct, h⟩ := h
      obtain ⟨hcore, hcs, hS, hbs⟩ := id hI
      have hfr := (hcore.2.2.2.1 (zn M) (Nat.le_refl _)).2
      have hm := hmono _ _ _ _ h
      have hm1 : zn M + 1 ≤ zn M' := hm.1
      have hm2 : zs M + N ≤ zs M' := hm.2
      have hcw := zCls_w hcl
      have key : ∀ (C : String) (j : Nat), zHw cc = C → va_AO C s → (zTy Z)[j]? = some (zcy Z t, .object C) → 22 ≤ t → W p lc e R0 s mm args below meth c H locs cells slots Q (F0 mm pc ls (.int z :: st'.map (zτ Z))) := by
        intro C j hC hao hty ht
        rw [hC] at hcw
        refine va_newq hx hb hown (hts _ hcw) hao hT.1 hcore.2.2.1 (zws_D Z M) hI.self (fun q hq => by have hH := hcore.2.1; show zb Z ≤ q; omega) hz hN (by omega) (by omega) (by omega) hd (fun q cA H1 hK1 h1 h2 h3 => ?_)
        have ec : cA = zcy Z t := by
          obtain ⟨kA, comp, -, -, -, a1⟩ := (hK1.2 7 (cA, .object C) rfl).2
          obtain ⟨kA2, comp2, -, -, -, a2⟩ := (hT.1.2 j (zcy Z t, .object C) hty).2
          exact Option.some.inj (a1.symm.trans a2)
        have e : zent Z (znw M t N N) (zn M) = .inl (zcy Z t, N, .inr (.inr (.inr (.inr (fun _ => none))))) := by
          rw [zent_r (M := znw M t N N) zk_new ht]
          have : (fun j => (zr (znw M t N N) (zn M) j).map (zρ Z)) = (fun _ => none) := by
            funext j
            show (zr M (zn M) j).map (zρ Z) = none
            rw [(hfr j).2.1]
            rfl
          rw [this]
        rw [ec, ← e] at h1 h2
        refine z_nw hI h1 h2 h3 (fun hq hI2 => ?_)
        rw [hq]
        exact ih _ _ _ _ _ _ _ _ _ h hl hI2 (by show cells + 1 + (zn M' - (zn M + 1)) ≤ _; omega) (by show slots + N + (zs M' - (zs M + N)) ≤ _; omega)
      rcases hct with ⟨rfl, rfl⟩ | ⟨rfl, rfl⟩ | ⟨rfl, rfl⟩
      · exact key "SagaDesk$Program" 2 (by decide) hT.2.2.2.1 rfl (by decide)
      · exact key "SagaDesk$Saga" 3 (by decide) hT.2.2.2.2.1 rfl (by decide)
      · exact key "SagaDesk$Row" 4 (by decide) hT.2.2.2.2.2.1 rfl (by decide)
    | multianewarray ix dd =>
      obtain ⟨rfl, z, j, st', N, J, hz, hj, hN, hJ, hN4, hJ4, h⟩ := h
      obtain ⟨hcore, hcs, hS, hbs⟩ := id hI
      have hBH : zb Z ≤ H.size := by have := hcore.2.1; omega
      rcases h with ⟨rfl, hcl, rfl, h⟩ | ⟨rfl, hcl, y, K, hy, hK, hK4, rfl, h⟩
      · have hcw := zCls_w hcl
        have hm := hmono _ _ _ _ h
        have hm1 : zn M + 1 + N ≤ zn M' := hm.1
        have hm2 : zs M + N + N * J ≤ zs M' := hm.2
        have hfc : s.vm.findClass "[[I" = some (zcy Z 25) := (hT.1.2 5 (zcy Z 25, .array .int) rfl).2
        refine z_multi (ns := [z, j]) (rest := st'.map (zτ Z)) hx hb hown (hts _ hcw) hfc hBH hS.2.2 rfl (Or.inl rfl) (fun had V g hV => zMk_d2 had (hT.2.2.2.2.2.2.moved hV) hz hj hN hJ hN4 hJ4) (by omega) (by omega) hd (fun H1 locs1 h1 h2 h3 h4 => ?_)
        have hI2 := z_m2 hI h1 h2 h3 h4
        have e : zρ Z (zn M) = H.size := by have := hcore.1; rw [zρ_own (by omega), hcore.2.1]
        rw [← e]
        exact ih _ _ _ _ _ _ _ _ _ h hl hI2 (by show cells + (1 + N * 1) + (zn M' - (zn M + 1 + N)) ≤ _; omega) (by show slots + (N + N * J) + (zs M' - (zs M + N + N * J)) ≤ _; omega)
      · have hcw := zCls_w hcl
        have hm := hmono _ _ _ _ h
        have hm1 : zn M + 1 + N * (1 + K) ≤ zn M' := hm.1
        have hm2 : zs M + N + N * (K + K * J) ≤ zs M' := hm.2
        have hfc : s.vm.findClass "[[[I" = some (zcy Z 26) := (hT.1.2 6 (zcy Z 26, .array (.array .int)) rfl).2
        have e1 : 1 + N * (1 + K * 1) = 1 + N * (1 + K) := by rw [Nat.mul_one]
        refine z_multi (ns := [z, y, j]) (rest := st'.map (zτ Z)) hx hb hown (hts _ hcw) hfc hBH hS.2.2 rfl (Or.inr rfl) (fun had V g hV => zMk_d3 had (hT.2.2.2.2.2.2.moved hV) hz hy hj hN hK hJ hN4 hK4 hJ4) (by omega) (by omega) hd (fun H1 locs1 h1 h2 h3 h4 => ?_)
        have hI2 := z_m3 hI h1 h2 h3 h4
        have e : zρ Z (zn M) = H.size := by have := hcore.1; rw [zρ_own (by omega), hcore.2.1]
        rw [← e]
        exact ih _ _ _ _ _ _ _ _ _ h hl hI2 (by show cells + (1 + N * (1 + K * 1)) + (zn M' - (zn M + 1 + N * (1 + K))) ≤ _; omega) (by show slots + (N + N * (K + K * J)) + (zs M' - (zs M + N + N * (K + K * J))) ≤ _; omega)
    | invokevirtual ix =>
      obtain ⟨rfl, kd, y, b, as, rest, hcl, rfl, h⟩ := h
      obtain ⟨hw, h8, h9, hy6, hO, hnm, hns⟩ := zCall_w hcl
      obtain ⟨hcore, hcs, hS, hbs⟩ := id hI
      rcases h with ⟨rfl, hlen, hkb, h⟩ | ⟨hkd8, h⟩
      · have hy := hy6 (by decide)
        have hO9 := hO rfl
        have hw0 : ∀ w ∈ zSw ((zO m, ix), 0, y, []), w.before args s = true := fun w hw2 => hts w (hw w hw2)
        refine z_callX hI hmono h hc hs (fun w M1 hev hct hroom => ?_) (fun M1 w H1 locs1 cells1 slots1 hI1 hc1 hs1 h1 => ih _ _ _ _ _ _ _ _ _ h1 hl hI1 hc1 hs1)
        obtain ⟨k1, k2, k3, k4, k5, k6, k7⟩ := zM_ok hy
        obtain ⟨ha1, ha2⟩ := zSk_own (a := b) hcore.2.2.2.2 hcore.2.2.2.1 (by rw [hkb]; show zO y < 30; omega)
        have hws := zws_get (Z := Z) ha1 ha2
        rw [zent_o hkb hO9] at hws
        refine va_runV (As := as.map (zτ Z)) (C := (zNm y).cls) (n := zA y) (cc := zB m) (nL := zML m) ⟨hx, hb, hml, hown, hts⟩ (hM _ _ _ _ _ hev)
          ⟨zCB hts hfr hlo hy (hw0 _ (by simp [zSw])) (hw0 _ (by simp [zSw])), hw0 _ (by simp [zSw]), hw0 _ (by simp [zSw])⟩
          ⟨zPc_blind Z _ M, ?_, ?_⟩ rfl (by rw [List.length_map]; exact hlen) hl.1 zmap_stack (zct_room hct) hd hroom
        · rw [k6, ← zC_nr _ hO9]
          exact va_recv (q := (zClN (zO y), zClT (zO y), zN (zO y))) hT.1 hcore.2.2.1 (zC_cl _ hO9) hws
        · exact z_pre hT hSp hI
      · have hy : y = 900 ∨ y = 901 := hkd8.elim (fun q => Or.inl (h8 q)) (fun q => Or.inr (h9 q))
        have hw0 : ∀ w ∈ zSw ((zO m, ix), kd, y, []), w.before args s = true := fun w hw2 => hts w (hw w hw2)
        refine z_callX hI hmono h hc hs (fun w M1 hev hct hroom => ?_) (fun M1 w H1 locs1 cells1 slots1 hI1 hc1 hs1 h1 => ih _ _ _ _ _ _ _ _ _ h1 hl hI1 hc1 hs1)
        have hre : (∃ i, i < 6 ∧ b = 3 + i) ∧ as.length = zA y := by
          cases d with
          | zero => exact hev.elim
          | succ d =>
            rcases hev with ⟨rfl, -, -, i, h1, h2, -⟩ | ⟨rfl, -, -, i, j, h1, -, h2, -⟩ | ⟨h1, -⟩
            · simp only [List.cons.injEq, Value.ref.injEq] at h2
              obtain ⟨rfl, rfl⟩ := h2
              exact ⟨⟨i, h1, rfl⟩, rfl⟩
            · simp only [List.cons.injEq, Value.ref.injEq] at h2
              obtain ⟨rfl, rfl⟩ := h2
              exact ⟨⟨i, h1, rfl⟩, rfl⟩
            · rcases hy with rfl | rfl <;> omega
        obtain ⟨⟨i, hi6, rfl⟩, hlen⟩ := hre
        have hrec := vk_recv hSp.2.2.2.2.2.1 hi6 hS
        have e3 : zρ Z (3 + i) = zsp Z (3 + i) := if_pos (by omega)
        have hcB : CallB R0 s args (zRn (zO m)) ix (zNm y) (zB y) (zML y) (zRt y) (zWs y) (zRm d (zn M1 - zn M) (zs M1 - zs M)) (zn M1 - zn M) (zs M1 - zs M) (zA y) ∧ (Cond.instanceMethod (zNm y)).before args s = true ∧ (Cond.selects "java/lang/String" (zNm y) (zNm y)).before args s = true := by
          have e8 : zSw ((zO m, ix), kd, y, []) = [.methodLink (zRn (zO m)) ix (zNm y), .instanceMethod (zNm y), .selects (zNm y).cls (zNm y) (zNm y), .initialized (zNm y).cls] := by
            rcases hkd8 with rfl | rfl <;> rfl
          rw [e8] at hw0
          have hG : GoodIn zW (zWs y) := by
            intro w hw
            rcases List.mem_cons.mp hw with h | h
            · subst h
              rcases hy with rfl | rfl
              · exact zW_good _ (zW_in _ zMtL_c rfl)
              · exact zW_good _ (zW_in _ zMtC_c rfl)
            · exact zW_good _ h
          have hcls : (zNm y).cls = "java/lang/String" := by rcases hy with rfl | rfl <;> rfl
          refine ⟨callB_of (zA y) hts hG rfl rfl rfl (hw0 _ (by simp)) (hw0 _ (by simp)) ?_ ⟨hfr, ?_⟩, hw0 _ (by simp), ?_⟩
          · rcases hy with rfl | rfl <;> decide +kernel
          · have : zML y ≤ 2 := by rcases hy with rfl | rfl <;> decide
            show 8 + (zML y + 11) + 60 * d ≤ R0.locals
            omega
          · have := hw0 _ (show Cond.selects (zNm y).cls (zNm y) (zNm y) ∈ _ by simp)
            rw [hcls] at this
            exact this
        refine va_runV (As := as.map (zτ Z)) (C := "java/lang/String") (n := zA y) (cc := zB m) (nL := zML m) ⟨hx, hb, hml, hown, hts⟩ (hM _ _ _ _ _ hev)
          ⟨hcB.1, hcB.2.1, hcB.2.2⟩
          ⟨zPc_blind Z _ M, ?_, ?_⟩ rfl (by rw [List.length_map]; exact hlen) hl.1 zmap_stack (zct_room hct) hd hroom
        · rw [e3]
          exact hrec
        · exact z_pre hT hSp hI
    | invokestatic ix =>
      obtain ⟨rfl, kd, y, hcl, h⟩ := h
      obtain ⟨hw, h8, h9, hy6, hO, hnm, hns⟩ := zCall_w hcl
      obtain ⟨hcore, hcs, hS, hbs⟩ := id hI
      have hw0 : ∀ w ∈ zSw ((zO m, ix), kd, y, []), w.before args s = true := fun w hw2 => hts w (hw w hw2)
      rcases h with ⟨hkd, as, rest, rfl, hlen, h⟩ | ⟨rfl, N, dp, sp, a, a0, rest, n0, n1, rfl, hk0, hk1, hsp, hdp, hN, hn0, hn1, hct, h⟩ | ⟨rfl, x1, y1, rest, rfl, hct, h⟩ | ⟨rfl, x1, y1, rest, rfl, hct, h⟩
      · have hy : y < 216 := hy6 (by rcases hkd with rfl | rfl <;> decide)
        refine z_callX hI hmono h hc hs (fun w M1 hev hct hroom => ?_) (fun M1 w H1 locs1 cells1 slots1 hI1 hc1 hs1 h1 => ih _ _ _ _ _ _ _ _ _ h1 hl hI1 hc1 hs1)
        have hst : (as.reverse ++ rest).map (zτ Z) = (as.map (zτ Z)).reverse ++ rest.map (zτ Z) := by rw [List.map_append, List.map_reverse]
        rcases hkd with rfl | rfl
        · exact va_runS (As := as.map (zτ Z)) (n := zA y) (cc := zB m) (nL := zML m) ⟨hx, hb, hml, hown, hts⟩ (hM _ _ _ _ _ hev)
            ⟨zCB hts hfr hlo hy (hw0 _ (by simp [zSw])) (hw0 _ (by simp [zSw])), hw0 _ (by simp [zSw])⟩
            ⟨zPc_blind Z _ M, z_pre hT hSp hI⟩ rfl (by rw [List.length_map]; exact hlen) hl.1 hst (zct_room hct) hd hroom
        · obtain ⟨k1, k2, k3, k4, k5, k6, k7⟩ := zM_ok hy
          exact va_runSN (As := as.map (zτ Z)) (n := zA y) (cc := zB m) (nL := zML m) (host := "SagaDesk") ⟨hx, hb, hml, hown, hts⟩ (hM _ _ _ _ _ hev)
            ⟨va_cnB (zA y) hts (zWs_in hy) rfl rfl rfl (zNs_w hT (hns (by decide))) (hw0 _ (by simp [zSw])) ⟨k2.1, k2.2, k3⟩ ⟨hfr, by show 8 + (zML y + 11) + 60 * d ≤ R0.locals; omega⟩, hw0 _ (by simp [zSw]), trivial⟩
            ⟨zPc_blind Z _ M, z_pre hT hSp hI⟩ rfl (by rw [List.length_map]; exact hlen) hl.1 hst (zct_room hct) hd hroom
      · obtain ⟨ha1, ha2⟩ := zSk_own (a := a) hcore.2.2.2.2 hcore.2.2.2.1 (by rw [hk1]; show 20 < 30; omega)
        obtain ⟨hb1, hb2⟩ := zSk_own (a := a0) hcore.2.2.2.2 hcore.2.2.2.1 (by rw [hk0]; show 20 < 30; omega)
        have hws := zws_get (Z := Z) ha1 ha2
        rw [zent_i hk1] at hws
        have hws0 := zws_get (Z := Z) hb1 hb2
        rw [zent_i hk0] at hws0
        refine va_copyi hx hb (hml.trans hl.1.symm) hown (hw0 _ (by simp [zSw])) (hw0 _ (by simp [zSw])) (hw0 _ (by simp [zSw])) (hw0 _ (by simp [zSw])) hT.1 hcore.2.2.1 (zws_D Z M) hI.self (a0 - 16) (a - 16) 0 0 hws0 hws rfl rfl rfl hsp hdp hN hn0 hn1 (fun _ _ => rfl) (by omega) (by
          rw [zct_map]
          have : nativeFrameWords "java/lang/System" "arraycopy" 5 ≤ 30 := by decide
          omega) hd (fun H1 locs1 h1 _ h3 => ?_)
        have e : zws Z (zcp M a0 sp.toNatClampNeg a dp.toNatClampNeg N.toNatClampNeg) = (zws Z M).set (a - 16) (zρ Z a, .inl (zcy Z 20, n1, .inl (va_cpy (zi M a0) (zi M a) sp.toNatClampNeg dp.toNatClampNeg N.toNatClampNeg))) := by
          rw [zws_upd (M := M) (M2 := zcp M a0 sp.toNatClampNeg a dp.toNatClampNeg N.toNatClampNeg) ha1 rfl (fun b hb => zent_cp hb), zent_i (M := zcp M a0 sp.toNatClampNeg a dp.toNatClampNeg N.toNatClampNeg) hk1, zi_cp_self]
        rw [← e] at h1
        exact z_wr (M2 := zcp M a0 sp.toNatClampNeg a dp.toNatClampNeg N.toNatClampNeg) hI rfl h1 h3 (zFr_cp hcore.2.2.2.1 ha2) (zSk_cp hcore.2.2.2.2 ha1) (fun hI2 => ih _ _ _ _ _ _ _ _ _ h hl hI2 hc hs)
      · have hcm : (Cond.code Lib.Math.max.name Lib.Math.max.code 2 (some .int)).before args s = true := hts _ (zW_in _ zmx rfl)
        exact va_mmax hx hb (hml.trans hl.1.symm) hown (hw0 _ (by simp [zSw])) (hw0 _ (by simp [zSw])) (hw0 _ (by simp [zSw])) hcm (by omega) (by rw [zct_map]; omega) (by omega) (by omega) hd (ih _ _ _ _ _ _ _ _ _ h hl hI hc hs)
      · have hcm : (Cond.code Lib.Math.min.name Lib.Math.min.code 2 (some .int)).before args s = true := hts _ (zW_in _ zmn rfl)
        exact va_mmin hx hb (hml.trans hl.1.symm) hown (hw0 _ (by simp [zSw])) (hw0 _ (by simp [zSw])) (hw0 _ (by simp [zSw])) hcm (by omega) (by rw [zct_map]; omega) (by omega) (by omega) hd (ih _ _ _ _ _ _ _ _ _ h hl hI hc hs)
    | invokespecial ix =>
      obtain ⟨rfl, kd, y, b, as, rest, hcl, rfl, h⟩ := h
      obtain ⟨hw, h8, h9, hy6, hO, hnm, hns⟩ := zCall_w hcl
      have hw0 : ∀ w ∈ zSw ((zO m, ix), kd, y, []), w.before args s = true := fun w hw2 => hts w (hw w hw2)
      rcases h with ⟨rfl, rfl, hct, h⟩ | ⟨hkd, hlen, hrk, h⟩
      · have := zct_room (mm := mm) (pc := pc) (ls := ls) (st0 := []) (Z := Z) hct
        exact W.objInit hx hb hown (hw0 _ (by simp [zSw])) (hw0 _ (by simp [zSw])) (hw0 _ (by simp [zSw]; rfl)) rfl (hl.1.trans hml.symm) rfl hd (by omega) (by rw [zct_map]; show 2 * 0 + _ + 12 ≤ _; omega) (ih _ _ _ _ _ _ _ _ _ h hl hI hc hs)
      · have hy : y < 216 := hy6 (by rcases hkd with rfl | rfl <;> decide)
        have ert := zRt_none hy hrk
        refine z_callX hI hmono h hc hs (fun w M1 hev hct hroom => ?_) (fun M1 w H1 locs1 cells1 slots1 hI1 hc1 hs1 h1 => ih _ _ _ _ _ _ _ _ _ h1 hl hI1 hc1 hs1)
        obtain ⟨k1, k2, k3, k4, k5, k6, k7⟩ := zM_ok hy
        rcases hkd with rfl | rfl
        · have cb := zCB (o := zO m) (ix := ix) (d := d) (mc := zn M1 - zn M) (ms := zs M1 - zs M) hts hfr hlo hy (hw0 _ (by simp [zSw])) (hw0 _ (by simp [zSw]))
          rw [ert] at cb
          exact va_runI (As := as.map (zτ Z)) (n := zA y) (cc := zB m) (nL := zML m) (b := zρ Z b) ⟨hx, hb, hml, hown, hts⟩ (hM _ _ _ _ _ hev)
            ⟨cb, hnm (by decide), hw0 _ (by simp [zSw])⟩
            ⟨zPc_blind Z _ M, z_pre hT hSp hI⟩ rfl (by rw [List.length_map]; exact hlen) hl.1 zmap_stack (zct_room hct) hd hroom
        · have cb := va_cnB (own := zRn (zO m)) (index := ix) (R := R0) (args := args) (rm := zRm d (zn M1 - zn M) (zs M1 - zs M)) (mc := zn M1 - zn M) (ms := zs M1 - zs M) (zA y) hts (zWs_in hy) rfl rfl rfl (zNs_w hT (hns (by decide))) (hw0 _ (by simp [zSw])) ⟨k2.1, k2.2, k3⟩ ⟨hfr, by show 8 + (zML y + 11) + 60 * d ≤ R0.locals; omega⟩
          rw [ert] at cb
          exact va_runIN (As := as.map (zτ Z)) (n := zA y) (cc := zB m) (nL := zML m) (b := zρ Z b) (host := "SagaDesk") ⟨hx, hb, hml, hown, hts⟩ (hM _ _ _ _ _ hev)
            ⟨cb, hnm (by decide), hw0 _ (by simp [zSw])⟩
            ⟨zPc_blind Z _ M, z_pre hT hSp hI⟩ rfl (by rw [List.length_map]; exact hlen) hl.1 zmap_stack (zct_room hct) hd hroom
    | ireturn =>
      obtain ⟨rfl, x, hst, hk, hv, rfl⟩ := h
      exact hend _ _ _ _ _ _ _ _ hd ⟨x, hst, hk, hv⟩ hI (by omega) (by omega)
    | lreturn =>
      obtain ⟨rfl, x, hst, hk, hv, rfl⟩ := h
      exact hend _ _ _ _ _ _ _ _ hd ⟨x, hst, hk, hv⟩ hI (by omega) (by omega)
    | areturn =>
      obtain ⟨rfl, x, hst, hk, hv, rfl⟩ := h
      exact hend _ _ _ _ _ _ _ _ hd ⟨x, hst, hk, hv⟩ hI (by omega) (by omega)
    | return_ =>
      obtain ⟨rfl, hst, hk, hv, rfl⟩ := h
      exact hend _ _ _ _ _ _ _ _ hd ⟨hst, hk, hv⟩ hI (by omega) (by omega)
    | _ => exact h.elim
end ZR
end
section
/-! ===== String's length() and charAt() over the texts ===== -/
theorem zj_plain : plainName "java/lang/String" = true ∧ plainName "java/lang/StringLatin1" = true ∧ plainName "jdk/internal/util/Preconditions" = true := by decide +kernel
abbrev zjL : MethodName := ⟨"java/lang/String", "length", "()I"⟩
abbrev zjO : MethodName := ⟨"java/lang/String", "coder", "()B"⟩
abbrev zjC : MethodName := ⟨"java/lang/String", "charAt", "(I)C"⟩
abbrev zjI : MethodName := ⟨"java/lang/String", "isLatin1", "()Z"⟩
abbrev zjB : MethodName := ⟨"java/lang/StringLatin1", "charAt", "([BI)C"⟩
abbrev zjK : MethodName := ⟨"java/lang/String", "checkIndex", "(II)V"⟩
abbrev zjP : MethodName := ⟨"jdk/internal/util/Preconditions", "checkIndex", "(IILjava/util/function/BiFunction;)I"⟩
theorem zjw : ∀ w ∈ ([.fieldLink "java/lang/String" 9 "java/lang/String" "value" "[B", .fieldLink "java/lang/String" 15 "java/lang/String" "coder" "B", .fieldLink "java/lang/String" 38 "java/lang/String" "COMPACT_STRINGS" "Z",
    .methodLink "java/lang/String" 335 zjO, .instanceMethod zjO, .selects "java/lang/String" zjO zjO, .initialized "java/lang/String", .methodLink "java/lang/String" 492 zjI, .instanceMethod zjI, .selects "java/lang/String" zjI zjI,
    .methodLink "java/lang/String" 495 zjB, .static zjB, .initialized "java/lang/StringLatin1", .methodLink "java/lang/StringLatin1" 9 zjK, .static zjK, .methodLink "java/lang/String" 1059 zjP, .static zjP, .initialized "jdk/internal/util/Preconditions",
    .fieldLink "java/lang/String" 1053 "jdk/internal/util/Preconditions" "SIOOBE_FORMATTER" "Ljava/util/function/BiFunction;"] : List Cond), w ∈ lw_tbl ∧ goodWord w = true := by decide +kernel
theorem zjwW {w : Cond} (h : w ∈ lw_tbl ∧ goodWord w = true) : w ∈ zW := List.mem_filter.mpr h
section ZJ
variable {lc : Launch} {Z : zX} {M : zM}
theorem zj_of {y : MethodName} {code : ByteArray} {maxL d : Nat} {ret : Option FieldType} {av : List Value} {v : Option Value} (hp : plainName y.cls = true) (hlen : (lg_sl av).length ≤ maxL)
    (body : ∀ (p : Program) (e : Env) (s : State) (m : MethodId) (below : List Frame) (meth : Method) (c : Code), p.tables.exec = Jvm.exec → c.code = code → c.maxLocals = maxL → meth.sig.returnType = ret → meth.locks = false → s.vm.findClass y.cls = some m.cls → (∀ w ∈ zW, w.before av.toArray s = true) → zTab Z s → zSpc Z s s.heap → zInv Z s M s.heap [] 0 →
      ∀ ls, lv_has ls maxL (lv_args 0 av) → W p lc e (zRm d 0 0) s m av.toArray below meth c s.heap [] 0 0 (MQ below (zQc Z v M) av.toArray s 0 0 (zAd Z)) (F0 m 0 ls [])) :
    Met lc y (.code y code maxL ret :: zW) (zRm d 0 0) (va_Pc av (zRep Z M)) (zQc Z v M) 0 0 (zAd Z) := by
  refine Met.ofW (cc := code) (maxL := maxL) (ret := ret) hp rfl ?_
  intro p e s m args below meth c s₁ B hml hv
  obtain ⟨rfl, hcore, hT, hSp⟩ := hv
  have hts0 := atoms_spec (ws := .code y code maxL ret :: zW) B.pre
  have hts : ∀ w ∈ zW, w.before av.toArray s = true := fun w hw => hts0 w (List.mem_cons_of_mem _ hw)
  have hl := lv_entry av (n := maxL) hlen
  rw [lg_entry_eq]
  have hH := hcore.2.1
  exact body p e s m below meth c B.exec B.bytes hml B.returns B.notSynchronized (findClass_of_methodNamed B.named) hts hT hSp ⟨hcore, by omega, va_S.rf, by omega⟩ _ hl
theorem zj_blind (av : List Value) : FrameBlind (va_Pc av (zRep Z M)) := fun a U g mk h => by
  obtain ⟨h1, h2, h3, h4⟩ := h
  exact ⟨h1, h2, zTab.same (s := U) (U := U.calling g mk a) rfl h3, zSpc.moved (u := U) (U := U.calling g mk a) (Vm.Alike.refl U.vm) h4⟩
theorem zj_pre {s : State} {H : Heap} {locs : List Loc} {cells : Nat} {av : List Value} (hT : zTab Z s) (hSp : zSpc Z s s.heap) (hI : zInv Z s M H locs cells) : ∀ U : State, U.heap = H → s.WarmedH U.vm → va_Pc av (zRep Z M) av.toArray U := by
  intro U hU hW
  obtain ⟨hcore, hcs, hS, hbs⟩ := hI
  exact ⟨rfl, by rw [hU]; exact hcore, hT.warm hW, by rw [hU]; exact (zSpc_now hSp hS).moved hW.alike⟩
theorem zj_B {s : State} {args : Array Value} {R0 : Room} {own : String} {ix n d maxL : Nat} {y : MethodName} {code : ByteArray} {ret : Option FieldType} (hts : ∀ w ∈ zW, w.before args s = true) (hc : Cond.code y code maxL ret ∈ zW)
    (hini : (Cond.initialized y.cls).before args s = true) (hl : (Cond.methodLink own ix y).before args s = true) (hd : y.cls ≠ "java/lang/invoke/MethodHandle" ∧ y.cls ≠ "java/lang/invoke/VarHandle" ∧ (parseMethodDescriptor y.desc).map (fun d => d.parameters.length) = some n) (hR : d + 1 ≤ R0.frames ∧ 8 + (maxL + 11) + 60 * d ≤ R0.locals) :
    CallB R0 s args own ix y code maxL ret (.code y code maxL ret :: zW) (zRm d 0 0) 0 0 n :=
  callB_of n hts (fun w hw => by
    rcases List.mem_cons.mp hw with h | h
    · subst h; exact zW_good _ hc
    · exact zW_good _ h) rfl rfl rfl hini hl hd hR
theorem zj_q {s t : State} {H : Heap} {locs : List Loc} {cells : Nat} {a : Array Value} (w : Option Value) (hI : zInv Z s M H locs cells) (ht : t.heap = H) : zQc Z w M a s (.returned (w.map (zτ Z))) t := ⟨rfl, by rw [ht]; exact hI.1, hI.2.2.1.F ht⟩
/-- coder() -/
theorem zj_coder {d i : Nat} (hi : i < 6) : Met lc zjO (.code zjO zjbO 1 (some .byte) :: zW) (zRm d 0 0) (va_Pc [.ref (zsp Z (3 + i))] (zRep Z M)) (zQc Z (some (.int 0)) M) 0 0 (zAd Z) := by
  refine zj_of zj_plain.1 (Nat.le_of_ble_eq_true rfl) ?_
  intro p e s m below meth c hx hb hml hr hlocks hown hts hT hSp hI ls hl
  have hS := hI.2.2.1
  obtain ⟨hO, hcd, hvl, hbt⟩ := hSp.2.2.2.2.2.1.1 i hi
  refine va_gets (index := 38) hx hb hSp.2.2.2.2.2.2.1 hS hown (hts _ (zjwW (zjw _ (by simp)))) (fun x hx => hx) (by decide +kernel) ?_
  refine lv_if_eq (off := 10) (tgt := 13) hx hb (by decide +kernel) (by decide) (fun q => absurd q (by decide)) (fun _ => ?_)
  refine lv_aload_n hx hb (show decode _ _ = .ok (.aload_n 0, 1) by decide +kernel) rfl (lv_at hl 0 rfl) ?_
  refine vk_getf (index := 15) hx hb hcd hS hown (hts _ (zjwW (zjw _ (by simp)))) (fun x hx => hx) (by decide +kernel) ?_
  refine lv_goto (off := 4) (tgt := 14) hx hb (by decide +kernel) (by decide) ?_
  exact W.zret hx hb hr (by decide) (fun t ht hW => zj_q (some (.int 0)) hI ht) hS.2.2 (by decide +kernel) (hlocks := hlocks)
/-- isLatin1() -/
theorem zj_isL {d i : Nat} (hi : i < 6) : Met lc zjI (.code zjI zjbI 1 (some .boolean) :: zW) (zRm d 0 0) (va_Pc [.ref (zsp Z (3 + i))] (zRep Z M)) (zQc Z (some (.int 1)) M) 0 0 (zAd Z) := by
  refine zj_of zj_plain.1 (Nat.le_of_ble_eq_true rfl) ?_
  intro p e s m below meth c hx hb hml hr hlocks hown hts hT hSp hI ls hl
  have hS := hI.2.2.1
  obtain ⟨hO, hcd, hvl, hbt⟩ := hSp.2.2.2.2.2.1.1 i hi
  refine va_gets (index := 38) hx hb hSp.2.2.2.2.2.2.1 hS hown (hts _ (zjwW (zjw _ (by simp)))) (fun x hx => hx) (by decide +kernel) ?_
  refine lv_if_eq (off := 14) (tgt := 17) hx hb (by decide +kernel) (by decide) (fun q => absurd q (by decide)) (fun _ => ?_)
  refine lv_aload_n hx hb (show decode _ _ = .ok (.aload_n 0, 1) by decide +kernel) rfl (lv_at hl 0 rfl) ?_
  refine vk_getf (index := 15) hx hb hcd hS hown (hts _ (zjwW (zjw _ (by simp)))) (fun x hx => hx) (by decide +kernel) ?_
  refine lv_if_ne (off := 7) (tgt := 17) hx hb (by decide +kernel) (by decide) (fun q => absurd rfl q) (fun _ => ?_)
  refine lv_iconst (n := 1) hx hb (by decide +kernel) rfl ?_
  refine lv_goto (off := 4) (tgt := 18) hx hb (by decide +kernel) (by decide) ?_
  exact W.zret hx hb hr (by decide) (fun t ht hW => zj_q (some (.int 1)) hI ht) hS.2.2 (by decide +kernel) (hlocks := hlocks)
/-- Preconditions.checkIndex() -/
theorem zj_P {d : Nat} {k n : Int32} {r : Option Nat} (h0 : ¬ k < 0) (hkn : k < n) : Met lc zjP (.code zjP zjbP 3 (some .int) :: zW) (zRm d 0 0) (va_Pc [.int k, .int n, va_rf r] (zRep Z M)) (zQc Z (some (.int k)) M) 0 0 (zAd Z) := by
  refine zj_of zj_plain.2.2 (by cases r <;> exact Nat.le_of_ble_eq_true rfl) ?_
  intro p e s m below meth c hx hb hml hr hlocks hown hts hT hSp hI ls hl
  have hS := hI.2.2.1
  have hl : lv_has ls 3 [(0, .int k), (1, .int n)] := lv_sub hl [0, 1] rfl
  refine lv_iload_n hx hb (show decode _ _ = .ok (.iload_n 0, 1) by decide +kernel) rfl (lv_at hl 0 rfl) ?_
  refine lv_if_lt (off := 8) (tgt := 9) hx hb (by decide +kernel) (by decide) (fun q => absurd q h0) (fun _ => ?_)
  refine lv_iload_n hx hb (show decode _ _ = .ok (.iload_n 0, 1) by decide +kernel) rfl (lv_at hl 0 rfl) ?_
  refine lv_iload_n hx hb (show decode _ _ = .ok (.iload_n 1, 1) by decide +kernel) rfl (lv_at hl 1 rfl) ?_
  refine lv_icmp_lt (off := 10) (tgt := 16) hx hb (by decide +kernel) (by decide) (fun _ => ?_) (fun q => absurd hkn q)
  refine lv_iload_n hx hb (show decode _ _ = .ok (.iload_n 0, 1) by decide +kernel) rfl (lv_at hl 0 rfl) ?_
  exact W.zret hx hb hr rfl (fun t ht hW => zj_q (some (.int k)) hI ht) hS.2.2 (by decide +kernel) (hlocks := hlocks)
/-- String.checkIndex() -/
theorem zj_K {d : Nat} {k n : Int32} (h0 : ¬ k < 0) (hkn : k < n) : Met lc zjK (.code zjK zjbK 2 none :: zW) (zRm (d + 1) 0 0) (va_Pc [.int k, .int n] (zRep Z M)) (zQc Z none M) 0 0 (zAd Z) := by
  refine zj_of zj_plain.1 (Nat.le_of_ble_eq_true rfl) ?_
  intro p e s m below meth c hx hb hml hr hlocks hown hts hT hSp hI ls hl
  have hS := hI.2.2.1
  refine lv_iload_n hx hb (show decode _ _ = .ok (.iload_n 0, 1) by decide +kernel) rfl (lv_at hl 0 rfl) ?_
  refine lv_iload_n hx hb (show decode _ _ = .ok (.iload_n 1, 1) by decide +kernel) rfl (lv_at hl 1 rfl) ?_
  have hlk := hts _ (zjwW (zjw (.fieldLink "java/lang/String" 1053 "jdk/internal/util/Preconditions" "SIOOBE_FORMATTER" "Ljava/util/function/BiFunction;") (by simp)))
  have go : ∀ r : Option Nat, W p lc e (zRm (d + 1) 0 0) s m (List.toArray [.int k, .int n]) below meth c s.heap [] 0 0 (MQ below (zQc Z none M) (List.toArray [.int k, .int n]) s 0 0 (zAd Z)) (F0 m 5 ls [va_rf r, .int n, .int k]) := by
    intro r
    refine z_call (M := M) (M1 := M) (w := some (.int k)) (rest := []) (aa := ([.int k, .int n, va_rf r] : List Value).toArray) hI (Nat.le_refl _) ?_ (fun H1 locs1 hI1 => ?_)
    · rw [Nat.sub_self, Nat.sub_self]
      exact va_runS (index := 1059) (As := [.int k, .int n, va_rf r]) (rest := []) (n := 3) ⟨hx, hb, hml, hown, hts⟩ (zj_P (d := d) h0 hkn)
        ⟨zj_B hts (zW_in _ zjcP rfl) (hts _ (zjwW (zjw _ (by simp)))) (hts _ (zjwW (zjw _ (by simp)))) (by decide +kernel) ⟨Nat.le_refl _, by show 8 + (3 + 11) + 60 * d ≤ 60 * (d + 1); omega⟩, hts _ (zjwW (zjw _ (by simp)))⟩
        ⟨zj_blind _, zj_pre hT hSp hI⟩ rfl rfl hl.1 (by cases r <;> rfl) (lv_room (Nat.le_of_ble_eq_true rfl)) (show decode _ 5 = .ok (.invokestatic 1059, 3) by decide +kernel) ⟨Nat.le_refl _, Nat.le_refl _⟩
    · refine lv_pop hx hb (by decide +kernel) rfl ?_
      rw [Nat.sub_self, Nat.sub_self] at *
      exact W.vret hx hb hr (fun t ht hW => zj_q none hI1 ht) hI1.2.2.1.2.2 (by decide +kernel) (hlocks := hlocks)
  rcases hSp.2.2.2.2.2.2.2 with hz | ⟨t, hz⟩
  · exact va_gets (index := 1053) hx hb hz hS hown hlk (fun x hx => hx) (by decide +kernel) (go none)
  · exact va_gets (index := 1053) hx hb hz hS hown hlk (fun x hx => hx) (by decide +kernel) (go (some t))
theorem zj_ch : ∀ i, i < 6 → (zTx i).length = zLen.getD i 0 ∧ zByt.getD i [] = zTx i ∧ Int32.ofNat (zTx i).length >>> ((0 : Int32) &&& 31) = Int32.ofNat (zTx i).length ∧ (zTx i).length < 100 ∧ ∀ j, j < (zTx i).length → (((zTx i).getD j 0 &&& (Int16.ofInt 255).toInt32).toUInt32 % 65536).toInt32 = (zTx i).getD j 0 ∧ narrow .char (.int ((zTx i).getD j 0)) = .int ((zTx i).getD j 0) := by decide +kernel
/-- StringLatin1.charAt() -/
theorem zj_B1 {d i j : Nat} (hi : i < 6) (hj : j < (zTx i).length) : Met lc zjB (.code zjB zjbB 2 (some .char) :: zW) (zRm (d + 2) 0 0) (va_Pc [.ref (zav Z i), .int (Int32.ofNat j)] (zRep Z M)) (zQc Z (some (.int ((zTx i).getD j 0))) M) 0 0 (zAd Z) := by
  refine zj_of zj_plain.2.1 (Nat.le_of_ble_eq_true rfl) ?_
  intro p e s m below meth c hx hb hml hr hlocks hown hts hT hSp hI ls hl
  have hS := hI.2.2.1
  obtain ⟨hO, hcd, hvl, hbt⟩ := hSp.2.2.2.2.2.1.1 i hi
  obtain ⟨e1, e2, e3, e4, e5⟩ := zj_ch i hi
  obtain ⟨e6, e7⟩ := e5 j hj
  refine lv_iload_n hx hb (show decode _ _ = .ok (.iload_n 1, 1) by decide +kernel) rfl (lv_at hl 1 rfl) ?_
  refine lv_aload_n hx hb (show decode _ _ = .ok (.aload_n 0, 1) by decide +kernel) rfl (lv_at hl 0 rfl) ?_
  refine va_tlen hx hb hbt hS rfl (by decide +kernel) ?_
  have h0 : ¬ Int32.ofNat j < 0 := nI_pos (n := j) (by omega)
  have hkn : Int32.ofNat j < Int32.ofNat (zLen.getD i 0) := nI_lt (by omega) (by omega)
  refine z_call (M := M) (M1 := M) (w := none) (rest := []) (aa := ([.int (Int32.ofNat j), .int (Int32.ofNat (zLen.getD i 0))] : List Value).toArray) hI (Nat.le_refl _) ?_ (fun H1 locs1 hI1 => ?_)
  · rw [Nat.sub_self, Nat.sub_self]
    exact va_runS (index := 9) (As := [.int (Int32.ofNat j), .int (Int32.ofNat (zLen.getD i 0))]) (rest := []) (n := 2) ⟨hx, hb, hml, hown, hts⟩ (zj_K (d := d) h0 hkn)
      ⟨zj_B hts (zW_in _ zjcK rfl) (hts _ (zjwW (zjw _ (by simp)))) (hts _ (zjwW (zjw _ (by simp)))) (by decide +kernel) ⟨Nat.le_refl _, by show 8 + (2 + 11) + 60 * (d + 1) ≤ 60 * (d + 2); omega⟩, hts _ (zjwW (zjw _ (by simp)))⟩
      ⟨zj_blind _, zj_pre hT hSp hI⟩ rfl rfl hl.1 rfl (lv_room (Nat.le_of_ble_eq_true rfl)) (show decode _ 3 = .ok (.invokestatic 9, 3) by decide +kernel) ⟨Nat.le_refl _, Nat.le_refl _⟩
  · have hS1 := hI1.2.2.1
    refine lv_aload_n hx hb (show decode _ _ = .ok (.aload_n 0, 1) by decide +kernel) rfl (lv_at hl 0 rfl) ?_
    refine lv_iload_n hx hb (show decode _ _ = .ok (.iload_n 1, 1) by decide +kernel) rfl (lv_at hl 1 rfl) ?_
    have hcl : (Int32.ofNat j).toNatClampNeg = j := nI_clamp (n := j) (by omega)
    refine va_tb (v := .int ((zTx i).getD j 0)) hx hb hbt hS1 (vp_in_nI (n := j) (by omega) (by omega)) (by rw [hcl, e2]) (by decide +kernel) ?_
    refine lv_sipush (n := 255) hx hb (by decide +kernel) rfl ?_
    refine lv_iand hx hb (by decide +kernel) ?_
    refine lv_i2c hx hb (by decide +kernel) e6 ?_
    rw [Nat.sub_self, Nat.sub_self] at *
    exact W.zret hx hb hr e7 (fun t ht hW => zj_q (some (.int ((zTx i).getD j 0))) hI1 ht) hS1.2.2 (by decide +kernel) (hlocks := hlocks)
end ZJ
end
section
/-! ===== a run of the small machine is a contract ===== -/
theorem zlm_args (Z : zX) : ∀ (as : List Value) (i : Nat), lv_args i (as.map (zτ Z)) = zlm Z (lv_args i as)
  | [], _ => rfl
  | v :: vs, i => by
    show (i, zτ Z v) :: lv_args (if (zτ Z v).category = 2 then i + 2 else i + 1) (vs.map (zτ Z)) = (i, zτ Z v) :: zlm Z (lv_args (if v.category = 2 then i + 2 else i + 1) vs)
    rw [zτ_cat, zlm_args Z vs]
theorem zsl_len : ∀ (as : List Value), (lg_sl as).length = zct as
  | [] => rfl
  | v :: vs => by
    have ih := zsl_len vs
    unfold lg_sl at ih ⊢
    rw [List.flatMap_cons, List.length_append, ih]
    show _ = v.category + zct vs
    rcases lv_cat v with h | h <;> rw [h] <;> rfl
theorem z_end {p : Program} {lc : Launch} {e : Env} {R0 : Room} {s : State} {mm : MethodId} {args : Array Value} {below : List Frame} {meth : Method} {c : Code} {Z : zX} {M' : zM} {y mc ms : Nat} {v : Option Value}
    (hx : p.tables.exec = Jvm.exec) (hb : c.code = zB y) (hr : meth.sig.returnType = zRt y) (hlocks : meth.locks = false) (hy : y < 216)
    (pc : Nat) (H : Heap) (locs : List Loc) (cells slots : Nat) (ls : Array Slot) (st : List Value) (i : Instr) (hd : decode (zB y) pc = .ok (i, 1)) (h : zEnd y i st v) (hI : zInv Z s M' H locs cells) (hc : cells ≤ mc) (hs : slots ≤ ms) :
    W p lc e R0 s mm args below meth c H locs cells slots (MQ below (zQc Z v M') args s mc ms (zAd Z)) (F0 mm pc ls (st.map (zτ Z))) := by
  refine W.widen hc hs ?_
  obtain ⟨hcore, hcs, hS, hbs⟩ := hI
  have hk := (zM_ok hy).2.2.2.2.2.2
  have hq : ∀ (w : Option Value), v = w → ∀ t : State, t.heap = H → s.WarmedH t.vm → zQc Z v M' args s (.returned (w.map (zτ Z))) t := fun w hw t ht hW => ⟨by rw [hw], by rw [ht]; exact hcore, hS.F ht⟩
  cases i with
  | ireturn =>
    obtain ⟨x, rfl, h1, h2⟩ := h
    rcases h1 with h1 | ⟨h1, h3⟩
    · rw [h1] at hk
      have ert : zRt y = some .int := of_decide_eq_true hk
      exact W.zret hx hb (hr.trans ert) rfl (hq _ h2) hS.2.2 hd (hlocks := hlocks)
    · rw [h1] at hk
      have ert : zRt y = some .boolean := of_decide_eq_true hk
      exact W.zret hx hb (hr.trans ert) (by rcases h3 with rfl | rfl <;> decide) (hq _ h2) hS.2.2 hd (hlocks := hlocks)
  | lreturn =>
    obtain ⟨x, rfl, h1, h2⟩ := h
    rw [h1] at hk
    have ert : zRt y = some .long := of_decide_eq_true hk
    exact W.lret hx hb (hr.trans ert) (hq _ h2) hS.2.2 hd (hlocks := hlocks)
  | areturn =>
    obtain ⟨r, rfl, h1, h2⟩ := h
    rw [h1] at hk
    have ert : ∃ rt, zRt y = some rt ∧ ((∃ n, rt = .object n) ∨ ∃ t, rt = .array t) := by
      cases e : zRt y with
      | none => rw [e] at hk; cases hk
      | some rt =>
        cases rt with
        | object n => exact ⟨_, rfl, Or.inl ⟨_, rfl⟩⟩
        | array t => exact ⟨_, rfl, Or.inr ⟨_, rfl⟩⟩
        | _ => rw [e] at hk; cases hk
    obtain ⟨rt, ert, hrt⟩ := ert
    have hvr : zτ Z (va_rf r) = .null ∨ ∃ a, zτ Z (va_rf r) = .ref a := by cases r with
      | none => exact Or.inl rfl
      | some a => exact Or.inr ⟨_, rfl⟩
    exact W.aret hx hb (hr.trans ert) hrt hvr (hq _ h2) hS.2.2 hd (hlocks := hlocks)
  | return_ =>
    obtain ⟨rfl, h1, h2⟩ := h
    exact W.vret hx hb (hr.trans (zRt_none hy h1)) (hq _ h2) hS.2.2 hd (hlocks := hlocks)
  | _ => exact h.elim
theorem z_len (Z : zX) (lc : Launch) {d i : Nat} {M : zM} (hd : 6 ≤ d) (hi : i < 6) : Met lc (zNm 900) (zWs 900) (zRm (d + 1) (zn M - zn M) (zs M - zs M)) (zPc Z [.ref (3 + i)] M) (zQc Z (some (.int (Int32.ofNat (zTx i).length))) M) (zn M - zn M) (zs M - zs M) (zAd Z) := by
  rw [Nat.sub_self, Nat.sub_self]
  have e3 : zρ Z (3 + i) = zsp Z (3 + i) := if_pos (by omega)
  have ea : [.ref (3 + i)].map (zτ Z) = [.ref (zsp Z (3 + i))] := by show [Value.ref (zρ Z (3 + i))] = _; rw [e3]
  unfold zPc
  rw [ea]
  refine zj_of (y := zjL) (code := prog_13_method_54_code) (maxL := 1) (ret := some .int) zj_plain.1 (Nat.le_of_ble_eq_true rfl) ?_
  intro p e s m below meth c hx hb hml hr hlocks hown hts hT hSp hI ls hl
  have hS := hI.2.2.1
  obtain ⟨hO, hcd, hvl, hbt⟩ := hSp.2.2.2.2.2.1.1 i hi
  obtain ⟨e1, e2, e4, e5, -⟩ := zj_ch i hi
  refine lv_aload_n hx hb (show decode _ _ = .ok (.aload_n 0, 1) by decide +kernel) rfl (lv_at hl 0 rfl) ?_
  refine vk_getf (index := 9) hx hb hvl hS hown (hts _ (zjwW (zjw _ (by simp)))) (fun x hx => hx) (by decide +kernel) ?_
  refine va_tlen hx hb hbt hS rfl (by decide +kernel) ?_
  refine lv_aload_n hx hb (show decode _ _ = .ok (.aload_n 0, 1) by decide +kernel) rfl (lv_at hl 0 rfl) ?_
  refine z_call (M := M) (M1 := M) (w := some (.int 0)) (rest := [.int (Int32.ofNat (zLen.getD i 0))]) (aa := ([.ref (zsp Z (3 + i))] : List Value).toArray) hI (Nat.le_refl _) ?_ (fun H1 locs1 hI1 => ?_)
  · rw [Nat.sub_self, Nat.sub_self]
    exact va_runV (index := 335) (As := []) (C := "java/lang/String") (rest := [.int (Int32.ofNat (zLen.getD i 0))]) (n := 0) ⟨hx, hb, hml, hown, hts⟩ (zj_coder (d := d) hi)
      ⟨zj_B hts (zW_in _ zjcO rfl) (hts _ (zjwW (zjw _ (by simp)))) (hts _ (zjwW (zjw _ (by simp)))) (by decide +kernel) ⟨Nat.le_refl _, by show 8 + (1 + 11) + 60 * d ≤ 60 * (d + 1); omega⟩, hts _ (zjwW (zjw _ (by simp))), hts _ (zjwW (zjw _ (by simp)))⟩
      ⟨zj_blind _, vk_recv (adK := fun i => zsp Z (3 + i)) (i := i) hSp.2.2.2.2.2.1 hi hS, zj_pre hT hSp hI⟩ rfl rfl hl.1 rfl (lv_room (Nat.le_of_ble_eq_true rfl)) (show decode _ 6 = .ok (.invokevirtual 335, 3) by decide +kernel) ⟨Nat.zero_le _, Nat.zero_le _⟩
  · refine lv_ishr hx hb (by decide +kernel) ?_
    rw [Nat.sub_self, Nat.sub_self] at *
    rw [← e1, e4]
    exact W.zret hx hb hr rfl (fun t ht hW => zj_q (some (.int (Int32.ofNat (zTx i).length))) hI1 ht) hI1.2.2.1.2.2 (by decide +kernel) (hlocks := hlocks)
theorem z_chr (Z : zX) (lc : Launch) {d i j : Nat} {M : zM} (hd : 6 ≤ d) (hi : i < 6) (hj : j < (zTx i).length) : Met lc (zNm 901) (zWs 901) (zRm (d + 1) (zn M - zn M) (zs M - zs M)) (zPc Z [.ref (3 + i), .int (Int32.ofNat j)] M) (zQc Z (some (.int ((zTx i).getD j 0))) M) (zn M - zn M) (zs M - zs M) (zAd Z) := by
  rw [Nat.sub_self, Nat.sub_self]
  obtain ⟨d, rfl⟩ : ∃ d', d = d' + 2 := ⟨d - 2, by omega⟩
  have e3 : zρ Z (3 + i) = zsp Z (3 + i) := if_pos (by omega)
  have ea : [.ref (3 + i), .int (Int32.ofNat j)].map (zτ Z) = [.ref (zsp Z (3 + i)), .int (Int32.ofNat j)] := by show [Value.ref (zρ Z (3 + i)), _] = _; rw [e3]; rfl
  unfold zPc
  rw [ea]
  refine zj_of (y := zjC) (code := prog_13_method_56_code) (maxL := 2) (ret := some .char) zj_plain.1 (Nat.le_of_ble_eq_true rfl) ?_
  intro p e s m below meth c hx hb hml hr hlocks hown hts hT hSp hI ls hl
  have hS := hI.2.2.1
  obtain ⟨hO, hcd, hvl, hbt⟩ := hSp.2.2.2.2.2.1.1 i hi
  obtain ⟨e1, e2, e4, e5, e6⟩ := zj_ch i hi
  refine lv_aload_n hx hb (show decode _ _ = .ok (.aload_n 0, 1) by decide +kernel) rfl (lv_at hl 0 rfl) ?_
  refine z_call (M := M) (M1 := M) (w := some (.int 1)) (rest := []) (aa := ([.ref (zsp Z (3 + i))] : List Value).toArray) hI (Nat.le_refl _) ?_ (fun H1 locs1 hI1 => ?_)
  · rw [Nat.sub_self, Nat.sub_self]
    exact va_runV (index := 492) (As := []) (C := "java/lang/String") (rest := []) (n := 0) ⟨hx, hb, hml, hown, hts⟩ (zj_isL (d := d) hi)
      ⟨zj_B hts (zW_in _ zjcI rfl) (hts _ (zjwW (zjw _ (by simp)))) (hts _ (zjwW (zjw _ (by simp)))) (by decide +kernel) ⟨by show d + 1 ≤ d + 2 + 1; omega, by show 8 + (1 + 11) + 60 * d ≤ 60 * (d + 2 + 1); omega⟩, hts _ (zjwW (zjw _ (by simp))), hts _ (zjwW (zjw _ (by simp)))⟩
      ⟨zj_blind _, vk_recv (adK := fun i => zsp Z (3 + i)) (i := i) hSp.2.2.2.2.2.1 hi hS, zj_pre hT hSp hI⟩ rfl rfl hl.1 rfl (lv_room (Nat.le_of_ble_eq_true rfl)) (show decode _ 1 = .ok (.invokevirtual 492, 3) by decide +kernel) ⟨Nat.zero_le _, Nat.zero_le _⟩
  · have hS1 := hI1.2.2.1
    refine lv_if_eq (off := 12) (tgt := 16) hx hb (by decide +kernel) (by decide) (fun q => absurd q (by decide)) (fun _ => ?_)
    refine lv_aload_n hx hb (show decode _ _ = .ok (.aload_n 0, 1) by decide +kernel) rfl (lv_at hl 0 rfl) ?_
    refine vk_getf (index := 9) hx hb hvl hS1 hown (hts _ (zjwW (zjw _ (by simp)))) (fun x hx => hx) (by decide +kernel) ?_
    refine lv_iload_n hx hb (show decode _ _ = .ok (.iload_n 1, 1) by decide +kernel) rfl (lv_at hl 1 rfl) ?_
    rw [Nat.sub_self] at hI1
    rw [Nat.sub_self, Nat.sub_self]
    refine z_call (M := M) (M1 := M) (w := some (.int ((zTx i).getD j 0))) (rest := []) (aa := ([.ref (zav Z i), .int (Int32.ofNat j)] : List Value).toArray) hI1 (Nat.le_refl _) ?_ (fun H2 locs2 hI2 => ?_)
    · rw [Nat.sub_self, Nat.sub_self]
      exact va_runS (index := 495) (As := [.ref (zav Z i), .int (Int32.ofNat j)]) (rest := []) (n := 2) ⟨hx, hb, hml, hown, hts⟩ (zj_B1 (d := d) hi hj)
        ⟨zj_B hts (zW_in _ zjcB rfl) (hts _ (zjwW (zjw _ (by simp)))) (hts _ (zjwW (zjw _ (by simp)))) (by decide +kernel) ⟨Nat.le_refl _, by show 8 + (2 + 11) + 60 * (d + 2) ≤ 60 * (d + 2 + 1); omega⟩, hts _ (zjwW (zjw _ (by simp)))⟩
        ⟨zj_blind _, zj_pre hT hSp hI1⟩ rfl rfl hl.1 rfl (lv_room (Nat.le_of_ble_eq_true rfl)) (show decode _ 12 = .ok (.invokestatic 495, 3) by decide +kernel) ⟨Nat.zero_le _, Nat.zero_le _⟩
    · rw [Nat.sub_self, Nat.sub_self] at *
      exact W.zret hx hb hr (e6 j hj).2 (fun t ht hW => zj_q (some (.int ((zTx i).getD j 0))) hI2 ht) hI2.2.2.1.2.2 (by decide +kernel) (hlocks := hlocks)
theorem z_met (Z : zX) (lc : Launch) : ∀ (d y : Nat) (as : List Value) (M : zM) (v : Option Value) (M' : zM), zEv d y as M v M' → Met lc (zNm y) (zWs y) (zRm d (zn M' - zn M) (zs M' - zs M)) (zPc Z as M) (zQc Z v M') (zn M' - zn M) (zs M' - zs M) (zAd Z) := by
  intro d
  induction d with
  | zero => intro _ _ _ _ _ h; exact h.elim
  | succ d ih =>
    intro y as M v M' h
    rcases h with ⟨rfl, hd6, rfl, i, hi, rfl, rfl⟩ | ⟨rfl, hd6, rfl, i, j, hi, hj, rfl, rfl⟩ | ⟨hy, hct, f, h⟩
    · exact z_len Z lc hd6 hi
    · exact z_chr Z lc hd6 hi hj
    · refine Met.ofW (cc := zB y) (maxL := zML y) (ret := zRt y) (zM_ok hy).1 rfl ?_
      intro p e s m args below meth c s₁ B hml hv
      obtain ⟨rfl, hcore, hT, hSp⟩ := hv
      have hts0 := atoms_spec (ws := zWs y) B.pre
      have hts : ∀ w ∈ zW, w.before ((as.map (zτ Z)).toArray) s = true := fun w hw => hts0 w (List.mem_cons_of_mem _ hw)
      have hown : s.vm.findClass (zRn (zO y)) = some m.cls := by rw [← (zM_ok hy).2.2.2.2.2.1]; exact findClass_of_methodNamed B.named
      have hnm : meth.name = (zNm y).name := (name_of_methodNamed B.named B.method).1
      have hl := lv_entry (as.map (zτ Z)) (n := zML y) (by rw [zsl_len]; unfold zct; rw [zct_map]; exact hct)
      rw [zlm_args] at hl
      rw [lg_entry_eq]
      have hH := hcore.2.1
      have hI : zInv Z s M s.heap [] 0 := ⟨hcore, by omega, va_S.rf, by omega⟩
      exact z_run (d := d) (m := y) (v := v) (M' := M') B.exec B.bytes hml hown hts hT hSp (fun hq => by rw [hnm]; exact hq) (Nat.le_refl _) (Nat.le_refl _) ih (fun pc H locs cells slots ls st i hd he hI hc hs => z_end B.exec B.bytes B.returns B.notSynchronized hy pc H locs cells slots ls st i hd he hI hc hs) f 0 _ [] M s.heap [] 0 0 _ h hl hI (by show 0 + _ ≤ zn M' - zn M; omega) (by show 0 + _ ≤ zs M' - zs M; omega)
end
section
-- ===== end of PART A; then your names; then what follows =====
/-! THE CLAIM OUT OF ONE WALK OF THE LAW'S BODY. Your part is whole_start (and what it stands on); all else here is the same for every law, but numbers. -/
def R_law : String := "SagaDeskLaw"
def lw_P (b : Addr) (xs : List Int32) (args : Array Value) (s : State) : Prop := args = #[.ref b] ∧ s.IntsAt b xs ∧ xs.length ≤ 7 ∧ (Jvm.Cond.and given_1 narrow_1).before args s = true
def lw_Q (_ : Array Value) (s : State) (o : Outcome) (t : State) : Prop := o = .returned (some (.int 1)) ∧ Framed s o t [] 600000 7302249
def lw_Z (below : List Frame) (a : Array Value) (s : State) : State → Prop := fun t => ∃ o, t.status = .running ∧ Ended t below o ∧ lw_Q a s o t
/-- the law's own end, with 1 on the stack, nothing written that was there before, its room as the claim has it -/
theorem lw_ret {p : Program} {l : Launch} {e : Env} {s : State} {m : MethodId} {below : List Frame} {meth : Method} {c : Code} {b : Nat} (hx : p.tables.exec = Jvm.exec) (hb : c.code = code) (hr : meth.sig.returnType = ret) (hlocks : meth.locks = false) {pc : Nat} {H : Heap} {ls : Array Slot} (hdg : decode code pc = .ok (.ireturn, 1)) : W p l e room_1 s m #[Value.ref b] below meth c H [] 600000 7302249 (lw_Z below #[Value.ref b] s) (F0 m pc ls [.int 1]) := by
  intro T hT X
  obtain ⟨fs, hret, hrun, hended, hW, hframe⟩ := X.leave (v := some (.int 1)) (hlocks := hlocks) (fun h => by rw [hr] at h; cases h)
  have hmeth' : T.vm.method? m = some meth := X.method'
  refine ⟨T.setFrames fs, ?_, .returned (some (.int 1)), hrun, hended, rfl, ⟨_, rfl⟩, hW, hframe⟩
  jvm_step X.here [X.here.top, hx, hb, hdg, hmeth', hr, ret, narrow_b1]
  (try refine ⟨rfl, ?_⟩); (try refine ⟨rfl, ?_⟩)
  first | (intro acts; rw [hret _ acts rfl rfl rfl]) | rw [hret _ _ rfl rfl rfl]
  exact Steps.refl _
/-- what holds at the law's entry: the machine, the code, the tables' words (any of lw_tbl by 'hts w (by decide +kernel)'), the script of L ints xs at the cell b, what the Statement gives of the start (any of its parts by flat_of_before) -/
def lw_At (p : Program) (s : State) (m : MethodId) (meth : Method) (c : Code) (b L : Nat) (xs : Nat → Int32) : Prop :=
  p.tables.exec = Jvm.exec ∧ c.code = code ∧ meth.sig.returnType = ret ∧ c.maxLocals = 4 ∧ s.vm.findClass R_law = some m.cls ∧ (∀ w ∈ lw_tbl, w.before #[Value.ref b] s = true) ∧ va_X b L xs s s.heap ∧ b < s.heap.size ∧ meth.locks = false ∧ (Jvm.Cond.and given_1 narrow_1).before #[Value.ref b] s = true
end
section
/-! ===== the law's entry: the small machine begins ===== -/
def zM0 (L : Nat) (xs : Nat → Int32) : zM := ((fun a j => if a = 0 then xs j else if a = 1 then zUn j else if a = 2 then zAo j else 0), (fun _ _ => none), (fun _ _ => 0), (fun a => if a = 0 then (30, L) else if a = 1 ∨ a = 2 then (30, 6) else if a < 16 then (98, 0) else (99, 0)), 16, 0)
def zTm (i : Nat) : Term := .string "SagaDesk$Reader" (117 + 2 * i)
def zFl : List Cond := flatC (Jvm.Cond.and given_1 narrow_1)
theorem zfl_str : ∀ i, i < 6 → Cond.exactly (zTm i) "java/lang/String" ∈ zFl ∧ Cond.eq (.field (zTm i) "java/lang/String" "coder" "B") (.int 0) ∈ zFl ∧ Cond.arrayOf (.field (zTm i) "java/lang/String" "value" "[B") .byte ∈ zFl ∧
    Cond.eq (.length (.field (zTm i) "java/lang/String" "value" "[B")) (.int (Int32.ofNat (zLen.getD i 0))) ∈ zFl ∧ ∀ j, j < zLen.getD i 0 → Cond.eq (.elem (.field (zTm i) "java/lang/String" "value" "[B") (.int (Int32.ofNat j))) (.int ((zByt.getD i []).getD j 0)) ∈ zFl := by decide +kernel
theorem zfl_ne : ∀ i, i < 6 → ∀ j, j < 6 → i ≠ j → (Cond.not (Cond.eq (zTm i) (zTm j)) ∈ zFl ∨ Cond.not (Cond.eq (zTm j) (zTm i)) ∈ zFl) := by decide +kernel
theorem zfl_sts : Cond.arrayOf (.static "SagaDesk" "UNDER" "[I") .int ∈ zFl ∧ Cond.eq (.length (.static "SagaDesk" "UNDER" "[I")) (.int 6) ∈ zFl ∧ (∀ j, j < 6 → Cond.eq (.elem (.static "SagaDesk" "UNDER" "[I") (.int (Int32.ofNat j))) (.int (zUn j)) ∈ zFl) ∧
    Cond.arrayOf (.static "SagaDesk" "ACCOUNTS_OF" "[I") .int ∈ zFl ∧ Cond.eq (.length (.static "SagaDesk" "ACCOUNTS_OF" "[I")) (.int 6) ∈ zFl ∧ (∀ j, j < 6 → Cond.eq (.elem (.static "SagaDesk" "ACCOUNTS_OF" "[I") (.int (Int32.ofNat j))) (.int (zAo j)) ∈ zFl) ∧
    Cond.eq (.static "java/lang/String" "COMPACT_STRINGS" "Z") (.int 1) ∈ zFl ∧ Cond.isRef (.static "jdk/internal/util/Preconditions" "SIOOBE_FORMATTER" "Ljava/util/function/BiFunction;") ∈ zFl := by decide +kernel
theorem zfl_same : ∀ q ∈ zXs, (zRn q.1.1 = "SagaDesk$Reader" ∧ q.1.2 = 117 + 2 * q.2) ∨ Cond.eq (.string (zRn q.1.1) q.1.2) (zTm q.2) ∈ zFl ∨ Cond.eq (zTm q.2) (.string (zRn q.1.1) q.1.2) ∈ zFl := by decide +kernel
theorem zfl_lay : ∀ w ∈ ([.laysStatic "SagaDesk" "UNDER" "[I", .laysStatic "SagaDesk" "ACCOUNTS_OF" "[I", .laysStatic "java/lang/String" "COMPACT_STRINGS" "Z", .laysStatic "jdk/internal/util/Preconditions" "SIOOBE_FORMATTER" "Ljava/util/function/BiFunction;",
    .initialized "SagaDesk", .initialized "java/lang/String", .initialized "jdk/internal/util/Preconditions", .arrayClass .int, .arrayClass .long, .arrayOver (.object "SagaDesk$Program"), .arrayOver (.object "SagaDesk$Saga"), .arrayOver (.object "SagaDesk$Row"), .arrayOver (.array .int), .arrayOver (.array (.array .int))] : List Cond), w ∈ lw_tbl := by decide +kernel
theorem zfl_xs : ∀ q ∈ zXs, Cond.stringRef (zRn q.1.1) q.1.2 (zXt.getD q.2 "") ∈ lw_tbl ∧ q.2 < 6 := by decide +kernel
theorem z_ev {args : Array Value} {s : State} {a b : Term} {v : Value} (h : (Cond.eq a b).before args s = true) (hb : b.eval args s none [] s = some v) : a.eval args s none [] s = some v := by
  cases ha : a.eval args s none [] s with
  | none => simp [Cond.before, Cond.holds, Cond.value, ha, hb] at h
  | some w =>
    simp [Cond.before, Cond.holds, Cond.value, ha, hb] at h
    first
      | exact congrArg some h
      | (cases w <;> cases v <;> simp_all)
theorem z_ev2 {args : Array Value} {s : State} {a b : Term} {v : Value} (h : (Cond.eq a b).before args s = true) (ha : a.eval args s none [] s = some v) : b.eval args s none [] s = some v := by
  cases hb : b.eval args s none [] s with
  | none => simp [Cond.before, Cond.holds, Cond.value, ha, hb] at h
  | some w =>
    simp [Cond.before, Cond.holds, Cond.value, ha, hb] at h
    first
      | exact congrArg some h.symm
      | (cases w <;> cases v <;> simp_all)
theorem z_overA {args : Array Value} {s : State} {t : FieldType} (h : (Cond.arrayOver (.array t)).before args s = true) :
    ∃ comp c k, s.vm.findClass (FieldType.array t).toString = some comp ∧ s.vm.classes[c]? = some k ∧ k.kind = .array comp (.array t) ∧ s.vm.findClass ("[" ++ (FieldType.array t).toString) = some c := by
  simp only [Cond.before, Cond.holds, Cond.value, beq_iff_eq] at h
  cases hc : s.vm.findClass (FieldType.array t).toString with
  | none => simp [hc] at h
  | some comp =>
    simp only [hc, Option.bind_some, Option.bind_eq_some_iff, Option.map_eq_some_iff] at h
    obtain ⟨c, hi, k, hk, hb⟩ := h
    obtain ⟨hlt, hp, -⟩ := Array.findIdx?_eq_some_iff_getElem.mp hi
    have hkk : s.vm.classes[c] = k := (Array.getElem?_eq_some_iff.mp hk).2
    rw [hkk] at hp
    cases hkind : k.kind with
    | array component ty =>
      rw [hkind] at hb hp
      simp at hb hp
      exact ⟨comp, c, k, rfl, hk, by rw [hkind, hp, hb.1], hb.2⟩
    | _ => rw [hkind] at hb; simp at hb
theorem zM0_fr (L : Nat) (xs : Nat → Int32) : zFr (zM0 L xs) := by
  intro a h
  have h : 16 ≤ a := h
  refine ⟨?_, fun j => ⟨?_, rfl, rfl⟩⟩
  · show (if a = 0 then ((30, L) : Nat × Nat) else if a = 1 ∨ a = 2 then (30, 6) else if a < 16 then (98, 0) else (99, 0)) = (99, 0)
    rw [if_neg (by omega), if_neg (by omega), if_neg (by omega)]
  · show (if a = 0 then xs j else if a = 1 then zUn j else if a = 2 then zAo j else 0) = 0
    rw [if_neg (by omega), if_neg (by omega), if_neg (by omega)]
theorem zM0_sk {Z : zX} {L : Nat} {xs : Nat → Int32} (h : zLn Z = L) (hx : zxs Z = xs) : zSk Z (zM0 L xs) := by
  subst h; subst hx
  refine ⟨rfl, rfl, rfl, fun a h1 h2 => ?_, rfl, rfl, rfl⟩
  show (if a = 0 then ((30, zLn Z) : Nat × Nat) else if a = 1 ∨ a = 2 then (30, 6) else if a < 16 then (98, 0) else (99, 0)) = (98, 0)
  rw [if_neg (by omega), if_neg (by omega), if_pos h2]
set_option maxHeartbeats 2000000 in
theorem z_rep0 {p : Program} {s : State} {m : MethodId} {meth : Method} {c : Code} {b L : Nat} {xs : Nat → Int32} (hL : L ≤ 3584) (C0 : lw_At p s m meth c b L xs) : ∃ Z : zX, zb Z = s.heap.size ∧ zsp Z 0 = b ∧ zRep Z (zM0 L xs) s := by
  obtain ⟨hx, hb, hr, hml, hown, hts, hX, hbl, hlocks, hgv⟩ := id C0
  have hf := flat_of_before _ hgv
  have hA : ∀ a : Nat, a < s.heap.size → ¬ (fun q : Nat => s.heap.size ≤ q) a := fun a h h2 => Nat.not_le.mpr h h2
  -- the classes
  have hkn : ∀ k, k < 9 → ∃ (cC : ClassId) (iS : Nat → Nat), u_Kn s (zClN k) (zClT k) (zN k) cC iS := fun k hk => u_known hts (fun w hw => zW_sub w ((zC_ok hk).2.1 w hw)) (hts _ (zW_sub _ (zC_ok hk).2.2.1))
  have hkn2 : ∀ k, ∃ (q : ClassId × (Nat → Nat)), k < 9 → u_Kn s (zClN k) (zClT k) (zN k) q.1 q.2 := fun k => by
    by_cases h : k < 9
    · obtain ⟨a, b, h2⟩ := hkn k h
      exact ⟨(a, b), fun _ => h2⟩
    · exact ⟨(0, fun _ => 0), fun h2 => absurd h2 h⟩
  let D : va_G := (fun k => (Classical.choose (hkn2 k)).1, fun k => (Classical.choose (hkn2 k)).2)
  have hD : ∀ k, k < 9 → u_Kn s (zClN k) (zClT k) (zN k) (D.1 k) (D.2 k) := fun k hk => Classical.choose_spec (hkn2 k) hk
  -- the rows' classes
  obtain ⟨c20, k20, o20, n20, g20, t20⟩ := Cond.arrayClass_spec (hts _ (zfl_lay (.arrayClass .int) (by simp)))
  obtain ⟨c21, k21, o21, n21, g21, t21⟩ := Cond.arrayClass_spec (hts _ (zfl_lay (.arrayClass .long) (by simp)))
  obtain ⟨o22, c22, k22, n22, -, g22, t22, m22⟩ := Cond.arrayOver_spec (hts _ (zfl_lay (.arrayOver (.object "SagaDesk$Program")) (by simp)))
  obtain ⟨o23, c23, k23, n23, -, g23, t23, m23⟩ := Cond.arrayOver_spec (hts _ (zfl_lay (.arrayOver (.object "SagaDesk$Saga")) (by simp)))
  obtain ⟨o24, c24, k24, n24, -, g24, t24, m24⟩ := Cond.arrayOver_spec (hts _ (zfl_lay (.arrayOver (.object "SagaDesk$Row")) (by simp)))
  obtain ⟨o25, c25, k25, n25, g25, t25, m25⟩ := z_overA (hts _ (zfl_lay (.arrayOver (.array .int)) (by simp)))
  obtain ⟨o26, c26, k26, n26, g26, t26, m26⟩ := z_overA (hts _ (zfl_lay (.arrayOver (.array (.array .int))) (by simp)))
  have e25 : o25 = c20 := Option.some.inj (n25.symm.trans n20)
  have e26 : o26 = c25 := Option.some.inj (n26.symm.trans m25)
  -- the static rows
  have hev : ∀ (a : Term) (z : Int32), (Cond.eq a (.int z)).before #[Value.ref b] s = true → a.eval #[Value.ref b] s none [] s = some (.int z) := fun a z h => z_ev h rfl
  obtain ⟨u1, u2, u3, u4, u5, u6, u7, u8⟩ := zfl_sts
  obtain ⟨tU, vU, TU⟩ := va_Tof (f := fun j => .int (zUn j)) (by decide) (hf _ u1) (hev _ _ (hf _ u2)) (fun j hj => hev _ _ (hf _ (u3 j hj))) hA
  obtain ⟨tA, vA, TA⟩ := va_Tof (f := fun j => .int (zAo j)) (by decide) (hf _ u4) (hev _ _ (hf _ u5)) (fun j hj => hev _ _ (hf _ (u6 j hj))) hA
  have ZU := va_Zof (hts _ (zfl_lay (.laysStatic "SagaDesk" "UNDER" "[I") (by simp))) (hts _ (zfl_lay (.initialized "SagaDesk") (by simp))) vU hA
  have ZA := va_Zof (hts _ (zfl_lay (.laysStatic "SagaDesk" "ACCOUNTS_OF" "[I") (by simp))) (hts _ (zfl_lay (.initialized "SagaDesk") (by simp))) vA hA
  have ZC := va_Zof (hts _ (zfl_lay (.laysStatic "java/lang/String" "COMPACT_STRINGS" "Z") (by simp))) (hts _ (zfl_lay (.initialized "java/lang/String") (by simp))) (hev _ _ (hf _ u7)) hA
  have ZQ := va_Zqof (hts _ (zfl_lay (.laysStatic "jdk/internal/util/Preconditions" "SIOOBE_FORMATTER" "Ljava/util/function/BiFunction;") (by simp))) (hts _ (zfl_lay (.initialized "jdk/internal/util/Preconditions") (by simp))) (hf _ u8) hA
  -- the texts
  obtain ⟨adK, adV, hS, hSe⟩ := vk_Sof (args := #[Value.ref b]) (s := s) (N := 6) (tm := zTm) (len := zLen) (byt := zByt) (A := fun q => s.heap.size ≤ q) (by decide) (fun i hi => hf _ (zfl_str i hi).1) (fun i hi => hf _ (zfl_str i hi).2.1) (fun i hi => hf _ (zfl_str i hi).2.2.1) (fun i hi => hf _ (zfl_str i hi).2.2.2.1)
    (fun i hi j hj => hf _ ((zfl_str i hi).2.2.2.2 j hj)) (fun i j hi hj hij => (zfl_ne i hi j hj hij).elim (fun h => Or.inl (hf _ h)) (fun h => Or.inr (hf _ h))) hA
  let Z : zX := (s.heap.size, (fun k => if k = 0 then b else if k = 1 then tU else if k = 2 then tA else adK (k - 3)), (fun k => if k = 20 then c20 else if k = 21 then c21 else if k = 22 then c22 else if k = 23 then c23 else if k = 24 then c24 else if k = 25 then c25 else c26), D, L, xs, adV)
  have hsp3 : ∀ i, zsp Z (3 + i) = adK i := fun i => by
    show (if 3 + i = 0 then b else if 3 + i = 1 then tU else if 3 + i = 2 then tA else adK (3 + i - 3)) = adK i
    rw [if_neg (by omega), if_neg (by omega), if_neg (by omega), show 3 + i - 3 = i by omega]
  refine ⟨Z, rfl, rfl, ⟨Nat.le_refl 16, rfl, fun k q h => ?_, zM0_fr L xs, zM0_sk rfl rfl⟩, ⟨⟨fun k q hq => ?_, fun k q hq => ?_⟩, fun q hq => ?_, fun w hw => ?_, hts _ (zfl_lay (.arrayOver (.object "SagaDesk$Program")) (by simp)), hts _ (zfl_lay (.arrayOver (.object "SagaDesk$Saga")) (by simp)), hts _ (zfl_lay (.arrayOver (.object "SagaDesk$Row")) (by simp)), ⟨k20, o20, g20, t20⟩, ⟨k25, g25, t25.trans (by rw [e25]; rfl)⟩, ⟨k26, g26, t26.trans (by rw [e26]; rfl)⟩⟩, ?_, TU, TA, ZU, ZA, ?_, ZC, ZQ⟩
  · have : zws Z (zM0 L xs) = [] := rfl
    rw [this] at h
    cases h
  · have hk9 : k < 9 := (List.getElem?_eq_some_iff.mp hq).1
    rw [zC_cl k hk9] at hq
    cases hq
    exact hD k hk9
  · have hk7 : k < 7 := (List.getElem?_eq_some_iff.mp hq).1
    rcases (show k = 0 ∨ k = 1 ∨ k = 2 ∨ k = 3 ∨ k = 4 ∨ k = 5 ∨ k = 6 by omega) with rfl | rfl | rfl | rfl | rfl | rfl | rfl <;> cases hq
    · exact ⟨fun n z => ⟨fun q h => (by cases h), k20, g20, o20, t20⟩, n20⟩
    · exact ⟨fun n z => ⟨fun q h => (by cases h), k21, g21, o21, t21⟩, n21⟩
    · exact ⟨fun n z => ⟨fun q h => (by cases h), k22, g22, o22, t22⟩, k22, o22, g22, t22, n22, m22⟩
    · exact ⟨fun n z => ⟨fun q h => (by cases h), k23, g23, o23, t23⟩, k23, o23, g23, t23, n23, m23⟩
    · exact ⟨fun n z => ⟨fun q h => (by cases h), k24, g24, o24, t24⟩, k24, o24, g24, t24, n24, m24⟩
    · exact ⟨fun n z => ⟨fun q h => (by cases h), k25, g25, o25, t25⟩, m25⟩
    · exact ⟨fun n z => ⟨fun q h => (by cases h), k26, g26, o26, t26⟩, m26⟩
  · obtain ⟨h1, h2⟩ := zfl_xs q hq
    rw [hsp3]
    refine vk_R.of (hts _ h1) ?_
    have h3 := hSe q.2 h2
    rcases zfl_same q hq with ⟨h4, h5⟩ | h4 | h4
    · rw [h4, h5]; exact h3
    · exact z_ev (hf _ h4) h3
    · exact z_ev2 (hf _ h4) h3
  · exact va_Nw.of (by
      have : ∀ w ∈ zNw, w.onTables = true := by decide +kernel
      exact this w hw) (hts _ (zNw_in w hw))
  · obtain ⟨scr, h1, h2, h3, h4, h5⟩ := hX
    exact ⟨scr, h1, h2, h3, Nat.le_of_eq h4.symm, by rw [h4]; rfl, h5, hA b hbl⟩
  · have : (fun i => zsp Z (3 + i)) = adK := funext hsp3
    rw [this]
    exact hS
theorem z_start {p : Program} {e : Env} {s : State} {m : MethodId} {below : List Frame} {meth : Method} {c : Code} (l : Launch) {b L : Nat} {xs : Nat → Int32} (hL : L ≤ 3584) (C0 : lw_At p s m meth c b L xs)
    (hz : ∃ (d f : Nat) (M' : zM), d + 1 ≤ 1000 ∧ zLoop (zEv d) 902 (some (.int 1)) M' f 0 [(0, .ref 0)] [] (zM0 L xs) ∧ zn M' ≤ 600016 ∧ zs M' ≤ 7302249) :
    W p l e room_1 s m #[Value.ref b] below meth c s.heap [] 0 0 (lw_Z below #[Value.ref b] s) (entryFrame m ([Value.ref b] : List Value).toArray 4) := by
  obtain ⟨hx, hb, hr, hml, hown, hts, hX, hbl, hlocks, hgv⟩ := id C0
  obtain ⟨Z, hzb, hz0, hrep⟩ := z_rep0 hL C0
  obtain ⟨d, f, M', hd, hrun, hn, hs⟩ := hz
  have hl := lv_entry ([.ref b]) (n := 4) (Nat.le_of_ble_eq_true rfl)
  have hl2 : lv_args 0 [Value.ref b] = zlm Z [(0, .ref 0)] := by
    show [(0, Value.ref b)] = [(0, Value.ref (zρ Z 0))]
    rw [show zρ Z 0 = zsp Z 0 from rfl, hz0]
  rw [hl2] at hl
  rw [lg_entry_eq]
  have hI : zInv Z s (zM0 L xs) s.heap [] 0 := ⟨hrep.1, by rw [hzb]; rfl, va_S.rf, by rw [hzb]; exact Nat.le_refl _⟩
  refine z_run (R0 := room_1) (d := d) (m := 902) (v := some (.int 1)) (M' := M') hx hb hml hown (fun w hw => hts w (zW_sub w hw)) hrep.2.1 hrep.2.2 (fun hq => absurd hq (by decide)) (by show d + 1 ≤ 2048; omega) (by show 60 * (d + 1) ≤ 84000; omega) (z_met Z l d) ?_ f 0 _ [] (zM0 L xs) s.heap [] 0 0 _ hrun hl hI (by show 0 + (zn M' - 16) ≤ 600000; omega) (by show 0 + (zs M' - 0) ≤ 7302249; omega)
  intro pc H locs cells slots ls st i hdg hend hI2 hc2 hs2
  cases i with
  | ireturn =>
    obtain ⟨y, rfl, -, hv⟩ := hend
    cases hv
    refine va_forget (fun q hq => by have := hI2.2.2.1.2.2 q hq; rw [← hzb]; exact this) ?_
    exact W.widen hc2 hs2 (lw_ret hx hb hr hlocks hdg)
  | lreturn => obtain ⟨y, rfl, h, -⟩ := hend; exact absurd h (by decide)
  | areturn => obtain ⟨y, rfl, h, -⟩ := hend; exact absurd h (by decide)
  | return_ => obtain ⟨rfl, h, -⟩ := hend; exact absurd h (by decide)
  | _ => exact hend.elim
end
section
/-! ===== rows of the small machine: one an instruction ===== -/
def qW (R : zRT) (m : Nat) (Q : Option Value → zM → Prop) (pc : Nat) (l : List (Nat × Value)) (st : List Value) (M : zM) : Prop := ∃ (f : Nat) (v : Option Value) (M' : zM), zLoop R m v M' f pc l st M ∧ Q v M'
/-- a call's end -/
def qC (d y : Nat) (as : List Value) (M : zM) (Q : Option Value → zM → Prop) : Prop := ∃ (v : Option Value) (M' : zM), zEv d y as M v M' ∧ Q v M'
section QR
variable {R : zRT} {m : Nat} {Q : Option Value → zM → Prop} {pc n : Nat} {l l' : List (Nat × Value)} {st : List Value} {M : zM}
theorem q_of {i : Instr} (hd : decode (zB m) pc = .ok (i, n)) (h : ∃ (f : Nat) (v : Option Value) (M' : zM), zSem R m (zLoop R m v M' f) v M' pc l st M n i ∧ Q v M') : qW R m Q pc l st M := by
  obtain ⟨f, v, M', h1, h2⟩ := h
  exact ⟨f + 1, v, M', ⟨i, n, hd, h1⟩, h2⟩
theorem q_null (hd : decode (zB m) pc = .ok (.aconst_null, 1)) (k : qW R m Q (pc + 1) l (.null :: st) M) : qW R m Q pc l st M := by
  obtain ⟨f, v, M', h1, h2⟩ := k; exact q_of hd ⟨f, v, M', ⟨rfl, h1⟩, h2⟩
theorem q_iconst {z : Int} {x : Int32} (hd : decode (zB m) pc = .ok (.iconst z, 1)) (hv : Int32.ofInt z = x) (k : qW R m Q (pc + 1) l (.int x :: st) M) : qW R m Q pc l st M := by
  subst hv; obtain ⟨f, v, M', h1, h2⟩ := k; exact q_of hd ⟨f, v, M', ⟨rfl, h1⟩, h2⟩
theorem q_bipush {z : Int} {x : Int32} (hd : decode (zB m) pc = .ok (.bipush z, 2)) (hv : (Int8.ofInt z).toInt32 = x) (k : qW R m Q (pc + 2) l (.int x :: st) M) : qW R m Q pc l st M := by
  subst hv; obtain ⟨f, v, M', h1, h2⟩ := k; exact q_of hd ⟨f, v, M', ⟨rfl, h1⟩, h2⟩
theorem q_sipush {z : Int} {x : Int32} (hd : decode (zB m) pc = .ok (.sipush z, 3)) (hv : (Int16.ofInt z).toInt32 = x) (k : qW R m Q (pc + 3) l (.int x :: st) M) : qW R m Q pc l st M := by
  subst hv; obtain ⟨f, v, M', h1, h2⟩ := k; exact q_of hd ⟨f, v, M', ⟨rfl, h1⟩, h2⟩
theorem q_lconst {z : Fin 2} {x : Int64} (hd : decode (zB m) pc = .ok (.lconst z, 1)) (hv : Int64.ofNat (z : Nat) = x) (k : qW R m Q (pc + 1) l (.long x :: st) M) : qW R m Q pc l st M := by
  subst hv; obtain ⟨f, v, M', h1, h2⟩ := k; exact q_of hd ⟨f, v, M', ⟨rfl, h1⟩, h2⟩
theorem q_ldc {ix : Nat} {x : Int32} (hd : decode (zB m) pc = .ok (.ldc ix, 2)) (hv : zKi (zO m) ix = some x) (k : qW R m Q (pc + 2) l (.int x :: st) M) : qW R m Q pc l st M := by
  obtain ⟨f, v, M', h1, h2⟩ := k; exact q_of hd ⟨f, v, M', ⟨rfl, Or.inl ⟨x, hv, h1⟩⟩, h2⟩
theorem q_ldcs {ix x : Nat} (hd : decode (zB m) pc = .ok (.ldc ix, 2)) (hv : zKx (zO m) ix = some x) (k : qW R m Q (pc + 2) l (.ref (3 + x) :: st) M) : qW R m Q pc l st M := by
  obtain ⟨f, v, M', h1, h2⟩ := k; exact q_of hd ⟨f, v, M', ⟨rfl, Or.inr ⟨x, hv, h1⟩⟩, h2⟩
theorem q_ldc_w {ix : Nat} {x : Int32} (hd : decode (zB m) pc = .ok (.ldc_w ix, 3)) (hv : zKi (zO m) ix = some x) (k : qW R m Q (pc + 3) l (.int x :: st) M) : qW R m Q pc l st M := by
  obtain ⟨f, v, M', h1, h2⟩ := k; exact q_of hd ⟨f, v, M', ⟨rfl, x, hv, h1⟩, h2⟩
theorem q_ldc2_w {ix : Nat} {x : Int64} (hd : decode (zB m) pc = .ok (.ldc2_w ix, 3)) (hv : zKl (zO m) ix = some x) (k : qW R m Q (pc + 3) l (.long x :: st) M) : qW R m Q pc l st M := by
  obtain ⟨f, v, M', h1, h2⟩ := k; exact q_of hd ⟨f, v, M', ⟨rfl, x, hv, h1⟩, h2⟩
theorem q_iload_n {j : Fin 4} {x : Int32} (hd : decode (zB m) pc = .ok (.iload_n j, 1)) (hl : zld l (j : Nat) = some (.int x)) (k : qW R m Q (pc + 1) l (.int x :: st) M) : qW R m Q pc l st M := by
  obtain ⟨f, v, M', h1, h2⟩ := k; exact q_of hd ⟨f, v, M', ⟨rfl, x, hl, h1⟩, h2⟩
theorem q_iload {j : Nat} {x : Int32} (hd : decode (zB m) pc = .ok (.iload j, 2)) (hl : zld l j = some (.int x)) (k : qW R m Q (pc + 2) l (.int x :: st) M) : qW R m Q pc l st M := by
  obtain ⟨f, v, M', h1, h2⟩ := k; exact q_of hd ⟨f, v, M', ⟨rfl, x, hl, h1⟩, h2⟩
theorem q_aload_n {j : Fin 4} {a : Nat} (hd : decode (zB m) pc = .ok (.aload_n j, 1)) (hl : zld l (j : Nat) = some (.ref a)) (k : qW R m Q (pc + 1) l (.ref a :: st) M) : qW R m Q pc l st M := by
  obtain ⟨f, v, M', h1, h2⟩ := k; exact q_of hd ⟨f, v, M', ⟨rfl, some a, hl, h1⟩, h2⟩
theorem q_aload {j a : Nat} (hd : decode (zB m) pc = .ok (.aload j, 2)) (hl : zld l j = some (.ref a)) (k : qW R m Q (pc + 2) l (.ref a :: st) M) : qW R m Q pc l st M := by
  obtain ⟨f, v, M', h1, h2⟩ := k; exact q_of hd ⟨f, v, M', ⟨rfl, some a, hl, h1⟩, h2⟩
theorem q_aload_nR {j : Fin 4} {r : Option Nat} (hd : decode (zB m) pc = .ok (.aload_n j, 1)) (hl : zld l (j : Nat) = some (va_rf r)) (k : qW R m Q (pc + 1) l (va_rf r :: st) M) : qW R m Q pc l st M := by
  obtain ⟨f, v, M', h1, h2⟩ := k; exact q_of hd ⟨f, v, M', ⟨rfl, r, hl, h1⟩, h2⟩
theorem q_istore_n {j : Fin 4} {x : Int32} (hd : decode (zB m) pc = .ok (.istore_n j, 1)) (hj : (j : Nat) < zML m) (hl : zst l (j : Nat) (.int x) = l') (k : qW R m Q (pc + 1) l' st M) : qW R m Q pc l (.int x :: st) M := by
  subst hl; obtain ⟨f, v, M', h1, h2⟩ := k; exact q_of hd ⟨f, v, M', ⟨rfl, hj, x, st, rfl, h1⟩, h2⟩
theorem q_istore {j : Nat} {x : Int32} (hd : decode (zB m) pc = .ok (.istore j, 2)) (hj : j < zML m) (hl : zst l j (.int x) = l') (k : qW R m Q (pc + 2) l' st M) : qW R m Q pc l (.int x :: st) M := by
  subst hl; obtain ⟨f, v, M', h1, h2⟩ := k; exact q_of hd ⟨f, v, M', ⟨rfl, hj, x, st, rfl, h1⟩, h2⟩
theorem q_astore_n {j : Fin 4} {a : Nat} (hd : decode (zB m) pc = .ok (.astore_n j, 1)) (hj : (j : Nat) < zML m) (hl : zst l (j : Nat) (.ref a) = l') (k : qW R m Q (pc + 1) l' st M) : qW R m Q pc l (.ref a :: st) M := by
  subst hl; obtain ⟨f, v, M', h1, h2⟩ := k; exact q_of hd ⟨f, v, M', ⟨rfl, hj, some a, st, rfl, h1⟩, h2⟩
theorem q_astore {j a : Nat} (hd : decode (zB m) pc = .ok (.astore j, 2)) (hj : j < zML m) (hl : zst l j (.ref a) = l') (k : qW R m Q (pc + 2) l' st M) : qW R m Q pc l (.ref a :: st) M := by
  subst hl; obtain ⟨f, v, M', h1, h2⟩ := k; exact q_of hd ⟨f, v, M', ⟨rfl, hj, some a, st, rfl, h1⟩, h2⟩
theorem q_iinc {j : Nat} {z : Int} {x y : Int32} (hd : decode (zB m) pc = .ok (.iinc j z, 3)) (hj : j < zML m) (hx : zld l j = some (.int x)) (hy : x + Int32.ofInt z = y) (hl : zst l j (.int y) = l') (k : qW R m Q (pc + 3) l' st M) : qW R m Q pc l st M := by
  subst hl; subst hy; obtain ⟨f, v, M', h1, h2⟩ := k; exact q_of hd ⟨f, v, M', ⟨rfl, hj, x, hx, h1⟩, h2⟩
theorem q_iadd {x y : Int32} (hd : decode (zB m) pc = .ok (.iadd, 1)) (k : qW R m Q (pc + 1) l (.int (x + y) :: st) M) : qW R m Q pc l (.int y :: .int x :: st) M := by
  obtain ⟨f, v, M', h1, h2⟩ := k; exact q_of hd ⟨f, v, M', ⟨rfl, x, y, st, rfl, h1⟩, h2⟩
theorem q_isub {x y : Int32} (hd : decode (zB m) pc = .ok (.isub, 1)) (k : qW R m Q (pc + 1) l (.int (x - y) :: st) M) : qW R m Q pc l (.int y :: .int x :: st) M := by
  obtain ⟨f, v, M', h1, h2⟩ := k; exact q_of hd ⟨f, v, M', ⟨rfl, x, y, st, rfl, h1⟩, h2⟩
theorem q_imul {x y : Int32} (hd : decode (zB m) pc = .ok (.imul, 1)) (k : qW R m Q (pc + 1) l (.int (x * y) :: st) M) : qW R m Q pc l (.int y :: .int x :: st) M := by
  obtain ⟨f, v, M', h1, h2⟩ := k; exact q_of hd ⟨f, v, M', ⟨rfl, x, y, st, rfl, h1⟩, h2⟩
theorem q_iand {x y : Int32} (hd : decode (zB m) pc = .ok (.iand, 1)) (k : qW R m Q (pc + 1) l (.int (x &&& y) :: st) M) : qW R m Q pc l (.int y :: .int x :: st) M := by
  obtain ⟨f, v, M', h1, h2⟩ := k; exact q_of hd ⟨f, v, M', ⟨rfl, x, y, st, rfl, h1⟩, h2⟩
theorem q_ior {x y : Int32} (hd : decode (zB m) pc = .ok (.ior, 1)) (k : qW R m Q (pc + 1) l (.int (x ||| y) :: st) M) : qW R m Q pc l (.int y :: .int x :: st) M := by
  obtain ⟨f, v, M', h1, h2⟩ := k; exact q_of hd ⟨f, v, M', ⟨rfl, x, y, st, rfl, h1⟩, h2⟩
theorem q_ixor {x y : Int32} (hd : decode (zB m) pc = .ok (.ixor, 1)) (k : qW R m Q (pc + 1) l (.int (x ^^^ y) :: st) M) : qW R m Q pc l (.int y :: .int x :: st) M := by
  obtain ⟨f, v, M', h1, h2⟩ := k; exact q_of hd ⟨f, v, M', ⟨rfl, x, y, st, rfl, h1⟩, h2⟩
theorem q_ishl {x y : Int32} (hd : decode (zB m) pc = .ok (.ishl, 1)) (k : qW R m Q (pc + 1) l (.int (x <<< (y &&& 31)) :: st) M) : qW R m Q pc l (.int y :: .int x :: st) M := by
  obtain ⟨f, v, M', h1, h2⟩ := k; exact q_of hd ⟨f, v, M', ⟨rfl, x, y, st, rfl, h1⟩, h2⟩
theorem q_ishr {x y : Int32} (hd : decode (zB m) pc = .ok (.ishr, 1)) (k : qW R m Q (pc + 1) l (.int (x >>> (y &&& 31)) :: st) M) : qW R m Q pc l (.int y :: .int x :: st) M := by
  obtain ⟨f, v, M', h1, h2⟩ := k; exact q_of hd ⟨f, v, M', ⟨rfl, x, y, st, rfl, h1⟩, h2⟩
theorem q_iushr {x y : Int32} (hd : decode (zB m) pc = .ok (.iushr, 1)) (k : qW R m Q (pc + 1) l (.int (x.toUInt32 >>> (y.toUInt32 &&& Int32.toUInt32 31)).toInt32 :: st) M) : qW R m Q pc l (.int y :: .int x :: st) M := by
  obtain ⟨f, v, M', h1, h2⟩ := k; exact q_of hd ⟨f, v, M', ⟨rfl, x, y, st, rfl, h1⟩, h2⟩
theorem q_idiv {x y : Int32} (hd : decode (zB m) pc = .ok (.idiv, 1)) (hy : ¬ y = 0) (k : qW R m Q (pc + 1) l (.int (x / y) :: st) M) : qW R m Q pc l (.int y :: .int x :: st) M := by
  obtain ⟨f, v, M', h1, h2⟩ := k; exact q_of hd ⟨f, v, M', ⟨rfl, x, y, st, rfl, hy, h1⟩, h2⟩
theorem q_irem {x y : Int32} (hd : decode (zB m) pc = .ok (.irem, 1)) (hy : ¬ y = 0) (k : qW R m Q (pc + 1) l (.int (x - x / y * y) :: st) M) : qW R m Q pc l (.int y :: .int x :: st) M := by
  obtain ⟨f, v, M', h1, h2⟩ := k; exact q_of hd ⟨f, v, M', ⟨rfl, x, y, st, rfl, hy, h1⟩, h2⟩
theorem q_ineg {x : Int32} (hd : decode (zB m) pc = .ok (.ineg, 1)) (k : qW R m Q (pc + 1) l (.int (-x) :: st) M) : qW R m Q pc l (.int x :: st) M := by
  obtain ⟨f, v, M', h1, h2⟩ := k; exact q_of hd ⟨f, v, M', ⟨rfl, x, st, rfl, h1⟩, h2⟩
theorem q_i2b {x : Int32} (hd : decode (zB m) pc = .ok (.i2b, 1)) (k : qW R m Q (pc + 1) l (.int x.toInt8.toInt32 :: st) M) : qW R m Q pc l (.int x :: st) M := by
  obtain ⟨f, v, M', h1, h2⟩ := k; exact q_of hd ⟨f, v, M', ⟨rfl, x, st, rfl, h1⟩, h2⟩
theorem q_ladd {x y : Int64} (hd : decode (zB m) pc = .ok (.ladd, 1)) (k : qW R m Q (pc + 1) l (.long (x + y) :: st) M) : qW R m Q pc l (.long y :: .long x :: st) M := by
  obtain ⟨f, v, M', h1, h2⟩ := k; exact q_of hd ⟨f, v, M', ⟨rfl, x, y, st, rfl, h1⟩, h2⟩
theorem q_lcmp {x y : Int64} (hd : decode (zB m) pc = .ok (.lcmp, 1)) (k : qW R m Q (pc + 1) l (.int (lg_cmp x y) :: st) M) : qW R m Q pc l (.long y :: .long x :: st) M := by
  obtain ⟨f, v, M', h1, h2⟩ := k; exact q_of hd ⟨f, v, M', ⟨rfl, x, y, st, rfl, h1⟩, h2⟩
theorem q_dup {a : Value} (hd : decode (zB m) pc = .ok (.dup, 1)) (ha : a.category = 1) (k : qW R m Q (pc + 1) l (a :: a :: st) M) : qW R m Q pc l (a :: st) M := by
  obtain ⟨f, v, M', h1, h2⟩ := k; exact q_of hd ⟨f, v, M', ⟨rfl, a, st, rfl, ha, h1⟩, h2⟩
theorem q_dup2 {a b : Value} (hd : decode (zB m) pc = .ok (.dup2, 1)) (ha : a.category = 1) (hb : b.category = 1) (k : qW R m Q (pc + 1) l (a :: b :: a :: b :: st) M) : qW R m Q pc l (a :: b :: st) M := by
  obtain ⟨f, v, M', h1, h2⟩ := k; exact q_of hd ⟨f, v, M', ⟨rfl, a, b, st, rfl, ha, hb, h1⟩, h2⟩
theorem q_pop {a : Value} (hd : decode (zB m) pc = .ok (.pop, 1)) (ha : a.category = 1) (k : qW R m Q (pc + 1) l st M) : qW R m Q pc l (a :: st) M := by
  obtain ⟨f, v, M', h1, h2⟩ := k; exact q_of hd ⟨f, v, M', ⟨rfl, a, st, rfl, ha, h1⟩, h2⟩
theorem q_goto {off : Int} (tgt : Nat) (hd : decode (zB m) pc = .ok (.goto off, 3)) (ht : (pc : Int) + off = tgt) (k : qW R m Q tgt l st M) : qW R m Q pc l st M := by
  obtain ⟨f, v, M', h1, h2⟩ := k; exact q_of hd ⟨f, v, M', ⟨rfl, tgt, ht, h1⟩, h2⟩
theorem q_if {c : ClassFile.Cond} {off : Int} {x : Int32} (tgt : Nat) (hd : decode (zB m) pc = .ok (.ifCond c off, 3)) (ht : (pc : Int) + off = tgt) (kt : zcc c x 0 → qW R m Q tgt l st M) (kf : ¬ zcc c x 0 → qW R m Q (pc + 3) l st M) : qW R m Q pc l (.int x :: st) M := by
  by_cases h : zcc c x 0
  · obtain ⟨f, v, M', h1, h2⟩ := kt h; exact q_of hd ⟨f, v, M', ⟨rfl, x, st, tgt, rfl, ht, fun _ => h1, fun q => absurd h q⟩, h2⟩
  · obtain ⟨f, v, M', h1, h2⟩ := kf h; exact q_of hd ⟨f, v, M', ⟨rfl, x, st, tgt, rfl, ht, fun q => absurd q h, fun _ => h1⟩, h2⟩
theorem q_icmp {c : ClassFile.Cond} {off : Int} {x y : Int32} (tgt : Nat) (hd : decode (zB m) pc = .ok (.if_icmp c off, 3)) (ht : (pc : Int) + off = tgt) (kt : zcc c x y → qW R m Q tgt l st M) (kf : ¬ zcc c x y → qW R m Q (pc + 3) l st M) : qW R m Q pc l (.int y :: .int x :: st) M := by
  by_cases h : zcc c x y
  · obtain ⟨f, v, M', h1, h2⟩ := kt h; exact q_of hd ⟨f, v, M', ⟨rfl, x, y, st, tgt, rfl, ht, fun _ => h1, fun q => absurd h q⟩, h2⟩
  · obtain ⟨f, v, M', h1, h2⟩ := kf h; exact q_of hd ⟨f, v, M', ⟨rfl, x, y, st, tgt, rfl, ht, fun q => absurd q h, fun _ => h1⟩, h2⟩
theorem q_ifnull {off : Int} {r : Option Nat} (tgt : Nat) (hd : decode (zB m) pc = .ok (.ifnull off, 3)) (ht : (pc : Int) + off = tgt) (kt : r = none → qW R m Q tgt l st M) (kf : ¬ r = none → qW R m Q (pc + 3) l st M) : qW R m Q pc l (va_rf r :: st) M := by
  by_cases h : r = none
  · obtain ⟨f, v, M', h1, h2⟩ := kt h; exact q_of hd ⟨f, v, M', ⟨rfl, r, st, tgt, rfl, ht, fun _ => h1, fun q => absurd h q⟩, h2⟩
  · obtain ⟨f, v, M', h1, h2⟩ := kf h; exact q_of hd ⟨f, v, M', ⟨rfl, r, st, tgt, rfl, ht, fun q => absurd q h, fun _ => h1⟩, h2⟩
theorem q_ifnonnull {off : Int} {r : Option Nat} (tgt : Nat) (hd : decode (zB m) pc = .ok (.ifnonnull off, 3)) (ht : (pc : Int) + off = tgt) (kt : ¬ r = none → qW R m Q tgt l st M) (kf : r = none → qW R m Q (pc + 3) l st M) : qW R m Q pc l (va_rf r :: st) M := by
  by_cases h : r = none
  · obtain ⟨f, v, M', h1, h2⟩ := kf h; exact q_of hd ⟨f, v, M', ⟨rfl, r, st, tgt, rfl, ht, fun _ => h1, fun q => absurd h q⟩, h2⟩
  · obtain ⟨f, v, M', h1, h2⟩ := kt h; exact q_of hd ⟨f, v, M', ⟨rfl, r, st, tgt, rfl, ht, fun q => absurd q h, fun _ => h1⟩, h2⟩
theorem q_tsO {d lo hi : Int} {offs : Array Int} {x : Int32} (tgt : Nat) (hd : decode (zB m) pc = .ok (.tableswitch d lo hi offs, n)) (h : x.toInt < lo ∨ hi < x.toInt) (ht : (pc : Int) + d = tgt) (k : qW R m Q tgt l st M) : qW R m Q pc l (.int x :: st) M := by
  obtain ⟨f, v, M', h1, h2⟩ := k; exact q_of hd ⟨f, v, M', ⟨x, st, rfl, fun _ => ⟨tgt, ht, h1⟩, fun q => absurd h q⟩, h2⟩
theorem q_tsI {d lo hi : Int} {offs : Array Int} {x : Int32} (off : Int) (tgt : Nat) (hd : decode (zB m) pc = .ok (.tableswitch d lo hi offs, n)) (h : ¬ (x.toInt < lo ∨ hi < x.toInt)) (ho : offs[(x.toInt - lo).toNat]? = some off) (ht : (pc : Int) + off = tgt) (k : qW R m Q tgt l st M) : qW R m Q pc l (.int x :: st) M := by
  obtain ⟨f, v, M', h1, h2⟩ := k; exact q_of hd ⟨f, v, M', ⟨x, st, rfl, fun q => absurd q h, fun _ => ⟨off, tgt, ho, ht, h1⟩⟩, h2⟩
/-- fields: ints, references -/
theorem q_geti {ix a c f : Nat} (hd : decode (zB m) pc = .ok (.getfield ix, 3)) (hf : zFld (zO m) ix = some (c, f) ∧ zF c f ≠ 1) (hk : zk M a = (c, 0)) (k : qW R m Q (pc + 3) l (.int (zi M a f) :: st) M) : qW R m Q pc l (.ref a :: st) M := by
  obtain ⟨g, v, M', h1, h2⟩ := k
  exact q_of hd ⟨g, v, M', ⟨rfl, a, st, c, f, rfl, hf.1, hk, by unfold zgv; rw [if_neg hf.2]; exact h1⟩, h2⟩
theorem q_getr {ix a c f : Nat} {r : Option Nat} (hd : decode (zB m) pc = .ok (.getfield ix, 3)) (hf : zFld (zO m) ix = some (c, f) ∧ zF c f = 1) (hk : zk M a = (c, 0)) (hr : zr M a f = r) (k : qW R m Q (pc + 3) l (va_rf r :: st) M) : qW R m Q pc l (.ref a :: st) M := by
  subst hr
  obtain ⟨g, v, M', h1, h2⟩ := k
  exact q_of hd ⟨g, v, M', ⟨rfl, a, st, c, f, rfl, hf.1, hk, by unfold zgv; rw [if_pos hf.2]; exact h1⟩, h2⟩
theorem q_puti {ix a c f : Nat} {x : Int32} (hd : decode (zB m) pc = .ok (.putfield ix, 3)) (hf : zFld (zO m) ix = some (c, f) ∧ zF c f = 0 ∧ (((zCl.getD c ("", zT0, 0)).2.1 f).2.2.2 = true → (zNm m).name = "<init>" ∧ zO m = c)) (hk : zk M a = (c, 0)) (k : qW R m Q (pc + 3) l st (zwi M a f x)) : qW R m Q pc l (.int x :: .ref a :: st) M := by
  obtain ⟨g, v, M', h1, h2⟩ := k
  exact q_of hd ⟨g, v, M', ⟨rfl, .int x, a, st, c, f, rfl, hf.1, hk, hf.2.2, Or.inl ⟨hf.2.1, x, rfl, h1⟩⟩, h2⟩
theorem q_putz {ix a c f : Nat} {x : Int32} (hd : decode (zB m) pc = .ok (.putfield ix, 3)) (hf : zFld (zO m) ix = some (c, f) ∧ zF c f = 2 ∧ (((zCl.getD c ("", zT0, 0)).2.1 f).2.2.2 = true → (zNm m).name = "<init>" ∧ zO m = c)) (hk : zk M a = (c, 0)) (hx : x = 0 ∨ x = 1) (k : qW R m Q (pc + 3) l st (zwi M a f x)) : qW R m Q pc l (.int x :: .ref a :: st) M := by
  obtain ⟨g, v, M', h1, h2⟩ := k
  exact q_of hd ⟨g, v, M', ⟨rfl, .int x, a, st, c, f, rfl, hf.1, hk, hf.2.2, Or.inr (Or.inl ⟨hf.2.1, x, rfl, hx, h1⟩)⟩, h2⟩
theorem q_putr {ix a c f : Nat} {r : Option Nat} (hd : decode (zB m) pc = .ok (.putfield ix, 3)) (hf : zFld (zO m) ix = some (c, f) ∧ zF c f = 1 ∧ (((zCl.getD c ("", zT0, 0)).2.1 f).2.2.2 = true → (zNm m).name = "<init>" ∧ zO m = c)) (hk : zk M a = (c, 0)) (k : qW R m Q (pc + 3) l st (zwr M a f r)) : qW R m Q pc l (va_rf r :: .ref a :: st) M := by
  obtain ⟨g, v, M', h1, h2⟩ := k
  exact q_of hd ⟨g, v, M', ⟨rfl, va_rf r, a, st, c, f, rfl, hf.1, hk, hf.2.2, Or.inr (Or.inr ⟨hf.2.1, r, rfl, h1⟩)⟩, h2⟩
theorem q_getst {ix a : Nat} (hd : decode (zB m) pc = .ok (.getstatic ix, 3)) (hf : zSt (zO m) ix = some a) (k : qW R m Q (pc + 3) l (.ref a :: st) M) : qW R m Q pc l st M := by
  obtain ⟨g, v, M', h1, h2⟩ := k; exact q_of hd ⟨g, v, M', ⟨rfl, a, hf, h1⟩, h2⟩
theorem q_alen {a N : Nat} (hd : decode (zB m) pc = .ok (.arraylength, 1)) (hk : zk M a = (20, N) ∨ zk M a = (21, N) ∨ (a < 3 ∧ zk M a = (30, N))) (k : qW R m Q (pc + 1) l (.int (Int32.ofNat N) :: st) M) : qW R m Q pc l (.ref a :: st) M := by
  obtain ⟨g, v, M', h1, h2⟩ := k; exact q_of hd ⟨g, v, M', ⟨rfl, a, st, N, rfl, hk, h1⟩, h2⟩
theorem q_iald {a N : Nat} {j : Int32} {x : Int32} (hd : decode (zB m) pc = .ok (.iaload, 1)) (hk : zk M a = (20, N) ∨ (a < 3 ∧ zk M a = (30, N))) (hj : vp_in j N) (hx : zi M a j.toNatClampNeg = x) (k : qW R m Q (pc + 1) l (.int x :: st) M) : qW R m Q pc l (.int j :: .ref a :: st) M := by
  subst hx; obtain ⟨g, v, M', h1, h2⟩ := k; exact q_of hd ⟨g, v, M', ⟨rfl, j, a, st, N, rfl, hk, hj, h1⟩, h2⟩
theorem q_lald {a N : Nat} {j : Int32} {x : Int64} (hd : decode (zB m) pc = .ok (.laload, 1)) (hk : zk M a = (21, N)) (hj : vp_in j N) (hx : zl M a j.toNatClampNeg = x) (k : qW R m Q (pc + 1) l (.long x :: st) M) : qW R m Q pc l (.int j :: .ref a :: st) M := by
  subst hx; obtain ⟨g, v, M', h1, h2⟩ := k; exact q_of hd ⟨g, v, M', ⟨rfl, j, a, st, N, rfl, hk, hj, h1⟩, h2⟩
theorem q_aald {a t N : Nat} {j : Int32} {r : Option Nat} (hd : decode (zB m) pc = .ok (.aaload, 1)) (hk : zk M a = (t, N)) (ht : 22 ≤ t ∧ t < 27) (hj : vp_in j N) (hr : zr M a j.toNatClampNeg = r) (k : qW R m Q (pc + 1) l (va_rf r :: st) M) : qW R m Q pc l (.int j :: .ref a :: st) M := by
  subst hr; obtain ⟨g, v, M', h1, h2⟩ := k; exact q_of hd ⟨g, v, M', ⟨rfl, j, a, st, t, N, rfl, hk, ht.1, ht.2, hj, h1⟩, h2⟩
theorem q_iast {a N : Nat} {j x : Int32} (hd : decode (zB m) pc = .ok (.iastore, 1)) (hk : zk M a = (20, N)) (hj : vp_in j N) (k : qW R m Q (pc + 1) l st (zwi M a j.toNatClampNeg x)) : qW R m Q pc l (.int x :: .int j :: .ref a :: st) M := by
  obtain ⟨g, v, M', h1, h2⟩ := k; exact q_of hd ⟨g, v, M', ⟨rfl, x, j, a, st, N, rfl, hk, hj, h1⟩, h2⟩
theorem q_last {a N : Nat} {j : Int32} {x : Int64} (hd : decode (zB m) pc = .ok (.lastore, 1)) (hk : zk M a = (21, N)) (hj : vp_in j N) (k : qW R m Q (pc + 1) l st (zwl M a j.toNatClampNeg x)) : qW R m Q pc l (.long x :: .int j :: .ref a :: st) M := by
  obtain ⟨g, v, M', h1, h2⟩ := k; exact q_of hd ⟨g, v, M', ⟨rfl, x, j, a, st, N, rfl, hk, hj, h1⟩, h2⟩
theorem q_newi {N : Nat} {z : Int32} (hd : decode (zB m) pc = .ok (.newarray .int, 2)) (hz : ¬ z < 0) (hN : z.toNatClampNeg = N) (h6 : N ≤ 65536) (k : qW R m Q (pc + 2) l (.ref (zn M) :: st) (znw M 20 N N)) : qW R m Q pc l (.int z :: st) M := by
  obtain ⟨g, v, M', h1, h2⟩ := k; exact q_of hd ⟨g, v, M', ⟨rfl, z, st, N, rfl, hz, hN, h6, Or.inl ⟨rfl, h1⟩⟩, h2⟩
/-- calls -/
theorem q_static {ix y : Nat} {as : List Value} {w : Option Value} {M1 : zM} (hd : decode (zB m) pc = .ok (.invokestatic ix, 3)) (hc : zCall (zO m) ix = some (1, y) ∨ zCall (zO m) ix = some (4, y)) (hn : as.length = zA y) (hr : R y as M w M1) (h8 : zct st ≤ 8) (k : qW R m Q (pc + 3) l (w.toList ++ st) M1) : qW R m Q pc l (as.reverse ++ st) M := by
  obtain ⟨g, v, M', h1, h2⟩ := k
  rcases hc with hc | hc
  · exact q_of hd ⟨g, v, M', ⟨rfl, 1, y, hc, Or.inl ⟨Or.inl rfl, as, st, rfl, hn, h8, w, M1, hr, h1⟩⟩, h2⟩
  · exact q_of hd ⟨g, v, M', ⟨rfl, 4, y, hc, Or.inl ⟨Or.inr rfl, as, st, rfl, hn, h8, w, M1, hr, h1⟩⟩, h2⟩
theorem q_virt {ix y b : Nat} {as : List Value} {w : Option Value} {M1 : zM} (hd : decode (zB m) pc = .ok (.invokevirtual ix, 3)) (hc : zCall (zO m) ix = some (0, y)) (hn : as.length = zA y) (hk : zk M b = (zO y, 0)) (hr : R y (.ref b :: as) M w M1) (h8 : zct st ≤ 8) (k : qW R m Q (pc + 3) l (w.toList ++ st) M1) : qW R m Q pc l (as.reverse ++ .ref b :: st) M := by
  obtain ⟨g, v, M', h1, h2⟩ := k
  exact q_of hd ⟨g, v, M', ⟨rfl, 0, y, b, as, st, hc, rfl, Or.inl ⟨rfl, hn, hk, h8, w, M1, hr, h1⟩⟩, h2⟩
theorem q_str {ix y b : Nat} {as : List Value} {w : Option Value} {M1 : zM} (hd : decode (zB m) pc = .ok (.invokevirtual ix, 3)) (hc : zCall (zO m) ix = some (8, y) ∨ zCall (zO m) ix = some (9, y)) (hr : R y (.ref b :: as) M w M1) (h8 : zct st ≤ 8) (k : qW R m Q (pc + 3) l (w.toList ++ st) M1) : qW R m Q pc l (as.reverse ++ .ref b :: st) M := by
  obtain ⟨g, v, M', h1, h2⟩ := k
  rcases hc with hc | hc
  · exact q_of hd ⟨g, v, M', ⟨rfl, 8, y, b, as, st, hc, rfl, Or.inr ⟨Or.inl rfl, h8, w, M1, hr, h1⟩⟩, h2⟩
  · exact q_of hd ⟨g, v, M', ⟨rfl, 9, y, b, as, st, hc, rfl, Or.inr ⟨Or.inr rfl, h8, w, M1, hr, h1⟩⟩, h2⟩
theorem q_spec {ix y b : Nat} {as : List Value} {w : Option Value} {M1 : zM} (hd : decode (zB m) pc = .ok (.invokespecial ix, 3)) (hc : zCall (zO m) ix = some (2, y) ∨ zCall (zO m) ix = some (5, y)) (hn : as.length = zA y) (hk : zRk y = 0) (hr : R y (.ref b :: as) M w M1) (h8 : zct st ≤ 8) (k : qW R m Q (pc + 3) l (w.toList ++ st) M1) : qW R m Q pc l (as.reverse ++ .ref b :: st) M := by
  obtain ⟨g, v, M', h1, h2⟩ := k
  rcases hc with hc | hc
  · exact q_of hd ⟨g, v, M', ⟨rfl, 2, y, b, as, st, hc, rfl, Or.inr ⟨Or.inl rfl, hn, hk, h8, w, M1, hr, h1⟩⟩, h2⟩
  · exact q_of hd ⟨g, v, M', ⟨rfl, 5, y, b, as, st, hc, rfl, Or.inr ⟨Or.inr rfl, hn, hk, h8, w, M1, hr, h1⟩⟩, h2⟩
theorem q_copy {ix y a a0 n0 n1 : Nat} {N dp sp : Int32} (hd : decode (zB m) pc = .ok (.invokestatic ix, 3)) (hc : zCall (zO m) ix = some (7, y)) (h0 : zk M a0 = (20, n0)) (h1 : zk M a = (20, n1)) (hsp : ¬ sp < 0) (hdp : ¬ dp < 0) (hN : ¬ N < 0) (e0 : sp.toNatClampNeg + N.toNatClampNeg ≤ n0) (e1 : dp.toNatClampNeg + N.toNatClampNeg ≤ n1) (h8 : zct st ≤ 8)
    (k : qW R m Q (pc + 3) l st (zcp M a0 sp.toNatClampNeg a dp.toNatClampNeg N.toNatClampNeg)) : qW R m Q pc l (.int N :: .int dp :: .ref a :: .int sp :: .ref a0 :: st) M := by
  obtain ⟨g, v, M', g1, g2⟩ := k
  exact q_of hd ⟨g, v, M', ⟨rfl, 7, y, hc, Or.inr (Or.inl ⟨rfl, N, dp, sp, a, a0, st, n0, n1, rfl, h0, h1, hsp, hdp, hN, e0, e1, h8, g1⟩)⟩, g2⟩
theorem q_max {ix y : Nat} {a b : Int32} (hd : decode (zB m) pc = .ok (.invokestatic ix, 3)) (hc : zCall (zO m) ix = some (10, y)) (h8 : zct st ≤ 8) (k : qW R m Q (pc + 3) l (.int (if a < b then b else a) :: st) M) : qW R m Q pc l (.int b :: .int a :: st) M := by
  obtain ⟨g, v, M', g1, g2⟩ := k
  exact q_of hd ⟨g, v, M', ⟨rfl, 10, y, hc, Or.inr (Or.inr (Or.inl ⟨rfl, a, b, st, rfl, h8, g1⟩))⟩, g2⟩
theorem q_min {ix y : Nat} {a b : Int32} (hd : decode (zB m) pc = .ok (.invokestatic ix, 3)) (hc : zCall (zO m) ix = some (11, y)) (h8 : zct st ≤ 8) (k : qW R m Q (pc + 3) l (.int (if b < a then b else a) :: st) M) : qW R m Q pc l (.int b :: .int a :: st) M := by
  obtain ⟨g, v, M', g1, g2⟩ := k
  exact q_of hd ⟨g, v, M', ⟨rfl, 11, y, hc, Or.inr (Or.inr (Or.inr ⟨rfl, a, b, st, rfl, h8, g1⟩))⟩, g2⟩
theorem q_iret {x : Int32} (hd : decode (zB m) pc = .ok (.ireturn, 1)) (hk : zRk m = 1) (h : Q (some (.int x)) M) : qW R m Q pc l [.int x] M := q_of hd ⟨0, _, M, ⟨rfl, x, rfl, Or.inl hk, rfl, rfl⟩, h⟩
theorem q_zret {x : Int32} (hd : decode (zB m) pc = .ok (.ireturn, 1)) (hk : zRk m = 2) (hx : x = 0 ∨ x = 1) (h : Q (some (.int x)) M) : qW R m Q pc l [.int x] M := q_of hd ⟨0, _, M, ⟨rfl, x, rfl, Or.inr ⟨hk, hx⟩, rfl, rfl⟩, h⟩
theorem q_lret {x : Int64} (hd : decode (zB m) pc = .ok (.lreturn, 1)) (hk : zRk m = 3) (h : Q (some (.long x)) M) : qW R m Q pc l [.long x] M := q_of hd ⟨0, _, M, ⟨rfl, x, rfl, hk, rfl, rfl⟩, h⟩
theorem q_aret {r : Option Nat} (hd : decode (zB m) pc = .ok (.areturn, 1)) (hk : zRk m = 4) (h : Q (some (va_rf r)) M) : qW R m Q pc l [va_rf r] M := q_of hd ⟨0, _, M, ⟨rfl, r, rfl, hk, rfl, rfl⟩, h⟩
theorem q_ret (hd : decode (zB m) pc = .ok (.return_, 1)) (hk : zRk m = 0) (h : Q none M) : qW R m Q pc l [] M := q_of hd ⟨0, _, M, ⟨rfl, rfl, hk, rfl, rfl⟩, h⟩
end QR
/-- a method's run out of the walk of its body -/
theorem qC_of {d y : Nat} {as : List Value} {M : zM} {Q : Option Value → zM → Prop} (hy : y < 216) (hc : zct as ≤ zML y) (h : qW (zEv d) y Q 0 (lv_args 0 as) [] M) : qC (d + 1) y as M Q := by
  obtain ⟨f, v, M', h1, h2⟩ := h
  exact ⟨v, M', Or.inr (Or.inr ⟨hy, hc, f, h1⟩), h2⟩
/-- deeper is no harm -/
theorem zLoop_up {R R' : zRT} (hR : ∀ y as M v M', R y as M v M' → R' y as M v M') {m : Nat} {v : Option Value} {M' : zM} : ∀ (f pc : Nat) (l : List (Nat × Value)) (st : List Value) (M : zM), zLoop R m v M' f pc l st M → zLoop R' m v M' f pc l st M := by
  intro f
  induction f with
  | zero => intro _ _ _ _ h; exact h.elim
  | succ f ih =>
    intro pc l st M h
    obtain ⟨i, n, hd, h⟩ := h
    refine ⟨i, n, hd, ?_⟩
    have hcs : ∀ y as rest pc l, zCallS R (zLoop R m v M' f) pc l M y as rest → zCallS R' (zLoop R' m v M' f) pc l M y as rest := by
      intro y as rest pc l ⟨h8, w, M1, h1, h2⟩
      exact ⟨h8, w, M1, hR _ _ _ _ _ h1, ih _ _ _ _ h2⟩
    have hbr : ∀ (p A B A' B' : Prop), (A → A') → (B → B') → zbr p A B → zbr p A' B' := fun p A B A' B' hA hB h => ⟨fun q => hA (h.1 q), fun q => hB (h.2 q)⟩
    cases i with
    | ldc ix =>
      obtain ⟨e, h⟩ := h
      rcases h with ⟨x, h1, h⟩ | ⟨x, h1, h⟩
      · exact ⟨e, Or.inl ⟨x, h1, ih _ _ _ _ h⟩⟩
      · exact ⟨e, Or.inr ⟨x, h1, ih _ _ _ _ h⟩⟩
    | ifCond c off => obtain ⟨e, x, st', tgt, e1, e2, h⟩ := h; exact ⟨e, x, st', tgt, e1, e2, hbr _ _ _ _ _ (ih _ _ _ _) (ih _ _ _ _) h⟩
    | if_icmp c off => obtain ⟨e, x, y, st', tgt, e1, e2, h⟩ := h; exact ⟨e, x, y, st', tgt, e1, e2, hbr _ _ _ _ _ (ih _ _ _ _) (ih _ _ _ _) h⟩
    | ifnull off => obtain ⟨e, r, st', tgt, e1, e2, h⟩ := h; exact ⟨e, r, st', tgt, e1, e2, hbr _ _ _ _ _ (ih _ _ _ _) (ih _ _ _ _) h⟩
    | ifnonnull off => obtain ⟨e, r, st', tgt, e1, e2, h⟩ := h; exact ⟨e, r, st', tgt, e1, e2, hbr _ _ _ _ _ (ih _ _ _ _) (ih _ _ _ _) h⟩
    | tableswitch d lo hi offs =>
      obtain ⟨x, st', e, h⟩ := h
      exact ⟨x, st', e, hbr _ _ _ _ _ (fun ⟨t, e, h⟩ => ⟨t, e, ih _ _ _ _ h⟩) (fun ⟨o, t, e1, e2, h⟩ => ⟨o, t, e1, e2, ih _ _ _ _ h⟩) h⟩
    | putfield ix =>
      obtain ⟨e, w, a, st', c, f', e1, e2, e3, e4, h⟩ := h
      refine ⟨e, w, a, st', c, f', e1, e2, e3, e4, ?_⟩
      rcases h with ⟨e5, x, e6, h⟩ | ⟨e5, x, e6, e7, h⟩ | ⟨e5, x, e6, h⟩
      · exact Or.inl ⟨e5, x, e6, ih _ _ _ _ h⟩
      · exact Or.inr (Or.inl ⟨e5, x, e6, e7, ih _ _ _ _ h⟩)
      · exact Or.inr (Or.inr ⟨e5, x, e6, ih _ _ _ _ h⟩)
    | newarray t =>
      obtain ⟨e, z, st', N, e1, e2, e3, e4, h⟩ := h
      refine ⟨e, z, st', N, e1, e2, e3, e4, ?_⟩
      rcases h with ⟨e5, h⟩ | ⟨e5, h⟩
      · exact Or.inl ⟨e5, ih _ _ _ _ h⟩
      · exact Or.inr ⟨e5, ih _ _ _ _ h⟩
    | multianewarray ix d =>
      obtain ⟨e, z, j, st', N, J, e1, e2, e3, e4, e5, e6, h⟩ := h
      refine ⟨e, z, j, st', N, J, e1, e2, e3, e4, e5, e6, ?_⟩
      rcases h with ⟨g1, g2, g3, h⟩ | ⟨g1, g2, y, K, g3, g4, g5, g6, h⟩
      · exact Or.inl ⟨g1, g2, g3, ih _ _ _ _ h⟩
      · exact Or.inr ⟨g1, g2, y, K, g3, g4, g5, g6, ih _ _ _ _ h⟩
    | invokevirtual ix =>
      obtain ⟨e, kd, y, b, as, rest, e1, e2, h⟩ := h
      refine ⟨e, kd, y, b, as, rest, e1, e2, ?_⟩
      rcases h with ⟨g1, g2, g3, h⟩ | ⟨g1, h⟩
      · exact Or.inl ⟨g1, g2, g3, hcs _ _ _ _ _ h⟩
      · exact Or.inr ⟨g1, hcs _ _ _ _ _ h⟩
    | invokestatic ix =>
      obtain ⟨e, kd, y, e1, h⟩ := h
      refine ⟨e, kd, y, e1, ?_⟩
      rcases h with ⟨g1, as, rest, g2, g3, h⟩ | ⟨g1, N, dp, sp, a, a0, rest, n0, n1, g2, g3, g4, g5, g6, g7, g8, g9, ga, h⟩ | ⟨g1, a, b, rest, g2, g3, h⟩ | ⟨g1, a, b, rest, g2, g3, h⟩
      · exact Or.inl ⟨g1, as, rest, g2, g3, hcs _ _ _ _ _ h⟩
      · exact Or.inr (Or.inl ⟨g1, N, dp, sp, a, a0, rest, n0, n1, g2, g3, g4, g5, g6, g7, g8, g9, ga, ih _ _ _ _ h⟩)
      · exact Or.inr (Or.inr (Or.inl ⟨g1, a, b, rest, g2, g3, ih _ _ _ _ h⟩))
      · exact Or.inr (Or.inr (Or.inr ⟨g1, a, b, rest, g2, g3, ih _ _ _ _ h⟩))
    | invokespecial ix =>
      obtain ⟨e, kd, y, b, as, rest, e1, e2, h⟩ := h
      refine ⟨e, kd, y, b, as, rest, e1, e2, ?_⟩
      rcases h with ⟨g1, g2, g3, h⟩ | ⟨g1, g2, g3, h⟩
      · exact Or.inl ⟨g1, g2, g3, ih _ _ _ _ h⟩
      · exact Or.inr ⟨g1, g2, g3, hcs _ _ _ _ _ h⟩
    | ireturn => exact h
    | lreturn => exact h
    | areturn => exact h
    | return_ => exact h
    | _ => first
      | exact h.elim
      | (obtain ⟨e1, h⟩ := h; exact ⟨e1, ih _ _ _ _ h⟩)
      | (obtain ⟨e1, e2, h⟩ := h; exact ⟨e1, e2, ih _ _ _ _ h⟩)
      | (obtain ⟨e1, e2, e3, h⟩ := h; exact ⟨e1, e2, e3, ih _ _ _ _ h⟩)
      | (obtain ⟨e1, e2, e3, e4, h⟩ := h; exact ⟨e1, e2, e3, e4, ih _ _ _ _ h⟩)
      | (obtain ⟨e1, e2, e3, e4, e5, h⟩ := h; exact ⟨e1, e2, e3, e4, e5, ih _ _ _ _ h⟩)
      | (obtain ⟨e1, e2, e3, e4, e5, e6, h⟩ := h; exact ⟨e1, e2, e3, e4, e5, e6, ih _ _ _ _ h⟩)
      | (obtain ⟨e1, e2, e3, e4, e5, e6, e7, h⟩ := h; exact ⟨e1, e2, e3, e4, e5, e6, e7, ih _ _ _ _ h⟩)
      | (obtain ⟨e1, e2, e3, e4, e5, e6, e7, e8, h⟩ := h; exact ⟨e1, e2, e3, e4, e5, e6, e7, e8, ih _ _ _ _ h⟩)
      | (obtain ⟨e1, e2, e3, e4, e5, e6, e7, e8, e9, h⟩ := h; exact ⟨e1, e2, e3, e4, e5, e6, e7, e8, e9, ih _ _ _ _ h⟩)
      | (obtain ⟨e1, e2, e3, e4, e5, e6, e7, e8, e9, ea, h⟩ := h; exact ⟨e1, e2, e3, e4, e5, e6, e7, e8, e9, ea, ih _ _ _ _ h⟩)
      | (obtain ⟨e1, e2, e3, e4, e5, e6, e7, e8, e9, ea, eb, h⟩ := h; exact ⟨e1, e2, e3, e4, e5, e6, e7, e8, e9, ea, eb, ih _ _ _ _ h⟩)
      | (obtain ⟨e1, e2, e3, e4, e5, e6, e7, e8, e9, ea, eb, ec, h⟩ := h; exact ⟨e1, e2, e3, e4, e5, e6, e7, e8, e9, ea, eb, ec, ih _ _ _ _ h⟩)
theorem zEv_S : ∀ (d y : Nat) (as : List Value) (M : zM) (v : Option Value) (M' : zM), zEv d y as M v M' → zEv (d + 1) y as M v M' := by
  intro d
  induction d with
  | zero => intro _ _ _ _ _ h; exact h.elim
  | succ d ih =>
    intro y as M v M' h
    rcases h with ⟨e1, e2, h⟩ | ⟨e1, e2, h⟩ | ⟨e1, e2, f, h⟩
    · exact Or.inl ⟨e1, by omega, h⟩
    · exact Or.inr (Or.inl ⟨e1, by omega, h⟩)
    · exact Or.inr (Or.inr ⟨e1, e2, f, zLoop_up ih _ _ _ _ _ h⟩)
theorem zEv_up {d d' y : Nat} {as : List Value} {M : zM} {v : Option Value} {M' : zM} (h : zEv d y as M v M') (hd : d ≤ d') : zEv d' y as M v M' := by
  obtain ⟨k, rfl⟩ := Nat.exists_eq_add_of_le hd
  induction k with
  | zero => exact h
  | succ k ih => exact zEv_S _ _ _ _ _ _ (ih (by omega))
end
section
/-! ===== rows for numbers (nI), truths and the cells ===== -/
def bI (p : Bool) : Int32 := if p then 1 else 0
theorem bI_or (p : Bool) : bI p = 0 ∨ bI p = 1 := by cases p <;> simp [bI]
theorem bI_t {p : Bool} (h : p = true) : bI p = 1 := by subst h; rfl
theorem bI_f {p : Bool} (h : p = false) : bI p = 0 := by subst h; rfl
theorem wi_eq (M : zM) (a k : Nat) (v : Int32) (b j : Nat) : zi (zwi M a k v) b j = if b = a ∧ j = k then v else zi M b j := rfl
theorem wi_s (M : zM) (a k : Nat) (v : Int32) : zi (zwi M a k v) a k = v := by rw [wi_eq, if_pos ⟨rfl, rfl⟩]
theorem wi_n {M : zM} {a k b j : Nat} {v : Int32} (h : b ≠ a ∨ j ≠ k) : zi (zwi M a k v) b j = zi M b j := by rw [wi_eq, if_neg (by omega)]
theorem wr_eq (M : zM) (a k : Nat) (v : Option Nat) (b j : Nat) : zr (zwr M a k v) b j = if b = a ∧ j = k then v else zr M b j := rfl
theorem cp_eq (M : zM) (a0 s a d n b j : Nat) : zi (zcp M a0 s a d n) b j = if b = a ∧ d ≤ j ∧ j < d + n then zi M a0 (s + (j - d)) else zi M b j := rfl
theorem wl_eq (M : zM) (a k : Nat) (v : Int64) (b j : Nat) : zl (zwl M a k v) b j = if b = a ∧ j = k then v else zl M b j := rfl
theorem nI_inj {a b : Nat} (ha : a < 2147483648) (hb : b < 2147483648) (h : nI a = nI b) : a = b := (nI_eq ha hb).mp h
/-- a number that is a place of a row of n -/
def zix (x : Int32) (n : Nat) : Option Nat := if 0 ≤ x.toInt ∧ x.toInt < n then some x.toNatClampNeg else none
theorem zix_in {k n : Nat} (h : k < n) (hn : n ≤ 2147483648) : zix (nI k) n = some k := by
  have h1 : (nI k).toInt = k := nI_toInt (by omega)
  unfold zix; rw [if_pos (by omega), nI_clamp (by omega)]
theorem zix_c (x : Int32) {n : Nat} (hn : n ≤ 2147483648) : (∃ k, k < n ∧ x = nI k ∧ zix x n = some k) ∨ (zix x n = none ∧ ¬ (0 ≤ x.toInt ∧ x.toInt < n)) := by
  by_cases h : 0 ≤ x.toInt ∧ x.toInt < n
  · obtain ⟨k, h2, h3⟩ := nI_of (x := x) (by rw [Int32.lt_iff_toInt_lt]; have : (0 : Int32).toInt = 0 := rfl; omega)
    subst h3
    have h1 : (nI k).toInt = k := nI_toInt h2
    exact Or.inl ⟨k, by omega, rfl, zix_in (by omega) hn⟩
  · exact Or.inr ⟨if_neg h, h⟩
theorem zix_none {x : Int32} {n : Nat} (h : zix x n = none) : ¬ (0 ≤ x.toInt ∧ x.toInt < n) := by
  intro h2; unfold zix at h; rw [if_pos h2] at h; cases h
theorem zix_some {x : Int32} {n k : Nat} (h : zix x n = some k) : k < n ∧ x = nI k := by
  unfold zix at h
  split at h
  · rename_i h2
    obtain ⟨j, h3, h4⟩ := nI_of (x := x) (by rw [Int32.lt_iff_toInt_lt]; have : (0 : Int32).toInt = 0 := rfl; omega)
    subst h4
    have h1 : (nI j).toInt = j := nI_toInt h3
    rw [nI_clamp h3] at h
    cases h
    exact ⟨by omega, rfl⟩
  · cases h
/-- bits -/
theorem s_l : ∀ n, n < 32 → ((nI n &&& 31).toBitVec.smod 32).toNat = n := by decide +kernel
theorem n_or (a b : Nat) : nI a ||| nI b = nI (a ||| b) := by
  apply Int32.toBitVec_inj.1
  show BitVec.ofNat 32 a ||| BitVec.ofNat 32 b = BitVec.ofNat 32 (a ||| b)
  apply BitVec.eq_of_getLsbD_eq
  intro i hi
  simp [hi]
theorem n_and (a b : Nat) : nI a &&& nI b = nI (a &&& b) := by
  apply Int32.toBitVec_inj.1
  show BitVec.ofNat 32 a &&& BitVec.ofNat 32 b = BitVec.ofNat 32 (a &&& b)
  apply BitVec.eq_of_getLsbD_eq
  intro i hi
  simp [hi]
/-- a without b -/
def zdf (a b : Nat) : Nat := a ^^^ (a &&& b)
theorem zdf_bit (a b i : Nat) : (zdf a b).testBit i = (a.testBit i && !b.testBit i) := by
  unfold zdf; rw [Nat.testBit_xor, Nat.testBit_and]; cases a.testBit i <;> cases b.testBit i <;> rfl
theorem n_andn (a b : Nat) : nI a &&& (nI b ^^^ (-1)) = nI (zdf a b) := by
  apply Int32.toBitVec_inj.1
  show BitVec.ofNat 32 a &&& (BitVec.ofNat 32 b ^^^ (-1 : Int32).toBitVec) = BitVec.ofNat 32 (zdf a b)
  have h : (-1 : Int32).toBitVec = BitVec.allOnes 32 := by decide
  rw [h]
  apply BitVec.eq_of_getLsbD_eq
  intro i hi
  rw [BitVec.getLsbD_and, BitVec.getLsbD_xor, BitVec.getLsbD_allOnes, BitVec.getLsbD_ofNat, BitVec.getLsbD_ofNat, BitVec.getLsbD_ofNat, zdf_bit, decide_eq_true hi]
  cases a.testBit i <;> cases b.testBit i <;> rfl
theorem n_shl (a k : Nat) (hk : k < 32) : nI a <<< (nI k &&& 31) = nI (a <<< k) := by
  apply Int32.toBitVec_inj.1
  rw [Int32.toBitVec_shiftLeft]
  show (BitVec.ofNat 32 a <<< ((nI k &&& 31).toBitVec.smod 32).toNat) = BitVec.ofNat 32 (a <<< k)
  rw [s_l k hk]
  apply BitVec.eq_of_getLsbD_eq
  intro i hi
  rw [BitVec.getLsbD_shiftLeft, BitVec.getLsbD_ofNat, BitVec.getLsbD_ofNat, Nat.testBit_shiftLeft, decide_eq_true hi]
  by_cases h : i < k
  · have h2 : ¬ i ≥ k := by omega
    simp [h, h2]
  · have h2 : i ≥ k := by omega
    have h3 : i - k < 32 := by omega
    simp [h, h2, h3]
theorem n_shr {a k : Nat} (ha : a < 2147483648) (hk : k < 32) : nI a >>> (nI k &&& 31) = nI (a >>> k) := by
  rw [pk_shrN ha _ k (s_l k hk), Nat.shiftRight_eq_div_pow]
theorem n_bit {a k : Nat} (ha : a < 2147483648) (hk : k < 32) : nI a >>> (nI k &&& 31) &&& nI 1 = bI (a.testBit k) := by
  rw [n_shr ha hk, n_and]
  have h : a >>> k &&& 1 = if a.testBit k then 1 else 0 := by
    rw [Nat.and_one_is_mod, Nat.testBit_eq_decide_div_mod_eq, Nat.shiftRight_eq_div_pow]
    have := Nat.mod_two_eq_zero_or_one (a / 2 ^ k)
    rcases this with h | h <;> simp [h]
  rw [h]
  cases a.testBit k <;> rfl
theorem pow_lt {k n : Nat} (h : k < n) : 2 ^ k < 2 ^ n := Nat.pow_lt_pow_right (by omega) h
theorem one_shl (k : Nat) : 1 <<< k = 2 ^ k := by rw [Nat.shiftLeft_eq, Nat.one_mul]
section QN
variable {R : zRT} {m : Nat} {Q : Option Value → zM → Prop} {pc n : Nat} {l l' : List (Nat × Value)} {st : List Value} {M : zM}
theorem nc_lt {off : Int} {x y : Nat} (tgt : Nat) (hd : decode (zB m) pc = .ok (.if_icmp .lt off, 3)) (ht : (pc : Int) + off = tgt) (hx : x < 2147483648) (hy : y < 2147483648) (kt : x < y → qW R m Q tgt l st M) (kf : y ≤ x → qW R m Q (pc + 3) l st M) : qW R m Q pc l (.int (nI y) :: .int (nI x) :: st) M :=
  q_icmp tgt hd ht (fun h => kt ((nI_ltI hx hy).mp h)) (fun h => kf (by have h2 := (not_congr (nI_ltI hx hy)).mp h; omega))
theorem n0_lt {off : Int} {x : Nat} (tgt : Nat) (hd : decode (zB m) pc = .ok (.ifCond .lt off, 3)) (ht : (pc : Int) + off = tgt) (hx : x < 2147483648) (kt : x < 0 → qW R m Q tgt l st M) (kf : 0 ≤ x → qW R m Q (pc + 3) l st M) : qW R m Q pc l (.int (nI x) :: st) M :=
  q_if tgt hd ht (fun h => kt ((nI_ltI hx (Nat.le_of_ble_eq_true rfl : 0 < 2 ^ 31)).mp h)) (fun h => kf (by have h2 := (not_congr (nI_ltI hx (Nat.le_of_ble_eq_true rfl : 0 < 2 ^ 31))).mp h; omega))
theorem nc_ge {off : Int} {x y : Nat} (tgt : Nat) (hd : decode (zB m) pc = .ok (.if_icmp .ge off, 3)) (ht : (pc : Int) + off = tgt) (hx : x < 2147483648) (hy : y < 2147483648) (kt : y ≤ x → qW R m Q tgt l st M) (kf : x < y → qW R m Q (pc + 3) l st M) : qW R m Q pc l (.int (nI y) :: .int (nI x) :: st) M :=
  q_icmp tgt hd ht (fun h => kt ((nI_leI hy hx).mp h)) (fun h => kf (by have h2 := (not_congr (nI_leI hy hx)).mp h; omega))
theorem n0_ge {off : Int} {x : Nat} (tgt : Nat) (hd : decode (zB m) pc = .ok (.ifCond .ge off, 3)) (ht : (pc : Int) + off = tgt) (hx : x < 2147483648) (kt : 0 ≤ x → qW R m Q tgt l st M) (kf : x < 0 → qW R m Q (pc + 3) l st M) : qW R m Q pc l (.int (nI x) :: st) M :=
  q_if tgt hd ht (fun h => kt ((nI_leI (Nat.le_of_ble_eq_true rfl : 0 < 2 ^ 31) hx).mp h)) (fun h => kf (by have h2 := (not_congr (nI_leI (Nat.le_of_ble_eq_true rfl : 0 < 2 ^ 31) hx)).mp h; omega))
theorem nc_gt {off : Int} {x y : Nat} (tgt : Nat) (hd : decode (zB m) pc = .ok (.if_icmp .gt off, 3)) (ht : (pc : Int) + off = tgt) (hx : x < 2147483648) (hy : y < 2147483648) (kt : y < x → qW R m Q tgt l st M) (kf : x ≤ y → qW R m Q (pc + 3) l st M) : qW R m Q pc l (.int (nI y) :: .int (nI x) :: st) M :=
  q_icmp tgt hd ht (fun h => kt ((nI_ltI hy hx).mp h)) (fun h => kf (by have h2 := (not_congr (nI_ltI hy hx)).mp h; omega))
theorem n0_gt {off : Int} {x : Nat} (tgt : Nat) (hd : decode (zB m) pc = .ok (.ifCond .gt off, 3)) (ht : (pc : Int) + off = tgt) (hx : x < 2147483648) (kt : 0 < x → qW R m Q tgt l st M) (kf : x ≤ 0 → qW R m Q (pc + 3) l st M) : qW R m Q pc l (.int (nI x) :: st) M :=
  q_if tgt hd ht (fun h => kt ((nI_ltI (Nat.le_of_ble_eq_true rfl : 0 < 2 ^ 31) hx).mp h)) (fun h => kf (by have h2 := (not_congr (nI_ltI (Nat.le_of_ble_eq_true rfl : 0 < 2 ^ 31) hx)).mp h; omega))
theorem nc_le {off : Int} {x y : Nat} (tgt : Nat) (hd : decode (zB m) pc = .ok (.if_icmp .le off, 3)) (ht : (pc : Int) + off = tgt) (hx : x < 2147483648) (hy : y < 2147483648) (kt : x ≤ y → qW R m Q tgt l st M) (kf : y < x → qW R m Q (pc + 3) l st M) : qW R m Q pc l (.int (nI y) :: .int (nI x) :: st) M :=
  q_icmp tgt hd ht (fun h => kt ((nI_leI hx hy).mp h)) (fun h => kf (by have h2 := (not_congr (nI_leI hx hy)).mp h; omega))
theorem n0_le {off : Int} {x : Nat} (tgt : Nat) (hd : decode (zB m) pc = .ok (.ifCond .le off, 3)) (ht : (pc : Int) + off = tgt) (hx : x < 2147483648) (kt : x ≤ 0 → qW R m Q tgt l st M) (kf : 0 < x → qW R m Q (pc + 3) l st M) : qW R m Q pc l (.int (nI x) :: st) M :=
  q_if tgt hd ht (fun h => kt ((nI_leI hx (Nat.le_of_ble_eq_true rfl : 0 < 2 ^ 31)).mp h)) (fun h => kf (by have h2 := (not_congr (nI_leI hx (Nat.le_of_ble_eq_true rfl : 0 < 2 ^ 31))).mp h; omega))
theorem nc_eq {off : Int} {x y : Nat} (tgt : Nat) (hd : decode (zB m) pc = .ok (.if_icmp .eq off, 3)) (ht : (pc : Int) + off = tgt) (hx : x < 2147483648) (hy : y < 2147483648) (kt : x = y → qW R m Q tgt l st M) (kf : ¬ x = y → qW R m Q (pc + 3) l st M) : qW R m Q pc l (.int (nI y) :: .int (nI x) :: st) M :=
  q_icmp tgt hd ht (fun h => kt ((nI_eq hx hy).mp h)) (fun h => kf (by have h2 := (not_congr (nI_eq hx hy)).mp h; omega))
theorem n0_eq {off : Int} {x : Nat} (tgt : Nat) (hd : decode (zB m) pc = .ok (.ifCond .eq off, 3)) (ht : (pc : Int) + off = tgt) (hx : x < 2147483648) (kt : x = 0 → qW R m Q tgt l st M) (kf : ¬ x = 0 → qW R m Q (pc + 3) l st M) : qW R m Q pc l (.int (nI x) :: st) M :=
  q_if tgt hd ht (fun h => kt ((nI_eq hx (Nat.le_of_ble_eq_true rfl : 0 < 2 ^ 31)).mp h)) (fun h => kf (by have h2 := (not_congr (nI_eq hx (Nat.le_of_ble_eq_true rfl : 0 < 2 ^ 31))).mp h; omega))
theorem nc_ne {off : Int} {x y : Nat} (tgt : Nat) (hd : decode (zB m) pc = .ok (.if_icmp .ne off, 3)) (ht : (pc : Int) + off = tgt) (hx : x < 2147483648) (hy : y < 2147483648) (kt : ¬ x = y → qW R m Q tgt l st M) (kf : x = y → qW R m Q (pc + 3) l st M) : qW R m Q pc l (.int (nI y) :: .int (nI x) :: st) M :=
  q_icmp tgt hd ht (fun h => kt (fun e => h (congrArg nI e))) (fun h => kf ((nI_eq hx hy).mp (Classical.not_not.mp h)))
theorem n0_ne {off : Int} {x : Nat} (tgt : Nat) (hd : decode (zB m) pc = .ok (.ifCond .ne off, 3)) (ht : (pc : Int) + off = tgt) (hx : x < 2147483648) (kt : ¬ x = 0 → qW R m Q tgt l st M) (kf : x = 0 → qW R m Q (pc + 3) l st M) : qW R m Q pc l (.int (nI x) :: st) M :=
  q_if tgt hd ht (fun h => kt (fun e => h (congrArg nI e))) (fun h => kf ((nI_eq (b := 0) hx (by omega)).mp (Classical.not_not.mp h)))
theorem ic_lt {off : Int} {x y : Int32} (tgt : Nat) (hd : decode (zB m) pc = .ok (.if_icmp .lt off, 3)) (ht : (pc : Int) + off = tgt) (kt : x < y → qW R m Q tgt l st M) (kf : ¬ x < y → qW R m Q (pc + 3) l st M) : qW R m Q pc l (.int y :: .int x :: st) M := q_icmp tgt hd ht kt kf
theorem i0_lt {off : Int} {x : Int32} (tgt : Nat) (hd : decode (zB m) pc = .ok (.ifCond .lt off, 3)) (ht : (pc : Int) + off = tgt) (kt : x < 0 → qW R m Q tgt l st M) (kf : ¬ x < 0 → qW R m Q (pc + 3) l st M) : qW R m Q pc l (.int x :: st) M := q_if tgt hd ht kt kf
theorem ic_ge {off : Int} {x y : Int32} (tgt : Nat) (hd : decode (zB m) pc = .ok (.if_icmp .ge off, 3)) (ht : (pc : Int) + off = tgt) (kt : y ≤ x → qW R m Q tgt l st M) (kf : ¬ y ≤ x → qW R m Q (pc + 3) l st M) : qW R m Q pc l (.int y :: .int x :: st) M := q_icmp tgt hd ht kt kf
theorem i0_ge {off : Int} {x : Int32} (tgt : Nat) (hd : decode (zB m) pc = .ok (.ifCond .ge off, 3)) (ht : (pc : Int) + off = tgt) (kt : 0 ≤ x → qW R m Q tgt l st M) (kf : ¬ 0 ≤ x → qW R m Q (pc + 3) l st M) : qW R m Q pc l (.int x :: st) M := q_if tgt hd ht kt kf
theorem ic_gt {off : Int} {x y : Int32} (tgt : Nat) (hd : decode (zB m) pc = .ok (.if_icmp .gt off, 3)) (ht : (pc : Int) + off = tgt) (kt : y < x → qW R m Q tgt l st M) (kf : ¬ y < x → qW R m Q (pc + 3) l st M) : qW R m Q pc l (.int y :: .int x :: st) M := q_icmp tgt hd ht kt kf
theorem i0_gt {off : Int} {x : Int32} (tgt : Nat) (hd : decode (zB m) pc = .ok (.ifCond .gt off, 3)) (ht : (pc : Int) + off = tgt) (kt : 0 < x → qW R m Q tgt l st M) (kf : ¬ 0 < x → qW R m Q (pc + 3) l st M) : qW R m Q pc l (.int x :: st) M := q_if tgt hd ht kt kf
theorem ic_le {off : Int} {x y : Int32} (tgt : Nat) (hd : decode (zB m) pc = .ok (.if_icmp .le off, 3)) (ht : (pc : Int) + off = tgt) (kt : x ≤ y → qW R m Q tgt l st M) (kf : ¬ x ≤ y → qW R m Q (pc + 3) l st M) : qW R m Q pc l (.int y :: .int x :: st) M := q_icmp tgt hd ht kt kf
theorem i0_le {off : Int} {x : Int32} (tgt : Nat) (hd : decode (zB m) pc = .ok (.ifCond .le off, 3)) (ht : (pc : Int) + off = tgt) (kt : x ≤ 0 → qW R m Q tgt l st M) (kf : ¬ x ≤ 0 → qW R m Q (pc + 3) l st M) : qW R m Q pc l (.int x :: st) M := q_if tgt hd ht kt kf
theorem ic_eq {off : Int} {x y : Int32} (tgt : Nat) (hd : decode (zB m) pc = .ok (.if_icmp .eq off, 3)) (ht : (pc : Int) + off = tgt) (kt : x = y → qW R m Q tgt l st M) (kf : ¬ x = y → qW R m Q (pc + 3) l st M) : qW R m Q pc l (.int y :: .int x :: st) M := q_icmp tgt hd ht kt kf
theorem i0_eq {off : Int} {x : Int32} (tgt : Nat) (hd : decode (zB m) pc = .ok (.ifCond .eq off, 3)) (ht : (pc : Int) + off = tgt) (kt : x = 0 → qW R m Q tgt l st M) (kf : ¬ x = 0 → qW R m Q (pc + 3) l st M) : qW R m Q pc l (.int x :: st) M := q_if tgt hd ht kt kf
theorem ic_ne {off : Int} {x y : Int32} (tgt : Nat) (hd : decode (zB m) pc = .ok (.if_icmp .ne off, 3)) (ht : (pc : Int) + off = tgt) (kt : ¬ x = y → qW R m Q tgt l st M) (kf : x = y → qW R m Q (pc + 3) l st M) : qW R m Q pc l (.int y :: .int x :: st) M := q_icmp tgt hd ht kt (fun h => kf (Classical.not_not.mp h))
theorem i0_ne {off : Int} {x : Int32} (tgt : Nat) (hd : decode (zB m) pc = .ok (.ifCond .ne off, 3)) (ht : (pc : Int) + off = tgt) (kt : ¬ x = 0 → qW R m Q tgt l st M) (kf : x = 0 → qW R m Q (pc + 3) l st M) : qW R m Q pc l (.int x :: st) M := q_if tgt hd ht kt (fun h => kf (Classical.not_not.mp h))
theorem b0_eq {off : Int} {p : Bool} (tgt : Nat) (hd : decode (zB m) pc = .ok (.ifCond .eq off, 3)) (ht : (pc : Int) + off = tgt) (kt : p = false → qW R m Q tgt l st M) (kf : p = true → qW R m Q (pc + 3) l st M) : qW R m Q pc l (.int (bI p) :: st) M := by
  cases p
  · exact q_if tgt hd ht (fun _ => kt rfl) (fun h => absurd rfl h)
  · exact q_if tgt hd ht (fun h => absurd h (show ¬ (1 : Int32) = 0 by decide)) (fun _ => kf rfl)
theorem b0_ne {off : Int} {p : Bool} (tgt : Nat) (hd : decode (zB m) pc = .ok (.ifCond .ne off, 3)) (ht : (pc : Int) + off = tgt) (kt : p = true → qW R m Q tgt l st M) (kf : p = false → qW R m Q (pc + 3) l st M) : qW R m Q pc l (.int (bI p) :: st) M := by
  cases p
  · exact q_if tgt hd ht (fun h => absurd rfl h) (fun _ => kf rfl)
  · exact q_if tgt hd ht (fun _ => kt rfl) (fun h => absurd (by decide : ¬ (1 : Int32) = 0) h)
theorem q_iconstN {z : Nat} (hd : decode (zB m) pc = .ok (.iconst (z : Int), 1)) (k : qW R m Q (pc + 1) l (.int (nI z) :: st) M) : qW R m Q pc l st M :=
  q_iconst hd Int32.ofInt_eq_ofNat k
theorem n_iinc {j x : Nat} (z : Nat) (hd : decode (zB m) pc = .ok (.iinc j (z : Int), 3)) (hj : j < zML m) (hx : zld l j = some (.int (nI x))) (hl : zst l j (.int (nI (x + z))) = l') (k : qW R m Q (pc + 3) l' st M) : qW R m Q pc l st M :=
  q_iinc hd hj hx (by rw [Int32.ofInt_eq_ofNat]; exact nI_add x z) hl k
theorem n_iadd {x y : Nat} (hd : decode (zB m) pc = .ok (.iadd, 1)) (k : qW R m Q (pc + 1) l (.int (nI (x + y)) :: st) M) : qW R m Q pc l (.int (nI y) :: .int (nI x) :: st) M :=
  q_iadd hd (by rw [nI_add]; exact k)
theorem n_isub {x y : Nat} (hd : decode (zB m) pc = .ok (.isub, 1)) (h : y ≤ x) (k : qW R m Q (pc + 1) l (.int (nI (x - y)) :: st) M) : qW R m Q pc l (.int (nI y) :: .int (nI x) :: st) M :=
  q_isub hd (by rw [pk_sub h]; exact k)
theorem n_imul {x y : Nat} (hd : decode (zB m) pc = .ok (.imul, 1)) (k : qW R m Q (pc + 1) l (.int (nI (x * y)) :: st) M) : qW R m Q pc l (.int (nI y) :: .int (nI x) :: st) M :=
  q_imul hd (by rw [pk_mul]; exact k)
theorem n_idiv {x y : Nat} (hd : decode (zB m) pc = .ok (.idiv, 1)) (hx : x < 2147483648) (h0 : 0 < y) (hy : y < 2147483648) (k : qW R m Q (pc + 1) l (.int (nI (x / y)) :: st) M) : qW R m Q pc l (.int (nI y) :: .int (nI x) :: st) M :=
  q_idiv hd (nI_ne0 h0 hy) (by rw [pk_div hx h0 hy]; exact k)
theorem n_irem {x y : Nat} (hd : decode (zB m) pc = .ok (.irem, 1)) (hx : x < 2147483648) (h0 : 0 < y) (hy : y < 2147483648) (k : qW R m Q (pc + 1) l (.int (nI (x % y)) :: st) M) : qW R m Q pc l (.int (nI y) :: .int (nI x) :: st) M :=
  q_irem hd (nI_ne0 h0 hy) (by rw [pk_rem hx h0 hy]; exact k)
theorem n_iand {x y : Nat} (hd : decode (zB m) pc = .ok (.iand, 1)) (k : qW R m Q (pc + 1) l (.int (nI (x &&& y)) :: st) M) : qW R m Q pc l (.int (nI y) :: .int (nI x) :: st) M :=
  q_iand hd (by rw [n_and]; exact k)
theorem n_ior {x y : Nat} (hd : decode (zB m) pc = .ok (.ior, 1)) (k : qW R m Q (pc + 1) l (.int (nI (x ||| y)) :: st) M) : qW R m Q pc l (.int (nI y) :: .int (nI x) :: st) M :=
  q_ior hd (by rw [n_or]; exact k)
theorem n_iandn {x y : Nat} (hd : decode (zB m) pc = .ok (.iand, 1)) (k : qW R m Q (pc + 1) l (.int (nI (zdf x y)) :: st) M) : qW R m Q pc l (.int (nI y ^^^ (-1)) :: .int (nI x) :: st) M :=
  q_iand hd (by rw [n_andn]; exact k)
theorem n_ishl1 {y : Nat} (hd : decode (zB m) pc = .ok (.ishl, 1)) (hy : y < 32) (k : qW R m Q (pc + 1) l (.int (nI (2 ^ y)) :: st) M) : qW R m Q pc l (.int (nI y) :: .int (nI 1) :: st) M :=
  q_ishl hd (by rw [n_shl 1 y hy, one_shl]; exact k)
theorem n_iald {a N j : Nat} {x : Int32} (hd : decode (zB m) pc = .ok (.iaload, 1)) (hk : zk M a = (20, N)) (hj : j < N) (hN : N < 2147483648) (hx : zi M a j = x) (k : qW R m Q (pc + 1) l (.int x :: st) M) : qW R m Q pc l (.int (nI j) :: .ref a :: st) M :=
  q_iald hd (Or.inl hk) (vp_in_nI hj hN) (by rw [nI_clamp (Nat.lt_trans hj hN)]; exact hx) k
theorem n_ialds {a N j : Nat} {x : Int32} (hd : decode (zB m) pc = .ok (.iaload, 1)) (hk : a < 3 ∧ zk M a = (30, N)) (hj : j < N) (hN : N < 2147483648) (hx : zi M a j = x) (k : qW R m Q (pc + 1) l (.int x :: st) M) : qW R m Q pc l (.int (nI j) :: .ref a :: st) M :=
  q_iald hd (Or.inr hk) (vp_in_nI hj hN) (by rw [nI_clamp (Nat.lt_trans hj hN)]; exact hx) k
theorem n_lald {a N j : Nat} {x : Int64} (hd : decode (zB m) pc = .ok (.laload, 1)) (hk : zk M a = (21, N)) (hj : j < N) (hN : N < 2147483648) (hx : zl M a j = x) (k : qW R m Q (pc + 1) l (.long x :: st) M) : qW R m Q pc l (.int (nI j) :: .ref a :: st) M :=
  q_lald hd hk (vp_in_nI hj hN) (by rw [nI_clamp (Nat.lt_trans hj hN)]; exact hx) k
theorem n_aald {a t N j : Nat} {r : Option Nat} (hd : decode (zB m) pc = .ok (.aaload, 1)) (hk : zk M a = (t, N)) (ht : 22 ≤ t ∧ t < 27) (hj : j < N) (hN : N < 2147483648) (hr : zr M a j = r) (k : qW R m Q (pc + 1) l (va_rf r :: st) M) : qW R m Q pc l (.int (nI j) :: .ref a :: st) M :=
  q_aald hd hk ht (vp_in_nI hj hN) (by rw [nI_clamp (Nat.lt_trans hj hN)]; exact hr) k
theorem n_iast {a N j : Nat} {x : Int32} (hd : decode (zB m) pc = .ok (.iastore, 1)) (hk : zk M a = (20, N)) (hj : j < N) (hN : N < 2147483648) (k : qW R m Q (pc + 1) l st (zwi M a j x)) : qW R m Q pc l (.int x :: .int (nI j) :: .ref a :: st) M :=
  q_iast hd hk (vp_in_nI hj hN) (by rw [nI_clamp (Nat.lt_trans hj hN)]; exact k)
theorem n_last {a N j : Nat} {x : Int64} (hd : decode (zB m) pc = .ok (.lastore, 1)) (hk : zk M a = (21, N)) (hj : j < N) (hN : N < 2147483648) (k : qW R m Q (pc + 1) l st (zwl M a j x)) : qW R m Q pc l (.long x :: .int (nI j) :: .ref a :: st) M :=
  q_last hd hk (vp_in_nI hj hN) (by rw [nI_clamp (Nat.lt_trans hj hN)]; exact k)
theorem n_alen {a N : Nat} (hd : decode (zB m) pc = .ok (.arraylength, 1)) (hk : zk M a = (20, N) ∨ zk M a = (21, N)) (k : qW R m Q (pc + 1) l (.int (nI N) :: st) M) : qW R m Q pc l (.ref a :: st) M :=
  q_alen hd (by rcases hk with h | h; exact Or.inl h; exact Or.inr (Or.inl h)) k
theorem n_copy {ix y a a0 n0 n1 N dp sp : Nat} (hd : decode (zB m) pc = .ok (.invokestatic ix, 3)) (hc : zCall (zO m) ix = some (7, y)) (h0 : zk M a0 = (20, n0)) (h1 : zk M a = (20, n1)) (b0 : n0 < 2147483648) (b1 : n1 < 2147483648) (e0 : sp + N ≤ n0) (e1 : dp + N ≤ n1) (h8 : zct st ≤ 8)
    (k : qW R m Q (pc + 3) l st (zcp M a0 sp a dp N)) : qW R m Q pc l (.int (nI N) :: .int (nI dp) :: .ref a :: .int (nI sp) :: .ref a0 :: st) M :=
  q_copy hd hc h0 h1 (nI_pos (by omega)) (nI_pos (by omega)) (nI_pos (by omega)) (by rw [nI_clamp (by omega), nI_clamp (by omega)]; exact e0) (by rw [nI_clamp (by omega), nI_clamp (by omega)]; exact e1) h8 (by rw [nI_clamp (by omega), nI_clamp (by omega), nI_clamp (by omega)]; exact k)
theorem q_getv {ix a c f : Nat} {x : Int32} (hd : decode (zB m) pc = .ok (.getfield ix, 3)) (hf : zFld (zO m) ix = some (c, f) ∧ zF c f ≠ 1) (hk : zk M a = (c, 0)) (hx : zi M a f = x) (k : qW R m Q (pc + 3) l (.int x :: st) M) : qW R m Q pc l (.ref a :: st) M := by
  subst hx; exact q_geti hd hf hk k
theorem n_ret {x : Nat} (hd : decode (zB m) pc = .ok (.ireturn, 1)) (hk : zRk m = 1) (h : Q (some (.int (nI x))) M) : qW R m Q pc l [.int (nI x)] M := q_iret hd hk h
theorem b_ret {p : Bool} (hd : decode (zB m) pc = .ok (.ireturn, 1)) (hk : zRk m = 2) (h : Q (some (.int (bI p))) M) : qW R m Q pc l [.int (bI p)] M := q_zret hd hk (bI_or p) h
theorem n_tsI {d lo hi : Int} {offs : Array Int} {x : Nat} (off : Int) (tgt : Nat) (hd : decode (zB m) pc = .ok (.tableswitch d lo hi offs, n)) (hx : x < 2147483648) (h : lo ≤ x ∧ (x : Int) ≤ hi) (ho : offs[((x : Int) - lo).toNat]? = some off) (ht : (pc : Int) + off = tgt) (k : qW R m Q tgt l st M) : qW R m Q pc l (.int (nI x) :: st) M :=
  q_tsI off tgt hd (by rw [nI_toInt hx]; omega) (by rw [nI_toInt hx]; exact ho) ht k
theorem n_tsO {d lo hi : Int} {offs : Array Int} {x : Nat} (tgt : Nat) (hd : decode (zB m) pc = .ok (.tableswitch d lo hi offs, n)) (hx : x < 2147483648) (h : (x : Int) < lo ∨ hi < x) (ht : (pc : Int) + d = tgt) (k : qW R m Q tgt l st M) : qW R m Q pc l (.int (nI x) :: st) M :=
  q_tsO tgt hd (by rw [nI_toInt hx]; omega) ht k
end QN
/-- cells that a run leaves as they are: all but those of S -/
def Fr (S : Nat → Nat → Prop) (M M' : zM) : Prop := (∀ a k, ¬ S a k → zi M' a k = zi M a k ∧ zr M' a k = zr M a k) ∧ zl M' = zl M ∧ zk M' = zk M ∧ zn M' = zn M ∧ zs M' = zs M
theorem Fr.refl (S : Nat → Nat → Prop) (M : zM) : Fr S M M := ⟨fun _ _ _ => ⟨rfl, rfl⟩, rfl, rfl, rfl, rfl⟩
theorem Fr.mono {S S' : Nat → Nat → Prop} {M M' : zM} (h : Fr S M M') (hs : ∀ a k, S a k → S' a k) : Fr S' M M' := ⟨fun a k q => h.1 a k (fun p => q (hs a k p)), h.2⟩
theorem Fr.trans {S : Nat → Nat → Prop} {M M' M'' : zM} (h : Fr S M M') (g : Fr S M' M'') : Fr S M M'' :=
  ⟨fun a k q => ⟨((g.1 a k q).1).trans (h.1 a k q).1, ((g.1 a k q).2).trans (h.1 a k q).2⟩, g.2.1.trans h.2.1, g.2.2.1.trans h.2.2.1, g.2.2.2.1.trans h.2.2.2.1, g.2.2.2.2.trans h.2.2.2.2⟩
theorem Fr.wi {S : Nat → Nat → Prop} {M M' : zM} {a k : Nat} {v : Int32} (h : Fr S M M') (hs : S a k) : Fr S M (zwi M' a k v) :=
  ⟨fun b j q => ⟨by rw [wi_n]; exact (h.1 b j q).1; by_cases e : b = a; (subst e; by_cases e2 : j = k; (subst e2; exact absurd hs q); exact Or.inr e2); exact Or.inl e, (h.1 b j q).2⟩, h.2⟩
theorem Fr.wr {S : Nat → Nat → Prop} {M M' : zM} {a k : Nat} {v : Option Nat} (h : Fr S M M') (hs : S a k) : Fr S M (zwr M' a k v) :=
  ⟨fun b j q => ⟨(h.1 b j q).1, by rw [wr_eq, if_neg (by rintro ⟨rfl, rfl⟩; exact q hs)]; exact (h.1 b j q).2⟩, h.2⟩
theorem Fr.cp {S : Nat → Nat → Prop} {M M' : zM} {a0 s a d n : Nat} (h : Fr S M M') (hs : ∀ j, d ≤ j → j < d + n → S a j) : Fr S M (zcp M' a0 s a d n) :=
  ⟨fun b j q => ⟨by rw [cp_eq, if_neg (by rintro ⟨rfl, h1, h2⟩; exact q (hs j h1 h2))]; exact (h.1 b j q).1, (h.1 b j q).2⟩, h.2⟩
theorem Fr.i {S : Nat → Nat → Prop} {M M' : zM} (h : Fr S M M') {a k : Nat} (hs : ¬ S a k) : zi M' a k = zi M a k := (h.1 a k hs).1
theorem Fr.r {S : Nat → Nat → Prop} {M M' : zM} (h : Fr S M M') {a k : Nat} (hs : ¬ S a k) : zr M' a k = zr M a k := (h.1 a k hs).2
theorem Fr.k {S : Nat → Nat → Prop} {M M' : zM} (h : Fr S M M') (a : Nat) : zk M' a = zk M a := congrFun h.2.2.1 a
theorem Fr.l {S : Nat → Nat → Prop} {M M' : zM} (h : Fr S M M') : zl M' = zl M := h.2.1
theorem q_s0 {d m pc ix y : Nat} {Q : Option Value → zM → Prop} {l : List (Nat × Value)} {st : List Value} {M : zM} (hd : decode (zB m) pc = .ok (.invokestatic ix, 3)) (hc : zCall (zO m) ix = some (1, y) ∨ zCall (zO m) ix = some (4, y)) (hn : 0 = zA y) (h8 : zct st ≤ 8) (h : qC d y [] M (fun w M1 => qW (zEv d) m Q (pc + 3) l (w.toList ++ st) M1)) : qW (zEv d) m Q pc l (st) M := by
  obtain ⟨w, M1, h1, h2⟩ := h
  exact q_static (as := []) hd hc hn h1 h8 h2
theorem q_v0 {b : Nat} {d m pc ix y : Nat} {Q : Option Value → zM → Prop} {l : List (Nat × Value)} {st : List Value} {M : zM} (hd : decode (zB m) pc = .ok (.invokevirtual ix, 3)) (hc : zCall (zO m) ix = some (0, y)) (hn : 0 = zA y) (hk : zk M b = (zO y, 0)) (h8 : zct st ≤ 8) (h : qC d y [.ref b] M (fun w M1 => qW (zEv d) m Q (pc + 3) l (w.toList ++ st) M1)) : qW (zEv d) m Q pc l (.ref b :: st) M := by
  obtain ⟨w, M1, h1, h2⟩ := h
  exact q_virt (as := []) hd hc hn hk h1 h8 h2
theorem q_i0 {b : Nat} {d m pc ix y : Nat} {Q : Option Value → zM → Prop} {l : List (Nat × Value)} {st : List Value} {M : zM} (hd : decode (zB m) pc = .ok (.invokespecial ix, 3)) (hc : zCall (zO m) ix = some (2, y) ∨ zCall (zO m) ix = some (5, y)) (hn : 0 = zA y) (hk : zRk y = 0) (h8 : zct st ≤ 8) (h : qC d y [.ref b] M (fun w M1 => qW (zEv d) m Q (pc + 3) l (w.toList ++ st) M1)) : qW (zEv d) m Q pc l (.ref b :: st) M := by
  obtain ⟨w, M1, h1, h2⟩ := h
  exact q_spec (as := []) hd hc hn hk h1 h8 h2
theorem q_t0 {b : Nat} {d m pc ix y : Nat} {Q : Option Value → zM → Prop} {l : List (Nat × Value)} {st : List Value} {M : zM} (hd : decode (zB m) pc = .ok (.invokevirtual ix, 3)) (hc : zCall (zO m) ix = some (8, y) ∨ zCall (zO m) ix = some (9, y)) (h8 : zct st ≤ 8) (h : qC d y [.ref b] M (fun w M1 => qW (zEv d) m Q (pc + 3) l (w.toList ++ st) M1)) : qW (zEv d) m Q pc l (.ref b :: st) M := by
  obtain ⟨w, M1, h1, h2⟩ := h
  exact q_str (as := []) hd hc h1 h8 h2
theorem q_s1 {d m pc ix y : Nat} {Q : Option Value → zM → Prop} {l : List (Nat × Value)} {st : List Value} {M : zM} {a0 : Value} (hd : decode (zB m) pc = .ok (.invokestatic ix, 3)) (hc : zCall (zO m) ix = some (1, y) ∨ zCall (zO m) ix = some (4, y)) (hn : 1 = zA y) (h8 : zct st ≤ 8) (h : qC d y [a0] M (fun w M1 => qW (zEv d) m Q (pc + 3) l (w.toList ++ st) M1)) : qW (zEv d) m Q pc l (a0 :: st) M := by
  obtain ⟨w, M1, h1, h2⟩ := h
  exact q_static (as := [a0]) hd hc hn h1 h8 h2
theorem q_v1 {b : Nat} {d m pc ix y : Nat} {Q : Option Value → zM → Prop} {l : List (Nat × Value)} {st : List Value} {M : zM} {a0 : Value} (hd : decode (zB m) pc = .ok (.invokevirtual ix, 3)) (hc : zCall (zO m) ix = some (0, y)) (hn : 1 = zA y) (hk : zk M b = (zO y, 0)) (h8 : zct st ≤ 8) (h : qC d y [.ref b, a0] M (fun w M1 => qW (zEv d) m Q (pc + 3) l (w.toList ++ st) M1)) : qW (zEv d) m Q pc l (a0 :: .ref b :: st) M := by
  obtain ⟨w, M1, h1, h2⟩ := h
  exact q_virt (as := [a0]) hd hc hn hk h1 h8 h2
theorem q_i1 {b : Nat} {d m pc ix y : Nat} {Q : Option Value → zM → Prop} {l : List (Nat × Value)} {st : List Value} {M : zM} {a0 : Value} (hd : decode (zB m) pc = .ok (.invokespecial ix, 3)) (hc : zCall (zO m) ix = some (2, y) ∨ zCall (zO m) ix = some (5, y)) (hn : 1 = zA y) (hk : zRk y = 0) (h8 : zct st ≤ 8) (h : qC d y [.ref b, a0] M (fun w M1 => qW (zEv d) m Q (pc + 3) l (w.toList ++ st) M1)) : qW (zEv d) m Q pc l (a0 :: .ref b :: st) M := by
  obtain ⟨w, M1, h1, h2⟩ := h
  exact q_spec (as := [a0]) hd hc hn hk h1 h8 h2
theorem q_t1 {b : Nat} {d m pc ix y : Nat} {Q : Option Value → zM → Prop} {l : List (Nat × Value)} {st : List Value} {M : zM} {a0 : Value} (hd : decode (zB m) pc = .ok (.invokevirtual ix, 3)) (hc : zCall (zO m) ix = some (8, y) ∨ zCall (zO m) ix = some (9, y)) (h8 : zct st ≤ 8) (h : qC d y [.ref b, a0] M (fun w M1 => qW (zEv d) m Q (pc + 3) l (w.toList ++ st) M1)) : qW (zEv d) m Q pc l (a0 :: .ref b :: st) M := by
  obtain ⟨w, M1, h1, h2⟩ := h
  exact q_str (as := [a0]) hd hc h1 h8 h2
theorem q_s2 {d m pc ix y : Nat} {Q : Option Value → zM → Prop} {l : List (Nat × Value)} {st : List Value} {M : zM} {a0 a1 : Value} (hd : decode (zB m) pc = .ok (.invokestatic ix, 3)) (hc : zCall (zO m) ix = some (1, y) ∨ zCall (zO m) ix = some (4, y)) (hn : 2 = zA y) (h8 : zct st ≤ 8) (h : qC d y [a0, a1] M (fun w M1 => qW (zEv d) m Q (pc + 3) l (w.toList ++ st) M1)) : qW (zEv d) m Q pc l (a1 :: a0 :: st) M := by
  obtain ⟨w, M1, h1, h2⟩ := h
  exact q_static (as := [a0, a1]) hd hc hn h1 h8 h2
theorem q_v2 {b : Nat} {d m pc ix y : Nat} {Q : Option Value → zM → Prop} {l : List (Nat × Value)} {st : List Value} {M : zM} {a0 a1 : Value} (hd : decode (zB m) pc = .ok (.invokevirtual ix, 3)) (hc : zCall (zO m) ix = some (0, y)) (hn : 2 = zA y) (hk : zk M b = (zO y, 0)) (h8 : zct st ≤ 8) (h : qC d y [.ref b, a0, a1] M (fun w M1 => qW (zEv d) m Q (pc + 3) l (w.toList ++ st) M1)) : qW (zEv d) m Q pc l (a1 :: a0 :: .ref b :: st) M := by
  obtain ⟨w, M1, h1, h2⟩ := h
  exact q_virt (as := [a0, a1]) hd hc hn hk h1 h8 h2
theorem q_i2 {b : Nat} {d m pc ix y : Nat} {Q : Option Value → zM → Prop} {l : List (Nat × Value)} {st : List Value} {M : zM} {a0 a1 : Value} (hd : decode (zB m) pc = .ok (.invokespecial ix, 3)) (hc : zCall (zO m) ix = some (2, y) ∨ zCall (zO m) ix = some (5, y)) (hn : 2 = zA y) (hk : zRk y = 0) (h8 : zct st ≤ 8) (h : qC d y [.ref b, a0, a1] M (fun w M1 => qW (zEv d) m Q (pc + 3) l (w.toList ++ st) M1)) : qW (zEv d) m Q pc l (a1 :: a0 :: .ref b :: st) M := by
  obtain ⟨w, M1, h1, h2⟩ := h
  exact q_spec (as := [a0, a1]) hd hc hn hk h1 h8 h2
theorem q_s3 {d m pc ix y : Nat} {Q : Option Value → zM → Prop} {l : List (Nat × Value)} {st : List Value} {M : zM} {a0 a1 a2 : Value} (hd : decode (zB m) pc = .ok (.invokestatic ix, 3)) (hc : zCall (zO m) ix = some (1, y) ∨ zCall (zO m) ix = some (4, y)) (hn : 3 = zA y) (h8 : zct st ≤ 8) (h : qC d y [a0, a1, a2] M (fun w M1 => qW (zEv d) m Q (pc + 3) l (w.toList ++ st) M1)) : qW (zEv d) m Q pc l (a2 :: a1 :: a0 :: st) M := by
  obtain ⟨w, M1, h1, h2⟩ := h
  exact q_static (as := [a0, a1, a2]) hd hc hn h1 h8 h2
theorem q_v3 {b : Nat} {d m pc ix y : Nat} {Q : Option Value → zM → Prop} {l : List (Nat × Value)} {st : List Value} {M : zM} {a0 a1 a2 : Value} (hd : decode (zB m) pc = .ok (.invokevirtual ix, 3)) (hc : zCall (zO m) ix = some (0, y)) (hn : 3 = zA y) (hk : zk M b = (zO y, 0)) (h8 : zct st ≤ 8) (h : qC d y [.ref b, a0, a1, a2] M (fun w M1 => qW (zEv d) m Q (pc + 3) l (w.toList ++ st) M1)) : qW (zEv d) m Q pc l (a2 :: a1 :: a0 :: .ref b :: st) M := by
  obtain ⟨w, M1, h1, h2⟩ := h
  exact q_virt (as := [a0, a1, a2]) hd hc hn hk h1 h8 h2
theorem q_i3 {b : Nat} {d m pc ix y : Nat} {Q : Option Value → zM → Prop} {l : List (Nat × Value)} {st : List Value} {M : zM} {a0 a1 a2 : Value} (hd : decode (zB m) pc = .ok (.invokespecial ix, 3)) (hc : zCall (zO m) ix = some (2, y) ∨ zCall (zO m) ix = some (5, y)) (hn : 3 = zA y) (hk : zRk y = 0) (h8 : zct st ≤ 8) (h : qC d y [.ref b, a0, a1, a2] M (fun w M1 => qW (zEv d) m Q (pc + 3) l (w.toList ++ st) M1)) : qW (zEv d) m Q pc l (a2 :: a1 :: a0 :: .ref b :: st) M := by
  obtain ⟨w, M1, h1, h2⟩ := h
  exact q_spec (as := [a0, a1, a2]) hd hc hn hk h1 h8 h2
theorem q_s4 {d m pc ix y : Nat} {Q : Option Value → zM → Prop} {l : List (Nat × Value)} {st : List Value} {M : zM} {a0 a1 a2 a3 : Value} (hd : decode (zB m) pc = .ok (.invokestatic ix, 3)) (hc : zCall (zO m) ix = some (1, y) ∨ zCall (zO m) ix = some (4, y)) (hn : 4 = zA y) (h8 : zct st ≤ 8) (h : qC d y [a0, a1, a2, a3] M (fun w M1 => qW (zEv d) m Q (pc + 3) l (w.toList ++ st) M1)) : qW (zEv d) m Q pc l (a3 :: a2 :: a1 :: a0 :: st) M := by
  obtain ⟨w, M1, h1, h2⟩ := h
  exact q_static (as := [a0, a1, a2, a3]) hd hc hn h1 h8 h2
theorem q_v4 {b : Nat} {d m pc ix y : Nat} {Q : Option Value → zM → Prop} {l : List (Nat × Value)} {st : List Value} {M : zM} {a0 a1 a2 a3 : Value} (hd : decode (zB m) pc = .ok (.invokevirtual ix, 3)) (hc : zCall (zO m) ix = some (0, y)) (hn : 4 = zA y) (hk : zk M b = (zO y, 0)) (h8 : zct st ≤ 8) (h : qC d y [.ref b, a0, a1, a2, a3] M (fun w M1 => qW (zEv d) m Q (pc + 3) l (w.toList ++ st) M1)) : qW (zEv d) m Q pc l (a3 :: a2 :: a1 :: a0 :: .ref b :: st) M := by
  obtain ⟨w, M1, h1, h2⟩ := h
  exact q_virt (as := [a0, a1, a2, a3]) hd hc hn hk h1 h8 h2
theorem q_i4 {b : Nat} {d m pc ix y : Nat} {Q : Option Value → zM → Prop} {l : List (Nat × Value)} {st : List Value} {M : zM} {a0 a1 a2 a3 : Value} (hd : decode (zB m) pc = .ok (.invokespecial ix, 3)) (hc : zCall (zO m) ix = some (2, y) ∨ zCall (zO m) ix = some (5, y)) (hn : 4 = zA y) (hk : zRk y = 0) (h8 : zct st ≤ 8) (h : qC d y [.ref b, a0, a1, a2, a3] M (fun w M1 => qW (zEv d) m Q (pc + 3) l (w.toList ++ st) M1)) : qW (zEv d) m Q pc l (a3 :: a2 :: a1 :: a0 :: .ref b :: st) M := by
  obtain ⟨w, M1, h1, h2⟩ := h
  exact q_spec (as := [a0, a1, a2, a3]) hd hc hn hk h1 h8 h2
theorem q_s5 {d m pc ix y : Nat} {Q : Option Value → zM → Prop} {l : List (Nat × Value)} {st : List Value} {M : zM} {a0 a1 a2 a3 a4 : Value} (hd : decode (zB m) pc = .ok (.invokestatic ix, 3)) (hc : zCall (zO m) ix = some (1, y) ∨ zCall (zO m) ix = some (4, y)) (hn : 5 = zA y) (h8 : zct st ≤ 8) (h : qC d y [a0, a1, a2, a3, a4] M (fun w M1 => qW (zEv d) m Q (pc + 3) l (w.toList ++ st) M1)) : qW (zEv d) m Q pc l (a4 :: a3 :: a2 :: a1 :: a0 :: st) M := by
  obtain ⟨w, M1, h1, h2⟩ := h
  exact q_static (as := [a0, a1, a2, a3, a4]) hd hc hn h1 h8 h2
theorem q_v5 {b : Nat} {d m pc ix y : Nat} {Q : Option Value → zM → Prop} {l : List (Nat × Value)} {st : List Value} {M : zM} {a0 a1 a2 a3 a4 : Value} (hd : decode (zB m) pc = .ok (.invokevirtual ix, 3)) (hc : zCall (zO m) ix = some (0, y)) (hn : 5 = zA y) (hk : zk M b = (zO y, 0)) (h8 : zct st ≤ 8) (h : qC d y [.ref b, a0, a1, a2, a3, a4] M (fun w M1 => qW (zEv d) m Q (pc + 3) l (w.toList ++ st) M1)) : qW (zEv d) m Q pc l (a4 :: a3 :: a2 :: a1 :: a0 :: .ref b :: st) M := by
  obtain ⟨w, M1, h1, h2⟩ := h
  exact q_virt (as := [a0, a1, a2, a3, a4]) hd hc hn hk h1 h8 h2
theorem q_i5 {b : Nat} {d m pc ix y : Nat} {Q : Option Value → zM → Prop} {l : List (Nat × Value)} {st : List Value} {M : zM} {a0 a1 a2 a3 a4 : Value} (hd : decode (zB m) pc = .ok (.invokespecial ix, 3)) (hc : zCall (zO m) ix = some (2, y) ∨ zCall (zO m) ix = some (5, y)) (hn : 5 = zA y) (hk : zRk y = 0) (h8 : zct st ≤ 8) (h : qC d y [.ref b, a0, a1, a2, a3, a4] M (fun w M1 => qW (zEv d) m Q (pc + 3) l (w.toList ++ st) M1)) : qW (zEv d) m Q pc l (a4 :: a3 :: a2 :: a1 :: a0 :: .ref b :: st) M := by
  obtain ⟨w, M1, h1, h2⟩ := h
  exact q_spec (as := [a0, a1, a2, a3, a4]) hd hc hn hk h1 h8 h2
theorem q_s6 {d m pc ix y : Nat} {Q : Option Value → zM → Prop} {l : List (Nat × Value)} {st : List Value} {M : zM} {a0 a1 a2 a3 a4 a5 : Value} (hd : decode (zB m) pc = .ok (.invokestatic ix, 3)) (hc : zCall (zO m) ix = some (1, y) ∨ zCall (zO m) ix = some (4, y)) (hn : 6 = zA y) (h8 : zct st ≤ 8) (h : qC d y [a0, a1, a2, a3, a4, a5] M (fun w M1 => qW (zEv d) m Q (pc + 3) l (w.toList ++ st) M1)) : qW (zEv d) m Q pc l (a5 :: a4 :: a3 :: a2 :: a1 :: a0 :: st) M := by
  obtain ⟨w, M1, h1, h2⟩ := h
  exact q_static (as := [a0, a1, a2, a3, a4, a5]) hd hc hn h1 h8 h2
theorem q_v6 {b : Nat} {d m pc ix y : Nat} {Q : Option Value → zM → Prop} {l : List (Nat × Value)} {st : List Value} {M : zM} {a0 a1 a2 a3 a4 a5 : Value} (hd : decode (zB m) pc = .ok (.invokevirtual ix, 3)) (hc : zCall (zO m) ix = some (0, y)) (hn : 6 = zA y) (hk : zk M b = (zO y, 0)) (h8 : zct st ≤ 8) (h : qC d y [.ref b, a0, a1, a2, a3, a4, a5] M (fun w M1 => qW (zEv d) m Q (pc + 3) l (w.toList ++ st) M1)) : qW (zEv d) m Q pc l (a5 :: a4 :: a3 :: a2 :: a1 :: a0 :: .ref b :: st) M := by
  obtain ⟨w, M1, h1, h2⟩ := h
  exact q_virt (as := [a0, a1, a2, a3, a4, a5]) hd hc hn hk h1 h8 h2
theorem q_i6 {b : Nat} {d m pc ix y : Nat} {Q : Option Value → zM → Prop} {l : List (Nat × Value)} {st : List Value} {M : zM} {a0 a1 a2 a3 a4 a5 : Value} (hd : decode (zB m) pc = .ok (.invokespecial ix, 3)) (hc : zCall (zO m) ix = some (2, y) ∨ zCall (zO m) ix = some (5, y)) (hn : 6 = zA y) (hk : zRk y = 0) (h8 : zct st ≤ 8) (h : qC d y [.ref b, a0, a1, a2, a3, a4, a5] M (fun w M1 => qW (zEv d) m Q (pc + 3) l (w.toList ++ st) M1)) : qW (zEv d) m Q pc l (a5 :: a4 :: a3 :: a2 :: a1 :: a0 :: .ref b :: st) M := by
  obtain ⟨w, M1, h1, h2⟩ := h
  exact q_spec (as := [a0, a1, a2, a3, a4, a5]) hd hc hn hk h1 h8 h2
theorem q_s7 {d m pc ix y : Nat} {Q : Option Value → zM → Prop} {l : List (Nat × Value)} {st : List Value} {M : zM} {a0 a1 a2 a3 a4 a5 a6 : Value} (hd : decode (zB m) pc = .ok (.invokestatic ix, 3)) (hc : zCall (zO m) ix = some (1, y) ∨ zCall (zO m) ix = some (4, y)) (hn : 7 = zA y) (h8 : zct st ≤ 8) (h : qC d y [a0, a1, a2, a3, a4, a5, a6] M (fun w M1 => qW (zEv d) m Q (pc + 3) l (w.toList ++ st) M1)) : qW (zEv d) m Q pc l (a6 :: a5 :: a4 :: a3 :: a2 :: a1 :: a0 :: st) M := by
  obtain ⟨w, M1, h1, h2⟩ := h
  exact q_static (as := [a0, a1, a2, a3, a4, a5, a6]) hd hc hn h1 h8 h2
theorem q_v7 {b : Nat} {d m pc ix y : Nat} {Q : Option Value → zM → Prop} {l : List (Nat × Value)} {st : List Value} {M : zM} {a0 a1 a2 a3 a4 a5 a6 : Value} (hd : decode (zB m) pc = .ok (.invokevirtual ix, 3)) (hc : zCall (zO m) ix = some (0, y)) (hn : 7 = zA y) (hk : zk M b = (zO y, 0)) (h8 : zct st ≤ 8) (h : qC d y [.ref b, a0, a1, a2, a3, a4, a5, a6] M (fun w M1 => qW (zEv d) m Q (pc + 3) l (w.toList ++ st) M1)) : qW (zEv d) m Q pc l (a6 :: a5 :: a4 :: a3 :: a2 :: a1 :: a0 :: .ref b :: st) M := by
  obtain ⟨w, M1, h1, h2⟩ := h
  exact q_virt (as := [a0, a1, a2, a3, a4, a5, a6]) hd hc hn hk h1 h8 h2
theorem q_i7 {b : Nat} {d m pc ix y : Nat} {Q : Option Value → zM → Prop} {l : List (Nat × Value)} {st : List Value} {M : zM} {a0 a1 a2 a3 a4 a5 a6 : Value} (hd : decode (zB m) pc = .ok (.invokespecial ix, 3)) (hc : zCall (zO m) ix = some (2, y) ∨ zCall (zO m) ix = some (5, y)) (hn : 7 = zA y) (hk : zRk y = 0) (h8 : zct st ≤ 8) (h : qC d y [.ref b, a0, a1, a2, a3, a4, a5, a6] M (fun w M1 => qW (zEv d) m Q (pc + 3) l (w.toList ++ st) M1)) : qW (zEv d) m Q pc l (a6 :: a5 :: a4 :: a3 :: a2 :: a1 :: a0 :: .ref b :: st) M := by
  obtain ⟨w, M1, h1, h2⟩ := h
  exact q_spec (as := [a0, a1, a2, a3, a4, a5, a6]) hd hc hn hk h1 h8 h2
end
section
/-! ===== what a desk is: texts, sagas, purses, worlds, the log, ticks, replays ===== -/
def yu {α : Type} (f : Nat → α) (k : Nat) (v : α) : Nat → α := fun j => if j = k then v else f j
theorem yu_s {α : Type} (f : Nat → α) (k : Nat) (v : α) : yu f k v k = v := if_pos rfl
theorem yu_n {α : Type} {f : Nat → α} {k j : Nat} {v : α} (h : j ≠ k) : yu f k v j = f j := if_neg h
theorem yu_e {α : Type} (f : Nat → α) (k : Nat) (v : α) (j : Nat) : yu f k v j = if j = k then v else f j := rfl
/-- a text: how many steps, kinds, first accounts, second ones, numbers, aheads, the pivot -/
abbrev yT : Type := Nat × (Nat → Nat) × (Nat → Int32) × (Nat → Int32) × (Nat → Int32) × (Nat → Nat) × Int32
def tn (T : yT) : Nat := T.1
def tk (T : yT) : Nat → Nat := T.2.1
def tf (T : yT) : Nat → Int32 := T.2.2.1
def ts (T : yT) : Nat → Int32 := T.2.2.2.1
def tu (T : yT) : Nat → Int32 := T.2.2.2.2.1
def ta (T : yT) : Nat → Nat := T.2.2.2.2.2.1
def tp (T : yT) : Int32 := T.2.2.2.2.2.2
/-- a saga: how it is, its text, how its steps stand, those done (the last first), by which numbers, plans, plans of undoings, failures, reasons -/
abbrev yS : Type := Nat × Nat × (Nat → Nat) × List Nat × (Nat → Int32) × (Nat → Int32) × (Nat → Int32) × (Nat → Int32) × (Nat → Int32)
def gt (S : yS) : Nat := S.1
def gx (S : yS) : Nat := S.2.1
def gd (S : yS) : Nat → Nat := S.2.2.1
def go (S : yS) : List Nat := S.2.2.2.1
def gb (S : yS) : Nat → Int32 := S.2.2.2.2.1
def gp (S : yS) : Nat → Int32 := S.2.2.2.2.2.1
def gq (S : yS) : Nat → Int32 := S.2.2.2.2.2.2.1
def gf (S : yS) : Nat → Int32 := S.2.2.2.2.2.2.2.1
def gw (S : yS) : Nat → Int32 := S.2.2.2.2.2.2.2.2
def gtS (S : yS) (v : Nat) : yS := (v, S.2)
def gdS (S : yS) (v : Nat → Nat) : yS := (S.1, S.2.1, v, S.2.2.2)
def goS (S : yS) (v : List Nat) : yS := (S.1, S.2.1, S.2.2.1, v, S.2.2.2.2)
def gbS (S : yS) (v : Nat → Int32) : yS := (S.1, S.2.1, S.2.2.1, S.2.2.2.1, v, S.2.2.2.2.2)
def gpS (S : yS) (v : Nat → Int32) : yS := (S.1, S.2.1, S.2.2.1, S.2.2.2.1, S.2.2.2.2.1, v, S.2.2.2.2.2.2)
def gqS (S : yS) (v : Nat → Int32) : yS := (S.1, S.2.1, S.2.2.1, S.2.2.2.1, S.2.2.2.2.1, S.2.2.2.2.2.1, v, S.2.2.2.2.2.2.2)
def gfS (S : yS) (v : Nat → Int32) : yS := (S.1, S.2.1, S.2.2.1, S.2.2.2.1, S.2.2.2.2.1, S.2.2.2.2.2.1, S.2.2.2.2.2.2.1, v, S.2.2.2.2.2.2.2.2)
def gwS (S : yS) (v : Nat → Int32) : yS := (S.1, S.2.1, S.2.2.1, S.2.2.2.1, S.2.2.2.2.1, S.2.2.2.2.2.1, S.2.2.2.2.2.2.1, S.2.2.2.2.2.2.2.1, v)
/-- balances, HELD, MARKS -/
abbrev yP : Type := (Nat → Int32) × Int32 × Int32
abbrev yW : Type := yP × (Nat → yS)
abbrev yL : Type := Nat × Nat × Nat
abbrev yX : Type := yW × Option (List yL)
/-- masks -/
def ymk (f : Nat → Bool) : Nat → Nat
  | 0 => 0
  | n + 1 => ymk f n ||| (if f n then 2 ^ n else 0)
def gm (S : yS) (v : Nat) : Nat := ymk (fun k => gd S k == v) 12
/-- steps that are purses' -/
def yck (b : Int32) : Int32 := if 0 ≤ b then (if b ≤ nI 9999 then 0 else 3) else 2
def ybe (P : yP) (a more : Int32) : Int32 := match zix a 6 with
  | none => 0
  | some k => yck (P.1 k + more)
def yf1 (k : Nat) (n : Int32) : Int32 := if k = 0 then n else if k = 4 ∨ k = 5 then 0 else -n
def yf2 (k : Nat) (n : Int32) : Int32 := if k = 2 then n else 0
def yob (T : yT) (P : yP) (i : Nat) (n w : Int32) : Int32 :=
  if ybe P (tf T i) (w * yf1 (tk T i) n) ≠ 0 then ybe P (tf T i) (w * yf1 (tk T i) n) else ybe P (ts T i) (w * yf2 (tk T i) n)
def ypu (P : yP) (a more : Int32) : yP := match zix a 6 with
  | none => P
  | some k => (yu P.1 k (P.1 k + more), P.2)
def yex (P : yP) (a b : Int32) : yP := match zix a 6, zix b 6 with
  | some i, some j => (yu (yu P.1 i (P.1 j)) j (P.1 i), P.2)
  | _, _ => P
def ych (T : yT) (P : yP) (i : Nat) (n w : Int32) : yP :=
  let P2 := ypu (ypu P (tf T i) (w * yf1 (tk T i) n)) (ts T i) (w * yf2 (tk T i) n)
  if tk T i = 3 then (P2.1, P2.2.1 + w * n, P2.2.2) else if tk T i = 4 then yex P2 (tf T i) (ts T i) else if tk T i = 5 ∧ w = 1 then (P2.1, P2.2.1, P2.2.2 + 1) else P2
/-- sagas -/
def ypa (T : yT) (done : Nat) : Bool := decide (tp T ≠ -1 ∧ tp T &&& (nI done ^^^ (-1)) = 0)
def ynx (T : yT) (set : Nat) : Nat := ymk (fun i => !set.testBit i && zdf (ta T i) set == 0) (tn T)
def yfr (T : yT) (S : yS) : Nat := ymk (fun i => gd S i == 0 && zdf (ta T i) (gm S 1) == 0) (tn T)
def yDn (S : yS) (i : Nat) (n : Int32) : yS := gbS (goS (gdS S (yu (gd S) i 1)) (i :: go S)) (yu (gb S) i n)
def ylg (g : Option (List yL)) (x : yL) : Option (List yL) := match g with
  | none => none
  | some l => some (l ++ [x])
def yxs (X : yX) (s : Nat) : yS := X.1.2 s
def yss (X : yX) (s : Nat) (S : yS) : yX := ((X.1.1, yu X.1.2 s S), X.2)
def ysp (X : yX) (P : yP) : yX := ((P, X.1.2), X.2)
def yno (X : yX) (x : yL) : yX := (X.1, ylg X.2 x)
def yen (X : yX) (s v : Nat) : yX := yno (yss X s (gtS (yxs X s) v)) (5, s, v)
def ypl (p : Nat → Int32) (i : Nat) : Bool := decide (0 < p i)
/-- one is spent of a plan -/
def ysd (p : Nat → Int32) (i : Nat) : Nat → Int32 := if ypl p i then yu p i (p i - 1) else p
def yfS (S : yS) (i : Nat) (r : Int32) (passed : Bool) : yS :=
  let S2 := gwS (gfS S (yu (gf S) i (gf S i + 1))) (yu (gw S) i r)
  if passed then S2 else gtS S2 2
def ytr (T : yT) (n : Int32) (s i : Nat) (X : yX) : yX :=
  let S := yxs X s
  let S1 := gpS S (ysd (gp S) i)
  let r := if ypl (gp S) i then 1 else yob T X.1.1 i n 1
  if r = 0 then yno (yss (ysp X (ych T X.1.1 i n 1)) s (yDn S1 i n)) (1, s, i)
  else
    let X2 := yno (yss X s (yfS S1 i r (ypa T (gm S 1)))) (2, s, i)
    if ypa T (gm S 1) = true ∧ ¬ gf S i + 1 < nI 3 then yen X2 s 5 else X2
/-- the turns of a front's steps -/
def yfl (T : yT) (nm : Nat → Int32) (s fr : Nat) : Nat → Nat → yX → yX
  | 0, _, X => X
  | k + 1, i, X => if gt (yxs X s) = 1 then yfl T nm s fr k (i + 1) (if fr.testBit i then ytr T (nm i) s i X else X) else X
def yfo (T : yT) (nm : Nat → Int32) (s : Nat) (X : yX) : yX :=
  let X1 := yfl T nm s (yfr T (yxs X s)) 12 0 X
  if gt (yxs X1 s) = 1 ∧ gm (yxs X1 s) 1 = 2 ^ tn T - 1 then yen X1 s 3 else X1
def yun (T : yT) (s : Nat) (X : yX) : yX :=
  let S := yxs X s
  match go S with
  | [] => X
  | i :: rest =>
    let S1 := gqS S (ysd (gq S) i)
    let r := if ypl (gq S) i then 1 else yob T X.1.1 i (gb S i) (-1)
    if r = 0 then yno (yss (ysp X (ych T X.1.1 i (gb S i) (-1))) s (goS (gdS S1 (yu (gd S1) i 2)) rest)) (3, s, i)
    else yno (yss X s (gwS (goS (gdS S1 (yu (gd S1) i 3)) rest) (yu (gw S1) i r))) (4, s, i)
def yba (T : yT) (s : Nat) (X : yX) : yX :=
  let X1 := yun T s X
  if gm (yxs X1 s) 1 = 0 then yen X1 s 4 else X1
def ytu (T : Nat → yT) (nm : Nat → Nat → Int32) (s : Nat) (X : yX) : yX :=
  if gt (yxs X s) = 1 then yfo (T (gx (yxs X s))) (nm s) s X else if gt (yxs X s) = 2 then yba (T (gx (yxs X s))) s X else X
def yti (T : Nat → yT) (nm : Nat → Nat → Int32) (X : yX) : yX := ytu T nm 2 (ytu T nm 1 (ytu T nm 0 X))
def ytn (T : Nat → yT) (nm : Nat → Nat → Int32) : Nat → yX → yX
  | 0, X => X
  | k + 1, X => ytn T nm k (yti T nm X)
/-- beginnings and replays -/
def yS0 : yS := (0, 0, fun _ => 0, [], fun _ => 0, fun _ => 0, fun _ => 0, fun _ => 0, fun _ => 0)
def yP0 : yP := (fun _ => 100, 0, 0)
def yW0 : yW := (yP0, fun _ => yS0)
def ySt (t : Nat) : yS := gtS (yS0.1, t, yS0.2.2) 1
def yag (T : Nat → yT) (W : yW) (l : yL) : yW :=
  let S := W.2 l.2.1
  let i := l.2.2
  match l.1 with
  | 0 => (W.1, yu W.2 l.2.1 (ySt i))
  | 1 => (ych (T (gx S)) W.1 i (tu (T (gx S)) i) 1, yu W.2 l.2.1 (yDn S i (tu (T (gx S)) i)))
  | 2 => (W.1, yu W.2 l.2.1 (yfS S i 0 (ypa (T (gx S)) (gm S 1))))
  | 3 => (ych (T (gx S)) W.1 i (gb S i) (-1), yu W.2 l.2.1 (goS (gdS S (yu (gd S) i 2)) (go S).tail))
  | 4 => (W.1, yu W.2 l.2.1 (gwS (goS (gdS S (yu (gd S) i 3)) (go S).tail) (yu (gw S) i 0)))
  | 5 => (W.1, yu W.2 l.2.1 (gtS S i))
  | _ => ((yu W.1.1 l.2.1 (nI i), W.1.2), W.2)
def yre (T : Nat → yT) (L : List yL) : yW := L.foldl (yag T) yW0
/-- what holds of texts and sagas -/
def OKT (T : yT) : Prop := 1 ≤ tn T ∧ tn T ≤ 12 ∧ (tp T = -1 ∨ ∃ p, p < 2 ^ tn T ∧ tp T = nI p) ∧ ∀ k, k < tn T →
  tk T k < 6 ∧ ta T k < 2 ^ k ∧ (tk T k = 5 → tf T k = -1) ∧ (tk T k ≠ 5 → ∃ a, a < 6 ∧ tf T k = nI a) ∧ ((tk T k = 2 ∨ tk T k = 4) → ∃ a, a < 6 ∧ ts T k = nI a) ∧
  (tk T k ≠ 2 → tk T k ≠ 4 → ts T k = -1) ∧ ((tk T k = 4 ∨ tk T k = 5) → tu T k = -1) ∧ (tk T k ≠ 4 → tk T k ≠ 5 → ∃ v, v < 1000 ∧ tu T k = nI v)
def OKP (P : yP) : Prop := ∀ a, a < 6 → 0 ≤ P.1 a ∧ P.1 a ≤ nI 9999
def gz (T : Nat → yT) (S : yS) : Nat := if gt S = 0 then 0 else tn (T (gx S))
def OKS (T : Nat → yT) (c : Nat) (S : yS) : Prop := gt S ≤ 5 ∧ (gt S ≠ 0 → gx S < c) ∧ (go S).Nodup ∧ (∀ i, i ∈ go S ↔ gd S i = 1) ∧ (∀ i, gz T S ≤ i → gd S i = 0) ∧ ∀ i, gd S i ≤ 3
def OKW (T : Nat → yT) (c : Nat) (W : yW) : Prop := (c ≤ 6 ∧ ∀ i, i < c → OKT (T i)) ∧ OKP W.1 ∧ ∀ s, s < 3 → OKS T c (W.2 s)
/-! ===== how the cells are laid: the class's ===== -/
def SPr (M : zM) (a : Nat) : Prop := zk M a = (1, 0) ∧ ∀ f, f < 6 → zr M a f = some (a + 1 + f) ∧ zk M (a + 1 + f) = (20, 12)
def SPu (M : zM) (u : Nat) : Prop := zk M u = (2, 0) ∧ zr M u 0 = some (u + 1) ∧ zk M (u + 1) = (20, 6)
def SSg (M : zM) (a : Nat) : Prop := zk M a = (5, 0) ∧ zr M a 6 = some (a + 1) ∧ (∀ f, f < 6 → zr M a (8 + f) = some (a + 2 + f)) ∧ ∀ f, f < 7 → zk M (a + 1 + f) = (20, 12)
def SJo (M : zM) (j L : Nat) : Prop := zk M j = (0, 0) ∧ ∀ f, f < 3 → zr M j f = some (j + 1 + f) ∧ zk M (j + 1 + f) = (20, L)
def SRo (M : zM) (a : Nat) : Prop := zk M a = (4, 0) ∧ zr M a 2 = some (a + 1) ∧ zk M (a + 1) = (20, 40)
def SWo (M : zM) (w u j : Nat) : Prop := zk M w = (6, 0) ∧ zr M w 0 = some 19 ∧ zr M w 1 = some j ∧ zr M w 2 = some u ∧ zr M w 3 = some (u + 2) ∧ zk M (u + 2) = (23, 3) ∧ ∀ s, s < 3 → zr M (u + 2) s = some (u + 3 + 8 * s)
def SRd (M : zM) : Prop := zk M 17 = (3, 0) ∧ zr M 17 0 = some 18 ∧ zk M 18 = (20, 120)
def SDk (M : zM) : Prop := zk M 16 = (7, 0) ∧ zr M 16 0 = some 17 ∧ zr M 16 1 = some 19 ∧ zk M 19 = (22, 6) ∧ (∀ i, i < 6 → zr M 19 i = some (20 + 7 * i)) ∧ zr M 16 3 = some 62 ∧ zr M 16 4 = some 66 ∧ zr M 16 5 = some 94 ∧ zr M 16 6 = some 126 ∧
  zk M 126 = (24, 4) ∧ (∀ i, i < 4 → zr M 126 i = some (127 + 2 * i)) ∧ zr M 16 7 = some 135 ∧ zk M 135 = (21, 4096)
/-- the statics' rows -/
def SSt (M : zM) : Prop := zk M 1 = (30, 6) ∧ zk M 2 = (30, 6) ∧ (∀ j, zi M 1 j = zUn j) ∧ ∀ j, zi M 2 j = zAo j
def SC (M : zM) : Prop := SDk M ∧ SRd M ∧ (∀ i, i < 6 → SPr M (20 + 7 * i)) ∧ SJo M 62 240 ∧ SJo M 95 0 ∧ SWo M 66 67 62 ∧ SWo M 94 99 95 ∧ SPu M 67 ∧ SPu M 99 ∧ (∀ s, s < 3 → SSg M (70 + 8 * s)) ∧ (∀ s, s < 3 → SSg M (102 + 8 * s)) ∧ (∀ i, i < 4 → SRo M (127 + 2 * i)) ∧ SSt M
/-- the references that may be written -/
def zpr (a f : Nat) : Prop := (a = 17 ∧ f = 6) ∨ (f = 2 ∧ (a = 70 ∨ a = 78 ∨ a = 86 ∨ a = 102 ∨ a = 110 ∨ a = 118))
end
section
/-! ===== how the cells are laid: the reference's ===== -/
def zXk : List (Nat × Nat × Nat) := [(136, 8, 0), (209, 21, 4096), (230, 26, 4), (137, 20, 6), (138, 20, 6), (174, 20, 6), (175, 20, 3), (176, 20, 3), (205, 20, 240), (206, 20, 240), (207, 20, 240), (208, 20, 120), (319, 20, 4), (320, 20, 4), (326, 20, 40), (139, 25, 6), (140, 20, 12), (141, 20, 12), (142, 20, 12), (143, 20, 12), (144, 20, 12), (145, 20, 12), (146, 25, 6), (147, 20, 12), (148, 20, 12), (149, 20, 12), (150, 20, 12), (151, 20, 12), (152, 20, 12), (153, 25, 6), (154, 20, 12), (155, 20, 12), (156, 20, 12), (157, 20, 12), (158, 20, 12), (159, 20, 12), (160, 25, 6), (161, 20, 12), (162, 20, 12), (163, 20, 12), (164, 20, 12), (165, 20, 12), (166, 20, 12), (167, 25, 6), (168, 20, 12), (169, 20, 12), (170, 20, 12), (171, 20, 12), (172, 20, 12), (173, 20, 12), (177, 25, 3), (178, 20, 12), (179, 20, 12), (180, 20, 12), (181, 25, 3), (182, 20, 12), (183, 20, 12), (184, 20, 12), (185, 25, 3), (186, 20, 12), (187, 20, 12), (188, 20, 12), (189, 25, 3), (190, 20, 12), (191, 20, 12), (192, 20, 12), (193, 25, 3), (194, 20, 12), (195, 20, 12), (196, 20, 12), (197, 25, 3), (198, 20, 12), (199, 20, 12), (200, 20, 12), (201, 25, 3), (202, 20, 12), (203, 20, 12), (204, 20, 12), (210, 25, 4), (211, 20, 6), (212, 20, 6), (213, 20, 6), (214, 20, 6), (215, 25, 4), (216, 20, 4), (217, 20, 4), (218, 20, 4), (219, 20, 4), (220, 25, 4), (221, 20, 3), (222, 20, 3), (223, 20, 3), (224, 20, 3), (225, 25, 4), (226, 20, 3), (227, 20, 3), (228, 20, 3), (229, 20, 3), (321, 25, 4), (322, 20, 40), (323, 20, 40), (324, 20, 40), (325, 20, 40), (231, 25, 21), (232, 20, 12), (233, 20, 12), (234, 20, 12), (235, 20, 12), (236, 20, 12), (237, 20, 12), (238, 20, 12), (239, 20, 12), (240, 20, 12), (241, 20, 12), (242, 20, 12), (243, 20, 12), (244, 20, 12), (245, 20, 12), (246, 20, 12), (247, 20, 12), (248, 20, 12), (249, 20, 12), (250, 20, 12), (251, 20, 12), (252, 20, 12), (253, 25, 21), (254, 20, 12), (255, 20, 12), (256, 20, 12), (257, 20, 12), (258, 20, 12), (259, 20, 12), (260, 20, 12), (261, 20, 12), (262, 20, 12), (263, 20, 12), (264, 20, 12), (265, 20, 12), (266, 20, 12), (267, 20, 12), (268, 20, 12), (269, 20, 12), (270, 20, 12), (271, 20, 12), (272, 20, 12), (273, 20, 12), (274, 20, 12), (275, 25, 21), (276, 20, 12), (277, 20, 12), (278, 20, 12), (279, 20, 12), (280, 20, 12), (281, 20, 12), (282, 20, 12), (283, 20, 12), (284, 20, 12), (285, 20, 12), (286, 20, 12), (287, 20, 12), (288, 20, 12), (289, 20, 12), (290, 20, 12), (291, 20, 12), (292, 20, 12), (293, 20, 12), (294, 20, 12), (295, 20, 12), (296, 20, 12), (297, 25, 21), (298, 20, 12), (299, 20, 12), (300, 20, 12), (301, 20, 12), (302, 20, 12), (303, 20, 12), (304, 20, 12), (305, 20, 12), (306, 20, 12), (307, 20, 12), (308, 20, 12), (309, 20, 12), (310, 20, 12), (311, 20, 12), (312, 20, 12), (313, 20, 12), (314, 20, 12), (315, 20, 12), (316, 20, 12), (317, 20, 12), (318, 20, 12)]
def zXf : List (Nat × Nat × Nat) := [(136, 1, 137), (136, 2, 138), (136, 8, 174), (136, 11, 175), (136, 12, 176), (136, 26, 205), (136, 27, 206), (136, 28, 207), (136, 29, 208), (136, 45, 319), (136, 46, 320), (136, 48, 326), (136, 39, 209), (136, 44, 230), (136, 3, 139), (139, 0, 140), (139, 1, 141), (139, 2, 142), (139, 3, 143), (139, 4, 144), (139, 5, 145), (136, 4, 146), (146, 0, 147), (146, 1, 148), (146, 2, 149), (146, 3, 150), (146, 4, 151), (146, 5, 152), (136, 5, 153), (153, 0, 154), (153, 1, 155), (153, 2, 156), (153, 3, 157), (153, 4, 158), (153, 5, 159), (136, 6, 160), (160, 0, 161), (160, 1, 162), (160, 2, 163), (160, 3, 164), (160, 4, 165), (160, 5, 166), (136, 7, 167), (167, 0, 168), (167, 1, 169), (167, 2, 170), (167, 3, 171), (167, 4, 172), (167, 5, 173), (136, 13, 177), (177, 0, 178), (177, 1, 179), (177, 2, 180), (136, 14, 181), (181, 0, 182), (181, 1, 183), (181, 2, 184), (136, 15, 185), (185, 0, 186), (185, 1, 187), (185, 2, 188), (136, 16, 189), (189, 0, 190), (189, 1, 191), (189, 2, 192), (136, 17, 193), (193, 0, 194), (193, 1, 195), (193, 2, 196), (136, 18, 197), (197, 0, 198), (197, 1, 199), (197, 2, 200), (136, 19, 201), (201, 0, 202), (201, 1, 203), (201, 2, 204), (136, 40, 210), (210, 0, 211), (210, 1, 212), (210, 2, 213), (210, 3, 214), (136, 41, 215), (215, 0, 216), (215, 1, 217), (215, 2, 218), (215, 3, 219), (136, 42, 220), (220, 0, 221), (220, 1, 222), (220, 2, 223), (220, 3, 224), (136, 43, 225), (225, 0, 226), (225, 1, 227), (225, 2, 228), (225, 3, 229), (136, 47, 321), (321, 0, 322), (321, 1, 323), (321, 2, 324), (321, 3, 325), (230, 0, 231), (231, 0, 232), (231, 1, 233), (231, 2, 234), (231, 3, 235), (231, 4, 236), (231, 5, 237), (231, 6, 238), (231, 7, 239), (231, 8, 240), (231, 9, 241), (231, 10, 242), (231, 11, 243), (231, 12, 244), (231, 13, 245), (231, 14, 246), (231, 15, 247), (231, 16, 248), (231, 17, 249), (231, 18, 250), (231, 19, 251), (231, 20, 252), (230, 1, 253), (253, 0, 254), (253, 1, 255), (253, 2, 256), (253, 3, 257), (253, 4, 258), (253, 5, 259), (253, 6, 260), (253, 7, 261), (253, 8, 262), (253, 9, 263), (253, 10, 264), (253, 11, 265), (253, 12, 266), (253, 13, 267), (253, 14, 268), (253, 15, 269), (253, 16, 270), (253, 17, 271), (253, 18, 272), (253, 19, 273), (253, 20, 274), (230, 2, 275), (275, 0, 276), (275, 1, 277), (275, 2, 278), (275, 3, 279), (275, 4, 280), (275, 5, 281), (275, 6, 282), (275, 7, 283), (275, 8, 284), (275, 9, 285), (275, 10, 286), (275, 11, 287), (275, 12, 288), (275, 13, 289), (275, 14, 290), (275, 15, 291), (275, 16, 292), (275, 17, 293), (275, 18, 294), (275, 19, 295), (275, 20, 296), (230, 3, 297), (297, 0, 298), (297, 1, 299), (297, 2, 300), (297, 3, 301), (297, 4, 302), (297, 5, 303), (297, 6, 304), (297, 7, 305), (297, 8, 306), (297, 9, 307), (297, 10, 308), (297, 11, 309), (297, 12, 310), (297, 13, 311), (297, 14, 312), (297, 15, 313), (297, 16, 314), (297, 17, 315), (297, 18, 316), (297, 19, 317), (297, 20, 318)]
def SX (M : zM) : Prop := (∀ q ∈ zXk, zk M q.1 = q.2) ∧ ∀ q ∈ zXf, zr M q.1 q.2.1 = some q.2.2
theorem SX_of {M M' : zM} (h : SX M) (hk : ∀ a, a < 327 → zk M' a = zk M a) (hr : ∀ a f, 136 ≤ a → a < 327 → zr M' a f = zr M a f) : SX M' := by
  have b1 : ∀ q ∈ zXk, q.1 < 327 := by decide +kernel
  have b2 : ∀ q ∈ zXf, 136 ≤ q.1 ∧ q.1 < 327 := by decide +kernel
  exact ⟨fun q hq => (hk _ (b1 q hq)).trans (h.1 q hq), fun q hq => (hr _ _ (b2 q hq).1 (b2 q hq).2).trans (h.2 q hq)⟩
section SXR
variable {M : zM}
theorem xk_136 (h : SX M) : zk M 136 = (8, 0) := h.1 (136, 8, 0) (List.mem_of_getElem? (i := 0) rfl)
theorem xk_stepMany (h : SX M) : zk M 137 = (20, 6) := h.1 (137, 20, 6) (List.mem_of_getElem? (i := 3) rfl)
theorem xf_stepMany (h : SX M) : zr M 136 1 = some 137 := h.2 (136, 1, 137) (List.mem_of_getElem? (i := 0) rfl)
theorem xk_pivots (h : SX M) : zk M 138 = (20, 6) := h.1 (138, 20, 6) (List.mem_of_getElem? (i := 4) rfl)
theorem xf_pivots (h : SX M) : zr M 136 2 = some 138 := h.2 (136, 2, 138) (List.mem_of_getElem? (i := 1) rfl)
theorem xk_balances (h : SX M) : zk M 174 = (20, 6) := h.1 (174, 20, 6) (List.mem_of_getElem? (i := 5) rfl)
theorem xf_balances (h : SX M) : zr M 136 8 = some 174 := h.2 (136, 8, 174) (List.mem_of_getElem? (i := 2) rfl)
theorem xk_states (h : SX M) : zk M 175 = (20, 3) := h.1 (175, 20, 3) (List.mem_of_getElem? (i := 6) rfl)
theorem xf_states (h : SX M) : zr M 136 11 = some 175 := h.2 (136, 11, 175) (List.mem_of_getElem? (i := 3) rfl)
theorem xk_textOf (h : SX M) : zk M 176 = (20, 3) := h.1 (176, 20, 3) (List.mem_of_getElem? (i := 7) rfl)
theorem xf_textOf (h : SX M) : zr M 136 12 = some 176 := h.2 (136, 12, 176) (List.mem_of_getElem? (i := 4) rfl)
theorem xk_acts (h : SX M) : zk M 205 = (20, 240) := h.1 (205, 20, 240) (List.mem_of_getElem? (i := 8) rfl)
theorem xf_acts (h : SX M) : zr M 136 26 = some 205 := h.2 (136, 26, 205) (List.mem_of_getElem? (i := 5) rfl)
theorem xk_whose (h : SX M) : zk M 206 = (20, 240) := h.1 (206, 20, 240) (List.mem_of_getElem? (i := 9) rfl)
theorem xf_whose (h : SX M) : zr M 136 27 = some 206 := h.2 (136, 27, 206) (List.mem_of_getElem? (i := 6) rfl)
theorem xk_which (h : SX M) : zk M 207 = (20, 240) := h.1 (207, 20, 240) (List.mem_of_getElem? (i := 10) rfl)
theorem xf_which (h : SX M) : zr M 136 28 = some 207 := h.2 (136, 28, 207) (List.mem_of_getElem? (i := 7) rfl)
theorem xk_tape (h : SX M) : zk M 208 = (20, 120) := h.1 (208, 20, 120) (List.mem_of_getElem? (i := 11) rfl)
theorem xf_tape (h : SX M) : zr M 136 29 = some 208 := h.2 (136, 29, 208) (List.mem_of_getElem? (i := 8) rfl)
theorem xk_sorts (h : SX M) : zk M 319 = (20, 4) := h.1 (319, 20, 4) (List.mem_of_getElem? (i := 12) rfl)
theorem xf_sorts (h : SX M) : zr M 136 45 = some 319 := h.2 (136, 45, 319) (List.mem_of_getElem? (i := 9) rfl)
theorem xk_lengths (h : SX M) : zk M 320 = (20, 4) := h.1 (320, 20, 4) (List.mem_of_getElem? (i := 13) rfl)
theorem xf_lengths (h : SX M) : zr M 136 46 = some 320 := h.2 (136, 46, 320) (List.mem_of_getElem? (i := 10) rfl)
theorem xk_passed (h : SX M) : zk M 326 = (20, 40) := h.1 (326, 20, 40) (List.mem_of_getElem? (i := 14) rfl)
theorem xf_passed (h : SX M) : zr M 136 48 = some 326 := h.2 (136, 48, 326) (List.mem_of_getElem? (i := 11) rfl)
theorem xk_ways (h : SX M) : zk M 209 = (21, 4096) := h.1 (209, 21, 4096) (List.mem_of_getElem? (i := 1) rfl)
theorem xf_ways (h : SX M) : zr M 136 39 = some 209 := h.2 (136, 39, 209) (List.mem_of_getElem? (i := 12) rfl)
theorem xk_asideSteps (h : SX M) : zk M 230 = (26, 4) := h.1 (230, 26, 4) (List.mem_of_getElem? (i := 2) rfl)
theorem xf_asideSteps (h : SX M) : zr M 136 44 = some 230 := h.2 (136, 44, 230) (List.mem_of_getElem? (i := 13) rfl)
theorem xk_kinds (h : SX M) : zk M 139 = (25, 6) := h.1 (139, 25, 6) (List.mem_of_getElem? (i := 15) rfl)
theorem xf_kinds (h : SX M) : zr M 136 3 = some 139 := h.2 (136, 3, 139) (List.mem_of_getElem? (i := 14) rfl)
theorem xr_kinds (h : SX M) {i : Nat} (hi : i < 6) : zr M 139 i = some (140 + i) := h.2 (139, i, 140 + i) ((by decide +kernel : ∀ i, i < 6 → (139, i, 140 + i) ∈ zXf) i hi)
theorem xa_kinds (h : SX M) {i : Nat} (hi : i < 6) : zk M (140 + i) = (20, 12) := h.1 (140 + i, 20, 12) ((by decide +kernel : ∀ i, i < 6 → (140 + i, 20, 12) ∈ zXk) i hi)
theorem xk_firsts (h : SX M) : zk M 146 = (25, 6) := h.1 (146, 25, 6) (List.mem_of_getElem? (i := 22) rfl)
theorem xf_firsts (h : SX M) : zr M 136 4 = some 146 := h.2 (136, 4, 146) (List.mem_of_getElem? (i := 21) rfl)
theorem xr_firsts (h : SX M) {i : Nat} (hi : i < 6) : zr M 146 i = some (147 + i) := h.2 (146, i, 147 + i) ((by decide +kernel : ∀ i, i < 6 → (146, i, 147 + i) ∈ zXf) i hi)
theorem xa_firsts (h : SX M) {i : Nat} (hi : i < 6) : zk M (147 + i) = (20, 12) := h.1 (147 + i, 20, 12) ((by decide +kernel : ∀ i, i < 6 → (147 + i, 20, 12) ∈ zXk) i hi)
theorem xk_seconds (h : SX M) : zk M 153 = (25, 6) := h.1 (153, 25, 6) (List.mem_of_getElem? (i := 29) rfl)
theorem xf_seconds (h : SX M) : zr M 136 5 = some 153 := h.2 (136, 5, 153) (List.mem_of_getElem? (i := 28) rfl)
theorem xr_seconds (h : SX M) {i : Nat} (hi : i < 6) : zr M 153 i = some (154 + i) := h.2 (153, i, 154 + i) ((by decide +kernel : ∀ i, i < 6 → (153, i, 154 + i) ∈ zXf) i hi)
theorem xa_seconds (h : SX M) {i : Nat} (hi : i < 6) : zk M (154 + i) = (20, 12) := h.1 (154 + i, 20, 12) ((by decide +kernel : ∀ i, i < 6 → (154 + i, 20, 12) ∈ zXk) i hi)
theorem xk_numbers (h : SX M) : zk M 160 = (25, 6) := h.1 (160, 25, 6) (List.mem_of_getElem? (i := 36) rfl)
theorem xf_numbers (h : SX M) : zr M 136 6 = some 160 := h.2 (136, 6, 160) (List.mem_of_getElem? (i := 35) rfl)
theorem xr_numbers (h : SX M) {i : Nat} (hi : i < 6) : zr M 160 i = some (161 + i) := h.2 (160, i, 161 + i) ((by decide +kernel : ∀ i, i < 6 → (160, i, 161 + i) ∈ zXf) i hi)
theorem xa_numbers (h : SX M) {i : Nat} (hi : i < 6) : zk M (161 + i) = (20, 12) := h.1 (161 + i, 20, 12) ((by decide +kernel : ∀ i, i < 6 → (161 + i, 20, 12) ∈ zXk) i hi)
theorem xk_aheads (h : SX M) : zk M 167 = (25, 6) := h.1 (167, 25, 6) (List.mem_of_getElem? (i := 43) rfl)
theorem xf_aheads (h : SX M) : zr M 136 7 = some 167 := h.2 (136, 7, 167) (List.mem_of_getElem? (i := 42) rfl)
theorem xr_aheads (h : SX M) {i : Nat} (hi : i < 6) : zr M 167 i = some (168 + i) := h.2 (167, i, 168 + i) ((by decide +kernel : ∀ i, i < 6 → (167, i, 168 + i) ∈ zXf) i hi)
theorem xa_aheads (h : SX M) {i : Nat} (hi : i < 6) : zk M (168 + i) = (20, 12) := h.1 (168 + i, 20, 12) ((by decide +kernel : ∀ i, i < 6 → (168 + i, 20, 12) ∈ zXk) i hi)
theorem xk_stands (h : SX M) : zk M 177 = (25, 3) := h.1 (177, 25, 3) (List.mem_of_getElem? (i := 50) rfl)
theorem xf_stands (h : SX M) : zr M 136 13 = some 177 := h.2 (136, 13, 177) (List.mem_of_getElem? (i := 49) rfl)
theorem xr_stands (h : SX M) {i : Nat} (hi : i < 3) : zr M 177 i = some (178 + i) := h.2 (177, i, 178 + i) ((by decide +kernel : ∀ i, i < 3 → (177, i, 178 + i) ∈ zXf) i hi)
theorem xa_stands (h : SX M) {i : Nat} (hi : i < 3) : zk M (178 + i) = (20, 12) := h.1 (178 + i, 20, 12) ((by decide +kernel : ∀ i, i < 3 → (178 + i, 20, 12) ∈ zXk) i hi)
theorem xk_when (h : SX M) : zk M 181 = (25, 3) := h.1 (181, 25, 3) (List.mem_of_getElem? (i := 54) rfl)
theorem xf_when (h : SX M) : zr M 136 14 = some 181 := h.2 (136, 14, 181) (List.mem_of_getElem? (i := 53) rfl)
theorem xr_when (h : SX M) {i : Nat} (hi : i < 3) : zr M 181 i = some (182 + i) := h.2 (181, i, 182 + i) ((by decide +kernel : ∀ i, i < 3 → (181, i, 182 + i) ∈ zXf) i hi)
theorem xa_when (h : SX M) {i : Nat} (hi : i < 3) : zk M (182 + i) = (20, 12) := h.1 (182 + i, 20, 12) ((by decide +kernel : ∀ i, i < 3 → (182 + i, 20, 12) ∈ zXk) i hi)
theorem xk_by (h : SX M) : zk M 185 = (25, 3) := h.1 (185, 25, 3) (List.mem_of_getElem? (i := 58) rfl)
theorem xf_by (h : SX M) : zr M 136 15 = some 185 := h.2 (136, 15, 185) (List.mem_of_getElem? (i := 57) rfl)
theorem xr_by (h : SX M) {i : Nat} (hi : i < 3) : zr M 185 i = some (186 + i) := h.2 (185, i, 186 + i) ((by decide +kernel : ∀ i, i < 3 → (185, i, 186 + i) ∈ zXf) i hi)
theorem xa_by (h : SX M) {i : Nat} (hi : i < 3) : zk M (186 + i) = (20, 12) := h.1 (186 + i, 20, 12) ((by decide +kernel : ∀ i, i < 3 → (186 + i, 20, 12) ∈ zXk) i hi)
theorem xk_fails (h : SX M) : zk M 189 = (25, 3) := h.1 (189, 25, 3) (List.mem_of_getElem? (i := 62) rfl)
theorem xf_fails (h : SX M) : zr M 136 16 = some 189 := h.2 (136, 16, 189) (List.mem_of_getElem? (i := 61) rfl)
theorem xr_fails (h : SX M) {i : Nat} (hi : i < 3) : zr M 189 i = some (190 + i) := h.2 (189, i, 190 + i) ((by decide +kernel : ∀ i, i < 3 → (189, i, 190 + i) ∈ zXf) i hi)
theorem xa_fails (h : SX M) {i : Nat} (hi : i < 3) : zk M (190 + i) = (20, 12) := h.1 (190 + i, 20, 12) ((by decide +kernel : ∀ i, i < 3 → (190 + i, 20, 12) ∈ zXk) i hi)
theorem xk_whys (h : SX M) : zk M 193 = (25, 3) := h.1 (193, 25, 3) (List.mem_of_getElem? (i := 66) rfl)
theorem xf_whys (h : SX M) : zr M 136 17 = some 193 := h.2 (136, 17, 193) (List.mem_of_getElem? (i := 65) rfl)
theorem xr_whys (h : SX M) {i : Nat} (hi : i < 3) : zr M 193 i = some (194 + i) := h.2 (193, i, 194 + i) ((by decide +kernel : ∀ i, i < 3 → (193, i, 194 + i) ∈ zXf) i hi)
theorem xa_whys (h : SX M) {i : Nat} (hi : i < 3) : zk M (194 + i) = (20, 12) := h.1 (194 + i, 20, 12) ((by decide +kernel : ∀ i, i < 3 → (194 + i, 20, 12) ∈ zXk) i hi)
theorem xk_plans (h : SX M) : zk M 197 = (25, 3) := h.1 (197, 25, 3) (List.mem_of_getElem? (i := 70) rfl)
theorem xf_plans (h : SX M) : zr M 136 18 = some 197 := h.2 (136, 18, 197) (List.mem_of_getElem? (i := 69) rfl)
theorem xr_plans (h : SX M) {i : Nat} (hi : i < 3) : zr M 197 i = some (198 + i) := h.2 (197, i, 198 + i) ((by decide +kernel : ∀ i, i < 3 → (197, i, 198 + i) ∈ zXf) i hi)
theorem xa_plans (h : SX M) {i : Nat} (hi : i < 3) : zk M (198 + i) = (20, 12) := h.1 (198 + i, 20, 12) ((by decide +kernel : ∀ i, i < 3 → (198 + i, 20, 12) ∈ zXk) i hi)
theorem xk_undoPlans (h : SX M) : zk M 201 = (25, 3) := h.1 (201, 25, 3) (List.mem_of_getElem? (i := 74) rfl)
theorem xf_undoPlans (h : SX M) : zr M 136 19 = some 201 := h.2 (136, 19, 201) (List.mem_of_getElem? (i := 73) rfl)
theorem xr_undoPlans (h : SX M) {i : Nat} (hi : i < 3) : zr M 201 i = some (202 + i) := h.2 (201, i, 202 + i) ((by decide +kernel : ∀ i, i < 3 → (201, i, 202 + i) ∈ zXf) i hi)
theorem xa_undoPlans (h : SX M) {i : Nat} (hi : i < 3) : zk M (202 + i) = (20, 12) := h.1 (202 + i, 20, 12) ((by decide +kernel : ∀ i, i < 3 → (202 + i, 20, 12) ∈ zXk) i hi)
theorem xk_asideBalances (h : SX M) : zk M 210 = (25, 4) := h.1 (210, 25, 4) (List.mem_of_getElem? (i := 78) rfl)
theorem xf_asideBalances (h : SX M) : zr M 136 40 = some 210 := h.2 (136, 40, 210) (List.mem_of_getElem? (i := 77) rfl)
theorem xr_asideBalances (h : SX M) {i : Nat} (hi : i < 4) : zr M 210 i = some (211 + i) := h.2 (210, i, 211 + i) ((by decide +kernel : ∀ i, i < 4 → (210, i, 211 + i) ∈ zXf) i hi)
theorem xa_asideBalances (h : SX M) {i : Nat} (hi : i < 4) : zk M (211 + i) = (20, 6) := h.1 (211 + i, 20, 6) ((by decide +kernel : ∀ i, i < 4 → (211 + i, 20, 6) ∈ zXk) i hi)
theorem xk_asideNumbers (h : SX M) : zk M 215 = (25, 4) := h.1 (215, 25, 4) (List.mem_of_getElem? (i := 83) rfl)
theorem xf_asideNumbers (h : SX M) : zr M 136 41 = some 215 := h.2 (136, 41, 215) (List.mem_of_getElem? (i := 82) rfl)
theorem xr_asideNumbers (h : SX M) {i : Nat} (hi : i < 4) : zr M 215 i = some (216 + i) := h.2 (215, i, 216 + i) ((by decide +kernel : ∀ i, i < 4 → (215, i, 216 + i) ∈ zXf) i hi)
theorem xa_asideNumbers (h : SX M) {i : Nat} (hi : i < 4) : zk M (216 + i) = (20, 4) := h.1 (216 + i, 20, 4) ((by decide +kernel : ∀ i, i < 4 → (216 + i, 20, 4) ∈ zXk) i hi)
theorem xk_asideStates (h : SX M) : zk M 220 = (25, 4) := h.1 (220, 25, 4) (List.mem_of_getElem? (i := 88) rfl)
theorem xf_asideStates (h : SX M) : zr M 136 42 = some 220 := h.2 (136, 42, 220) (List.mem_of_getElem? (i := 87) rfl)
theorem xr_asideStates (h : SX M) {i : Nat} (hi : i < 4) : zr M 220 i = some (221 + i) := h.2 (220, i, 221 + i) ((by decide +kernel : ∀ i, i < 4 → (220, i, 221 + i) ∈ zXf) i hi)
theorem xa_asideStates (h : SX M) {i : Nat} (hi : i < 4) : zk M (221 + i) = (20, 3) := h.1 (221 + i, 20, 3) ((by decide +kernel : ∀ i, i < 4 → (221 + i, 20, 3) ∈ zXk) i hi)
theorem xk_asideTexts (h : SX M) : zk M 225 = (25, 4) := h.1 (225, 25, 4) (List.mem_of_getElem? (i := 93) rfl)
theorem xf_asideTexts (h : SX M) : zr M 136 43 = some 225 := h.2 (136, 43, 225) (List.mem_of_getElem? (i := 92) rfl)
theorem xr_asideTexts (h : SX M) {i : Nat} (hi : i < 4) : zr M 225 i = some (226 + i) := h.2 (225, i, 226 + i) ((by decide +kernel : ∀ i, i < 4 → (225, i, 226 + i) ∈ zXf) i hi)
theorem xa_asideTexts (h : SX M) {i : Nat} (hi : i < 4) : zk M (226 + i) = (20, 3) := h.1 (226 + i, 20, 3) ((by decide +kernel : ∀ i, i < 4 → (226 + i, 20, 3) ∈ zXk) i hi)
theorem xk_items (h : SX M) : zk M 321 = (25, 4) := h.1 (321, 25, 4) (List.mem_of_getElem? (i := 98) rfl)
theorem xf_items (h : SX M) : zr M 136 47 = some 321 := h.2 (136, 47, 321) (List.mem_of_getElem? (i := 97) rfl)
theorem xr_items (h : SX M) {i : Nat} (hi : i < 4) : zr M 321 i = some (322 + i) := h.2 (321, i, 322 + i) ((by decide +kernel : ∀ i, i < 4 → (321, i, 322 + i) ∈ zXf) i hi)
theorem xa_items (h : SX M) {i : Nat} (hi : i < 4) : zk M (322 + i) = (20, 40) := h.1 (322 + i, 20, 40) ((by decide +kernel : ∀ i, i < 4 → (322 + i, 20, 40) ∈ zXk) i hi)
theorem xr_asideSteps (h : SX M) {i : Nat} (hi : i < 4) : zr M 230 i = some (231 + 22 * i) ∧ zk M (231 + 22 * i) = (25, 21) := ⟨h.2 (230, i, 231 + 22 * i) ((by decide +kernel : ∀ i, i < 4 → (230, i, 231 + 22 * i) ∈ zXf) i hi), h.1 (231 + 22 * i, 25, 21) ((by decide +kernel : ∀ i, i < 4 → (231 + 22 * i, 25, 21) ∈ zXk) i hi)⟩
theorem xa_asideSteps (h : SX M) {i j : Nat} (hi : i < 4) (hj : j < 21) : zr M (231 + 22 * i) j = some (232 + 22 * i + j) ∧ zk M (232 + 22 * i + j) = (20, 12) := ⟨h.2 (231 + 22 * i, j, 232 + 22 * i + j) ((by decide +kernel : ∀ i, i < 4 → ∀ j, j < 21 → (231 + 22 * i, j, 232 + 22 * i + j) ∈ zXf) i hi j hj), h.1 (232 + 22 * i + j, 20, 12) ((by decide +kernel : ∀ i, i < 4 → ∀ j, j < 21 → (232 + 22 * i + j, 20, 12) ∈ zXk) i hi j hj)⟩
end SXR
/-! ===== what the cells mean ===== -/
theorem SC_of {M M' : zM} (h : SC M) (hk : ∀ a, a < 327 → zk M' a = zk M a) (hr : ∀ a f, a < 136 → ¬ zpr a f → zr M' a f = zr M a f) (hs : ∀ a j, a < 3 → zi M' a j = zi M a j) : SC M' := by
  have kk : ∀ {a t}, zk M a = t → a < 327 → zk M' a = t := fun e l => (hk _ l).trans e
  have rr : ∀ {a f t}, zr M a f = t → a < 136 → ¬ zpr a f → zr M' a f = t := fun e l n => (hr _ _ l n).trans e
  obtain ⟨h1, h2, h3, h4, h5, h6, h7, h8, h9, ha, hb, hc, hd⟩ := h
  have pPu : ∀ (u : Nat), u = 67 ∨ u = 99 → SPu M u → SPu M' u := fun u l ⟨a, b, c⟩ => ⟨kk a (by omega), rr b (by omega) (by unfold zpr; omega), kk c (by omega)⟩
  have pSg : ∀ (b s : Nat), b = 70 ∨ b = 102 → s < 3 → SSg M (b + 8 * s) → SSg M' (b + 8 * s) := fun b s l l2 ⟨a, b', c, d⟩ => ⟨kk a (by omega), rr b' (by omega) (by unfold zpr; omega), fun f hf => rr (c f hf) (by omega) (by unfold zpr; omega), fun f hf => kk (d f hf) (by omega)⟩
  have pJo : ∀ (j L : Nat), j = 62 ∨ j = 95 → SJo M j L → SJo M' j L := fun j L l ⟨a, b⟩ => ⟨kk a (by omega), fun f hf => ⟨rr (b f hf).1 (by omega) (by unfold zpr; omega), kk (b f hf).2 (by omega)⟩⟩
  have pWo : ∀ (w u j : Nat), (w = 66 ∧ u = 67) ∨ (w = 94 ∧ u = 99) → SWo M w u j → SWo M' w u j := fun w u j l ⟨a, b, c, d, e, f, g⟩ =>
    ⟨kk a (by omega), rr b (by omega) (by unfold zpr; omega), rr c (by omega) (by unfold zpr; omega), rr d (by omega) (by unfold zpr; omega), rr e (by omega) (by unfold zpr; omega), kk f (by omega), fun s hs => rr (g s hs) (by omega) (by unfold zpr; omega)⟩
  refine ⟨?_, ?_, ?_, pJo _ _ (Or.inl rfl) h4, pJo _ _ (Or.inr rfl) h5, pWo _ _ _ (Or.inl ⟨rfl, rfl⟩) h6, pWo _ _ _ (Or.inr ⟨rfl, rfl⟩) h7, pPu _ (Or.inl rfl) h8, pPu _ (Or.inr rfl) h9, fun s hs => pSg _ s (Or.inl rfl) hs (ha s hs), fun s hs => pSg _ s (Or.inr rfl) hs (hb s hs), ?_, ?_⟩
  · obtain ⟨a1, a2, a3, a4, a5, a6, a7, a8, a9, aa, ab, ac, ad⟩ := h1
    exact ⟨kk a1 (by omega), rr a2 (by omega) (by unfold zpr; omega), rr a3 (by omega) (by unfold zpr; omega), kk a4 (by omega), fun i hi => rr (a5 i hi) (by omega) (by unfold zpr; omega), rr a6 (by omega) (by unfold zpr; omega), rr a7 (by omega) (by unfold zpr; omega), rr a8 (by omega) (by unfold zpr; omega), rr a9 (by omega) (by unfold zpr; omega), kk aa (by omega), fun i hi => rr (ab i hi) (by omega) (by unfold zpr; omega), rr ac (by omega) (by unfold zpr; omega), kk ad (by omega)⟩
  · obtain ⟨a1, a2, a3⟩ := h2
    exact ⟨kk a1 (by omega), rr a2 (by omega) (by unfold zpr; omega), kk a3 (by omega)⟩
  · intro i hi
    obtain ⟨a1, a2⟩ := h3 i hi
    exact ⟨kk a1 (by omega), fun f hf => ⟨rr (a2 f hf).1 (by omega) (by unfold zpr; omega), kk (a2 f hf).2 (by omega)⟩⟩
  · intro i hi
    obtain ⟨a1, a2, a3⟩ := hc i hi
    exact ⟨kk a1 (by omega), rr a2 (by omega) (by unfold zpr; omega), kk a3 (by omega)⟩
  · exact ⟨kk hd.1 (by omega), kk hd.2.1 (by omega), fun j => (hs 1 j (by omega)).trans (hd.2.2.1 j), fun j => (hs 2 j (by omega)).trans (hd.2.2.2 j)⟩
theorem SC_wi {M : zM} {a k : Nat} {v : Int32} (h : SC M) (ha : 3 ≤ a) : SC (zwi M a k v) := SC_of h (fun _ _ => rfl) (fun _ _ _ _ => rfl) (fun b j hb => wi_n (Or.inl (by omega)))
theorem SC_wr {M : zM} {a k : Nat} {v : Option Nat} (h : SC M) (ha : zpr a k) : SC (zwr M a k v) := SC_of h (fun _ _ => rfl) (fun b f _ hb => by rw [wr_eq, if_neg (by rintro ⟨rfl, rfl⟩; exact hb ha)]) (fun _ _ _ => rfl)
theorem SC_cp {M : zM} {a0 s a d n : Nat} (h : SC M) (ha : 3 ≤ a) : SC (zcp M a0 s a d n) := SC_of h (fun _ _ => rfl) (fun _ _ _ _ => rfl) (fun b j hb => by rw [cp_eq, if_neg (by omega)])
/-- texts -/
def RP (M : zM) (a : Nat) (T : yT) : Prop := zi M a 6 = nI (tn T) ∧ zi M a 7 = tp T ∧ ∀ k, k < tn T → zi M (a + 1) k = nI (tk T k) ∧ zi M (a + 2) k = tf T k ∧ zi M (a + 3) k = ts T k ∧ zi M (a + 4) k = tu T k ∧ zi M (a + 5) k = nI (ta T k)
def RTx (M : zM) (T : Nat → yT) (c : Nat) : Prop := ∀ i, i < c → RP M (20 + 7 * i) (T i)
/-- a purse at u -/
def RPu (M : zM) (u : Nat) (P : yP) : Prop := (∀ k, k < 6 → zi M (u + 1) k = P.1 k) ∧ zi M u 1 = P.2.1 ∧ zi M u 2 = P.2.2
def txt (S : yS) : Int32 := if gt S = 0 then -1 else nI (gx S)
def prg (S : yS) : Option Nat := if gt S = 0 then none else some (20 + 7 * gx S)
/-- a saga at a -/
def RS (M : zM) (a : Nat) (T : Nat → yT) (nm : Nat → Int32) (S : yS) : Prop :=
  (zi M a 0 = nI (gt S) ∧ zi M a 1 = txt S ∧ zr M a 2 = prg S) ∧ (zi M a 3 = nI (gm S 1) ∧ zi M a 4 = nI (gm S 2) ∧ zi M a 5 = nI (gm S 3)) ∧ (zi M a 7 = nI (go S).length ∧
  ∀ k, k < (go S).length → zi M (a + 1) k = nI ((go S).getD ((go S).length - 1 - k) 0)) ∧ (∀ k, k < gz T S → zi M (a + 2) k = nm k) ∧ (∀ k, k < 12 → gd S k = 1 → zi M (a + 3) k = gb S k) ∧
  ∀ k, k < 12 → zi M (a + 4) k = gp S k ∧ zi M (a + 5) k = gq S k ∧ zi M (a + 6) k = gf S k ∧ zi M (a + 7) k = gw S k
/-- the log at j -/
def RL (M : zM) (j : Nat) (L : List yL) : Prop := zi M j 3 = nI L.length ∧ ∀ k, k < L.length → zi M (j + 1) k = nI (L.getD k (0, 0, 0)).1 ∧ zi M (j + 2) k = nI (L.getD k (0, 0, 0)).2.1 ∧ zi M (j + 3) k = nI (L.getD k (0, 0, 0)).2.2
/-- the two worlds: from which cell on, the world, its purse, its journal -/
def Wd (lo w u j : Nat) : Prop := (lo = 62 ∧ w = 66 ∧ u = 67 ∧ j = 62) ∨ (lo = 94 ∧ w = 94 ∧ u = 99 ∧ j = 95)
def RJ (M : zM) (j : Nat) (g : Option (List yL)) : Prop := match g with
  | none => j = 95
  | some L => j = 62 ∧ RL M 62 L
def RW (M : zM) (u j : Nat) (T : Nat → yT) (nm : Nat → Nat → Int32) (X : yX) : Prop := RPu M u X.1.1 ∧ (∀ s, s < 3 → RS M (u + 3 + 8 * s) T (nm s) (X.1.2 s)) ∧ RJ M j X.2
/-- cells from lo on, below hi -/
def Fb (lo hi : Nat) : Nat → Nat → Prop := fun a _ => lo ≤ a ∧ a < hi
theorem Fb_m {lo hi lo' hi' : Nat} (h1 : lo' ≤ lo) (h2 : hi ≤ hi') : ∀ a k, Fb lo hi a k → Fb lo' hi' a k := fun _ _ h => ⟨Nat.le_trans h1 h.1, Nat.lt_of_lt_of_le h.2 h2⟩
theorem RP_fr {M M' : zM} {S : Nat → Nat → Prop} {a : Nat} {T : yT} (h : RP M a T) (f : Fr S M M') (hs : ∀ b k, a ≤ b → b < a + 6 → ¬ S b k) : RP M' a T :=
  ⟨(f.i (hs _ _ (by omega) (by omega))).trans h.1, (f.i (hs _ _ (by omega) (by omega))).trans h.2.1, fun k hk => ⟨(f.i (hs _ _ (by omega) (by omega))).trans (h.2.2 k hk).1, (f.i (hs _ _ (by omega) (by omega))).trans (h.2.2 k hk).2.1, (f.i (hs _ _ (by omega) (by omega))).trans (h.2.2 k hk).2.2.1, (f.i (hs _ _ (by omega) (by omega))).trans (h.2.2 k hk).2.2.2.1, (f.i (hs _ _ (by omega) (by omega))).trans (h.2.2 k hk).2.2.2.2⟩⟩
theorem RTx_fr {M M' : zM} {S : Nat → Nat → Prop} {T : Nat → yT} {c : Nat} (h : RTx M T c) (hc : c ≤ 6) (f : Fr S M M') (hs : ∀ b k, 20 ≤ b → b < 62 → ¬ S b k) : RTx M' T c :=
  fun i hi => RP_fr (h i hi) f (fun b k h1 h2 => hs b k (by omega) (by omega))
theorem RPu_fr {M M' : zM} {S : Nat → Nat → Prop} {u : Nat} {P : yP} (h : RPu M u P) (f : Fr S M M') (hs : ∀ b k, u ≤ b → b < u + 2 → ¬ S b k) : RPu M' u P :=
  ⟨fun k hk => (f.i (hs _ _ (by omega) (by omega))).trans (h.1 k hk), (f.i (hs _ _ (by omega) (by omega))).trans h.2.1, (f.i (hs _ _ (by omega) (by omega))).trans h.2.2⟩
theorem RL_fr {M M' : zM} {S : Nat → Nat → Prop} {j : Nat} {L : List yL} (h : RL M j L) (f : Fr S M M') (hs : ∀ b k, j ≤ b → b < j + 4 → ¬ S b k) : RL M' j L :=
  ⟨(f.i (hs _ _ (by omega) (by omega))).trans h.1, fun k hk => ⟨(f.i (hs _ _ (by omega) (by omega))).trans (h.2 k hk).1, (f.i (hs _ _ (by omega) (by omega))).trans (h.2 k hk).2.1, (f.i (hs _ _ (by omega) (by omega))).trans (h.2 k hk).2.2⟩⟩
theorem RJ_fr {M M' : zM} {S : Nat → Nat → Prop} {j : Nat} {g : Option (List yL)} (h : RJ M j g) (f : Fr S M M') (hs : ∀ b k, 62 ≤ b → b < 66 → ¬ S b k) : RJ M' j g := by
  cases g with
  | none => exact h
  | some L => exact ⟨h.1, RL_fr h.2 f hs⟩
theorem RS_fr {M M' : zM} {S : Nat → Nat → Prop} {a : Nat} {T : Nat → yT} {nm : Nat → Int32} {s : yS} (h : RS M a T nm s) (f : Fr S M M') (hs : ∀ b k, a ≤ b → b < a + 8 → ¬ S b k) : RS M' a T nm s := by
  have g : ∀ b k, a ≤ b → b < a + 8 → zi M' b k = zi M b k := fun b k h1 h2 => f.i (hs b k h1 h2)
  obtain ⟨⟨h1, h2, h3⟩, ⟨h4, h5, h6⟩, ⟨h7, h8⟩, h9, ha, hb⟩ := h
  exact ⟨⟨(g _ _ (by omega) (by omega)).trans h1, (g _ _ (by omega) (by omega)).trans h2, (f.r (hs _ _ (by omega) (by omega))).trans h3⟩, ⟨(g _ _ (by omega) (by omega)).trans h4, (g _ _ (by omega) (by omega)).trans h5, (g _ _ (by omega) (by omega)).trans h6⟩,
    ⟨(g _ _ (by omega) (by omega)).trans h7, fun k hk => (g _ _ (by omega) (by omega)).trans (h8 k hk)⟩, fun k hk => (g _ _ (by omega) (by omega)).trans (h9 k hk), fun k hk he => (g _ _ (by omega) (by omega)).trans (ha k hk he),
    fun k hk => ⟨(g _ _ (by omega) (by omega)).trans (hb k hk).1, (g _ _ (by omega) (by omega)).trans (hb k hk).2.1, (g _ _ (by omega) (by omega)).trans (hb k hk).2.2.1, (g _ _ (by omega) (by omega)).trans (hb k hk).2.2.2⟩⟩
/-- masks -/
theorem ymk_bit (f : Nat → Bool) : ∀ n i, (ymk f n).testBit i = (decide (i < n) && f i)
  | 0, i => by simp [ymk]
  | n + 1, i => by
    rw [ymk, Nat.testBit_or, ymk_bit f n i]
    by_cases h : i = n
    · subst h
      cases h2 : f i <;> simp [h2, Nat.testBit_two_pow_self]
    · have e : (if f n = true then 2 ^ n else 0).testBit i = false := by
        split
        · rw [Nat.testBit_two_pow]; exact decide_eq_false (fun q => h q.symm)
        · exact Nat.zero_testBit i
      rw [e, Bool.or_false, show decide (i < n + 1) = decide (i < n) by simp only [decide_eq_decide]; omega]
theorem ymk_lt (f : Nat → Bool) (n : Nat) : ymk f n < 2 ^ n := by
  apply Nat.lt_pow_two_of_testBit
  intro i hi
  rw [ymk_bit, decide_eq_false (by omega)]; rfl
theorem ymk_eq {f g : Nat → Bool} {n m : Nat} (h : ∀ i, (decide (i < n) && f i) = (decide (i < m) && g i)) : ymk f n = ymk g m := by
  apply Nat.eq_of_testBit_eq
  intro i
  rw [ymk_bit, ymk_bit]; exact h i
theorem ymk_is {f : Nat → Bool} {n x : Nat} (h : ∀ i, x.testBit i = (decide (i < n) && f i)) : x = ymk f n := by
  apply Nat.eq_of_testBit_eq
  intro i
  rw [ymk_bit]; exact h i
theorem gm_lt (S : yS) (v : Nat) : gm S v < 4096 := ymk_lt _ 12
theorem gm_bit (S : yS) (v i : Nat) : (gm S v).testBit i = (decide (i < 12) && gd S i == v) := ymk_bit _ _ _
end
section
/-! ===== contracts: statics ===== -/
theorem bK1 {Q : Option Value → zM → Prop} {M : zM} {p : Bool} (k : Q (some (.int (bI p))) M) (h : p = true) : Q (some (.int (nI 1))) M := by subst h; exact k
theorem bK0 {Q : Option Value → zM → Prop} {M : zM} {p : Bool} (k : Q (some (.int (bI p))) M) (h : p = false) : Q (some (.int (nI 0))) M := by subst h; exact k
theorem nK {Q : Option Value → zM → Prop} {M : zM} {x y : Int32} (k : Q (some (.int x)) M) (h : y = x) : Q (some (.int y)) M := by subst h; exact k
theorem mK {Q : Option Value → zM → Prop} {v : Option Value} {M M' : zM} (k : Q v M) (h : M' = M) : Q v M' := by subst h; exact k
theorem d10_0 : decode (zB 10) 0 = .ok (.iload_n 0, 1) := by decide +kernel
theorem d10_1 : decode (zB 10) 1 = .ok (.iload_n 1, 1) := by decide +kernel
theorem d10_2 : decode (zB 10) 2 = .ok (.if_icmp .lt 12, 3) := by decide +kernel
theorem d10_5 : decode (zB 10) 5 = .ok (.iload_n 0, 1) := by decide +kernel
theorem d10_6 : decode (zB 10) 6 = .ok (.iload_n 2, 1) := by decide +kernel
theorem d10_7 : decode (zB 10) 7 = .ok (.if_icmp .gt 7, 3) := by decide +kernel
theorem d10_10 : decode (zB 10) 10 = .ok (.iconst 1, 1) := by decide +kernel
theorem d10_11 : decode (zB 10) 11 = .ok (.goto 4, 3) := by decide +kernel
theorem d10_14 : decode (zB 10) 14 = .ok (.iconst 0, 1) := by decide +kernel
theorem d10_15 : decode (zB 10) 15 = .ok (.ireturn, 1) := by decide +kernel
theorem c10 {d : Nat} {M : zM} {Q : Option Value → zM → Prop} {a b c : Int32} (kt : b ≤ a ∧ a ≤ c → Q (some (.int (nI 1))) M) (kf : ¬ (b ≤ a ∧ a ≤ c) → Q (some (.int (nI 0))) M) : qC (d + 1) 10 [.int a, .int b, .int c] M Q := by
  refine qC_of (by decide) (Nat.le_of_ble_eq_true rfl) ?_
  refine q_iload_n d10_0 rfl ?_
  refine q_iload_n d10_1 rfl ?_
  refine ic_lt 14 d10_2 (by decide) (fun h2 => ?_) (fun h2 => ?_)
  · refine q_iconstN (z := 0) d10_14 ?_
    refine q_zret d10_15 rfl (by decide) ?_
    exact kf (by simp only [Int32.le_iff_toInt_le, Int32.lt_iff_toInt_lt] at *; omega)
  · refine q_iload_n d10_5 rfl ?_
    refine q_iload_n d10_6 rfl ?_
    refine ic_gt 14 d10_7 (by decide) (fun h7 => ?_) (fun h7 => ?_)
    · refine q_iconstN (z := 0) d10_14 ?_
      refine q_zret d10_15 rfl (by decide) ?_
      exact kf (by simp only [Int32.le_iff_toInt_le, Int32.lt_iff_toInt_lt] at *; omega)
    · refine q_iconstN (z := 1) d10_10 ?_
      refine q_goto 15 d10_11 (by decide) ?_
      refine q_zret d10_15 rfl (by decide) ?_
      exact kt (by simp only [Int32.le_iff_toInt_le, Int32.lt_iff_toInt_lt] at *; omega)
theorem c10t {d : Nat} {M : zM} {Q : Option Value → zM → Prop} {x a b : Nat} (h : a ≤ x ∧ x ≤ b) (hb : b < 2147483648) (k : Q (some (.int (nI 1))) M) : qC (d + 1) 10 [.int (nI x), .int (nI a), .int (nI b)] M Q :=
  c10 (fun _ => k) (fun q => absurd ⟨nI_le h.1 (by omega), nI_le h.2 (by omega)⟩ q)
theorem c10n {d : Nat} {M : zM} {Q : Option Value → zM → Prop} {x a b : Nat} (h : ¬ (a ≤ x ∧ x ≤ b)) (ha : a < 2147483648) (hx : x < 2147483648) (hb : b < 2147483648) (k : Q (some (.int (nI 0))) M) : qC (d + 1) 10 [.int (nI x), .int (nI a), .int (nI b)] M Q :=
  c10 (fun q => absurd ⟨(nI_leI ha hx).mp q.1, (nI_leI hx hb).mp q.2⟩ h) (fun _ => k)
theorem c10f {d : Nat} {M : zM} {Q : Option Value → zM → Prop} {x : Int32} {a b : Nat} (hb : b < 2147483648) (h : ¬ ((a : Int) ≤ x.toInt ∧ x.toInt ≤ b)) (ha : a < 2147483648) (k : Q (some (.int (nI 0))) M) : qC (d + 1) 10 [.int x, .int (nI a), .int (nI b)] M Q :=
  c10 (fun q => absurd (by
    have h1 := Int32.le_iff_toInt_le.mp q.1
    have h2 := Int32.le_iff_toInt_le.mp q.2
    rw [nI_toInt (by omega)] at h1 h2
    exact ⟨h1, h2⟩) h) (fun _ => k)
theorem c10z {d : Nat} {M : zM} {Q : Option Value → zM → Prop} {x : Int32} {b : Nat} (hb : b < 2147483647) (k : Q (some (.int (bI (zix x (b + 1)).isSome))) M) : qC (d + 1) 10 [.int x, .int (nI 0), .int (nI b)] M Q := by
  rcases zix_c x (n := b + 1) (by omega) with ⟨j, hj, rfl, e⟩ | ⟨e, hn⟩
  · rw [e] at k; exact c10t ⟨by omega, by omega⟩ (by omega) k
  · rw [e] at k; exact c10f (by omega) (by omega) (by omega) k
/-- from 0 to one less -/
theorem c10s {d : Nat} {M : zM} {Q : Option Value → zM → Prop} {x : Int32} {b : Nat} (hb : b < 2147483648) (k : Q (some (.int (bI (zix x b).isSome))) M) : qC (d + 1) 10 [.int x, .int (nI 0), .int (nI b - nI 1)] M Q := by
  rcases Nat.eq_zero_or_pos b with rfl | h0
  · have e : (zix x 0).isSome = false := by
      cases h : zix x 0 with
      | none => rfl
      | some j => exact absurd (zix_some h).1 (by omega)
    rw [e] at k
    refine c10 (fun q => absurd q ?_) (fun _ => k)
    have e1 : (nI 0 - nI 1 : Int32).toInt = -1 := by decide
    have e0 : (nI 0).toInt = 0 := by decide
    simp only [Int32.le_iff_toInt_le]
    omega
  · rw [pk_sub h0]
    have := c10z (d := d) (M := M) (Q := Q) (x := x) (b := b - 1) (by omega) (by rw [show b - 1 + 1 = b by omega]; exact k)
    exact this
theorem d131_0 : decode (zB 131) 0 = .ok (.iload_n 0, 1) := by decide +kernel
theorem d131_1 : decode (zB 131) 1 = .ok (.iload_n 1, 1) := by decide +kernel
theorem d131_2 : decode (zB 131) 2 = .ok (.if_icmp .lt 12, 3) := by decide +kernel
theorem d131_5 : decode (zB 131) 5 = .ok (.iload_n 0, 1) := by decide +kernel
theorem d131_6 : decode (zB 131) 6 = .ok (.iload_n 2, 1) := by decide +kernel
theorem d131_7 : decode (zB 131) 7 = .ok (.if_icmp .gt 7, 3) := by decide +kernel
theorem d131_10 : decode (zB 131) 10 = .ok (.iconst 1, 1) := by decide +kernel
theorem d131_11 : decode (zB 131) 11 = .ok (.goto 4, 3) := by decide +kernel
theorem d131_14 : decode (zB 131) 14 = .ok (.iconst 0, 1) := by decide +kernel
theorem d131_15 : decode (zB 131) 15 = .ok (.ireturn, 1) := by decide +kernel
theorem c131 {d : Nat} {M : zM} {Q : Option Value → zM → Prop} {a b c : Int32} (kt : b ≤ a ∧ a ≤ c → Q (some (.int (nI 1))) M) (kf : ¬ (b ≤ a ∧ a ≤ c) → Q (some (.int (nI 0))) M) : qC (d + 1) 131 [.int a, .int b, .int c] M Q := by
  refine qC_of (by decide) (Nat.le_of_ble_eq_true rfl) ?_
  refine q_iload_n d131_0 rfl ?_
  refine q_iload_n d131_1 rfl ?_
  refine ic_lt 14 d131_2 (by decide) (fun h2 => ?_) (fun h2 => ?_)
  · refine q_iconstN (z := 0) d131_14 ?_
    refine q_zret d131_15 rfl (by decide) ?_
    exact kf (by simp only [Int32.le_iff_toInt_le, Int32.lt_iff_toInt_lt] at *; omega)
  · refine q_iload_n d131_5 rfl ?_
    refine q_iload_n d131_6 rfl ?_
    refine ic_gt 14 d131_7 (by decide) (fun h7 => ?_) (fun h7 => ?_)
    · refine q_iconstN (z := 0) d131_14 ?_
      refine q_zret d131_15 rfl (by decide) ?_
      exact kf (by simp only [Int32.le_iff_toInt_le, Int32.lt_iff_toInt_lt] at *; omega)
    · refine q_iconstN (z := 1) d131_10 ?_
      refine q_goto 15 d131_11 (by decide) ?_
      refine q_zret d131_15 rfl (by decide) ?_
      exact kt (by simp only [Int32.le_iff_toInt_le, Int32.lt_iff_toInt_lt] at *; omega)
theorem c131t {d : Nat} {M : zM} {Q : Option Value → zM → Prop} {x a b : Nat} (h : a ≤ x ∧ x ≤ b) (hb : b < 2147483648) (k : Q (some (.int (nI 1))) M) : qC (d + 1) 131 [.int (nI x), .int (nI a), .int (nI b)] M Q :=
  c131 (fun _ => k) (fun q => absurd ⟨nI_le h.1 (by omega), nI_le h.2 (by omega)⟩ q)
theorem c131n {d : Nat} {M : zM} {Q : Option Value → zM → Prop} {x a b : Nat} (h : ¬ (a ≤ x ∧ x ≤ b)) (ha : a < 2147483648) (hx : x < 2147483648) (hb : b < 2147483648) (k : Q (some (.int (nI 0))) M) : qC (d + 1) 131 [.int (nI x), .int (nI a), .int (nI b)] M Q :=
  c131 (fun q => absurd ⟨(nI_leI ha hx).mp q.1, (nI_leI hx hb).mp q.2⟩ h) (fun _ => k)
theorem c131f {d : Nat} {M : zM} {Q : Option Value → zM → Prop} {x : Int32} {a b : Nat} (hb : b < 2147483648) (h : ¬ ((a : Int) ≤ x.toInt ∧ x.toInt ≤ b)) (ha : a < 2147483648) (k : Q (some (.int (nI 0))) M) : qC (d + 1) 131 [.int x, .int (nI a), .int (nI b)] M Q :=
  c131 (fun q => absurd (by
    have h1 := Int32.le_iff_toInt_le.mp q.1
    have h2 := Int32.le_iff_toInt_le.mp q.2
    rw [nI_toInt (by omega)] at h1 h2
    exact ⟨h1, h2⟩) h) (fun _ => k)
theorem c131z {d : Nat} {M : zM} {Q : Option Value → zM → Prop} {x : Int32} {b : Nat} (hb : b < 2147483647) (k : Q (some (.int (bI (zix x (b + 1)).isSome))) M) : qC (d + 1) 131 [.int x, .int (nI 0), .int (nI b)] M Q := by
  rcases zix_c x (n := b + 1) (by omega) with ⟨j, hj, rfl, e⟩ | ⟨e, hn⟩
  · rw [e] at k; exact c131t ⟨by omega, by omega⟩ (by omega) k
  · rw [e] at k; exact c131f (by omega) (by omega) (by omega) k
/-- from 0 to one less -/
theorem c131s {d : Nat} {M : zM} {Q : Option Value → zM → Prop} {x : Int32} {b : Nat} (hb : b < 2147483648) (k : Q (some (.int (bI (zix x b).isSome))) M) : qC (d + 1) 131 [.int x, .int (nI 0), .int (nI b - nI 1)] M Q := by
  rcases Nat.eq_zero_or_pos b with rfl | h0
  · have e : (zix x 0).isSome = false := by
      cases h : zix x 0 with
      | none => rfl
      | some j => exact absurd (zix_some h).1 (by omega)
    rw [e] at k
    refine c131 (fun q => absurd q ?_) (fun _ => k)
    have e1 : (nI 0 - nI 1 : Int32).toInt = -1 := by decide
    have e0 : (nI 0).toInt = 0 := by decide
    simp only [Int32.le_iff_toInt_le]
    omega
  · rw [pk_sub h0]
    have := c131z (d := d) (M := M) (Q := Q) (x := x) (b := b - 1) (by omega) (by rw [show b - 1 + 1 = b by omega]; exact k)
    exact this
theorem d11_0 : decode (zB 11) 0 = .ok (.iload_n 0, 1) := by decide +kernel
theorem d11_1 : decode (zB 11) 1 = .ok (.iconst 0, 1) := by decide +kernel
theorem d11_2 : decode (zB 11) 2 = .ok (.sipush 255, 3) := by decide +kernel
theorem d11_5 : decode (zB 11) 5 = .ok (.invokestatic 55, 3) := by decide +kernel
theorem d11_8 : decode (zB 11) 8 = .ok (.ireturn, 1) := by decide +kernel
theorem c11 {d : Nat} {M : zM} {Q : Option Value → zM → Prop} {x : Int32} (k : Q (some (.int (bI (zix x 256).isSome))) M) : qC (d + 2) 11 [.int x] M Q := by
  refine qC_of (by decide) (Nat.le_of_ble_eq_true rfl) ?_
  refine q_iload_n d11_0 rfl ?_
  refine q_iconstN (z := 0) d11_1 ?_
  refine q_sipush (x := nI 255) d11_2 rfl ?_
  refine q_s3 d11_5 (Or.inl rfl) rfl (Nat.le_of_ble_eq_true rfl) (c10z (by omega) ?_)
  refine b_ret d11_8 rfl ?_
  exact k
theorem c11t {d : Nat} {M : zM} {Q : Option Value → zM → Prop} {x : Nat} (h : x < 256) (k : Q (some (.int (nI 1))) M) : qC (d + 2) 11 [.int (nI x)] M Q := c11 (by rw [zix_in h (by omega)]; exact k)
theorem c11f {d : Nat} {M : zM} {Q : Option Value → zM → Prop} {x : Int32} (h : zix x 256 = none) (k : Q (some (.int (nI 0))) M) : qC (d + 2) 11 [.int x] M Q := c11 (by rw [h]; exact k)
theorem d26_0 : decode (zB 26) 0 = .ok (.iload_n 0, 1) := by decide +kernel
theorem d26_1 : decode (zB 26) 1 = .ok (.iconst 0, 1) := by decide +kernel
theorem d26_2 : decode (zB 26) 2 = .ok (.iconst 5, 1) := by decide +kernel
theorem d26_3 : decode (zB 26) 3 = .ok (.invokestatic 55, 3) := by decide +kernel
theorem d26_6 : decode (zB 26) 6 = .ok (.ireturn, 1) := by decide +kernel
theorem c26 {d : Nat} {M : zM} {Q : Option Value → zM → Prop} {x : Int32} (k : Q (some (.int (bI (zix x 6).isSome))) M) : qC (d + 2) 26 [.int x] M Q := by
  refine qC_of (by decide) (Nat.le_of_ble_eq_true rfl) ?_
  refine q_iload_n d26_0 rfl ?_
  refine q_iconstN (z := 0) d26_1 ?_
  refine q_iconstN (z := 5) d26_2 ?_
  refine q_s3 d26_3 (Or.inl rfl) rfl (Nat.le_of_ble_eq_true rfl) (c10z (by omega) ?_)
  refine b_ret d26_6 rfl ?_
  exact k
theorem c26t {d : Nat} {M : zM} {Q : Option Value → zM → Prop} {x : Nat} (h : x < 6) (k : Q (some (.int (nI 1))) M) : qC (d + 2) 26 [.int (nI x)] M Q := c26 (by rw [zix_in h (by omega)]; exact k)
theorem c26f {d : Nat} {M : zM} {Q : Option Value → zM → Prop} {x : Int32} (h : zix x 6 = none) (k : Q (some (.int (nI 0))) M) : qC (d + 2) 26 [.int x] M Q := c26 (by rw [h]; exact k)
theorem d60_0 : decode (zB 60) 0 = .ok (.iload_n 0, 1) := by decide +kernel
theorem d60_1 : decode (zB 60) 1 = .ok (.iconst 0, 1) := by decide +kernel
theorem d60_2 : decode (zB 60) 2 = .ok (.iconst 2, 1) := by decide +kernel
theorem d60_3 : decode (zB 60) 3 = .ok (.invokestatic 55, 3) := by decide +kernel
theorem d60_6 : decode (zB 60) 6 = .ok (.ireturn, 1) := by decide +kernel
theorem c60 {d : Nat} {M : zM} {Q : Option Value → zM → Prop} {x : Int32} (k : Q (some (.int (bI (zix x 3).isSome))) M) : qC (d + 2) 60 [.int x] M Q := by
  refine qC_of (by decide) (Nat.le_of_ble_eq_true rfl) ?_
  refine q_iload_n d60_0 rfl ?_
  refine q_iconstN (z := 0) d60_1 ?_
  refine q_iconstN (z := 2) d60_2 ?_
  refine q_s3 d60_3 (Or.inl rfl) rfl (Nat.le_of_ble_eq_true rfl) (c10z (by omega) ?_)
  refine b_ret d60_6 rfl ?_
  exact k
theorem c60t {d : Nat} {M : zM} {Q : Option Value → zM → Prop} {x : Nat} (h : x < 3) (k : Q (some (.int (nI 1))) M) : qC (d + 2) 60 [.int (nI x)] M Q := c60 (by rw [zix_in h (by omega)]; exact k)
theorem c60f {d : Nat} {M : zM} {Q : Option Value → zM → Prop} {x : Int32} (h : zix x 3 = none) (k : Q (some (.int (nI 0))) M) : qC (d + 2) 60 [.int x] M Q := c60 (by rw [h]; exact k)
theorem d113_0 : decode (zB 113) 0 = .ok (.iload_n 0, 1) := by decide +kernel
theorem d113_1 : decode (zB 113) 1 = .ok (.iconst 0, 1) := by decide +kernel
theorem d113_2 : decode (zB 113) 2 = .ok (.iconst 3, 1) := by decide +kernel
theorem d113_3 : decode (zB 113) 3 = .ok (.invokestatic 55, 3) := by decide +kernel
theorem d113_6 : decode (zB 113) 6 = .ok (.ireturn, 1) := by decide +kernel
theorem c113 {d : Nat} {M : zM} {Q : Option Value → zM → Prop} {x : Int32} (k : Q (some (.int (bI (zix x 4).isSome))) M) : qC (d + 2) 113 [.int x] M Q := by
  refine qC_of (by decide) (Nat.le_of_ble_eq_true rfl) ?_
  refine q_iload_n d113_0 rfl ?_
  refine q_iconstN (z := 0) d113_1 ?_
  refine q_iconstN (z := 3) d113_2 ?_
  refine q_s3 d113_3 (Or.inl rfl) rfl (Nat.le_of_ble_eq_true rfl) (c10z (by omega) ?_)
  refine b_ret d113_6 rfl ?_
  exact k
theorem c113t {d : Nat} {M : zM} {Q : Option Value → zM → Prop} {x : Nat} (h : x < 4) (k : Q (some (.int (nI 1))) M) : qC (d + 2) 113 [.int (nI x)] M Q := c113 (by rw [zix_in h (by omega)]; exact k)
theorem c113f {d : Nat} {M : zM} {Q : Option Value → zM → Prop} {x : Int32} (h : zix x 4 = none) (k : Q (some (.int (nI 0))) M) : qC (d + 2) 113 [.int x] M Q := c113 (by rw [h]; exact k)
theorem d132_0 : decode (zB 132) 0 = .ok (.iload_n 0, 1) := by decide +kernel
theorem d132_1 : decode (zB 132) 1 = .ok (.iconst 0, 1) := by decide +kernel
theorem d132_2 : decode (zB 132) 2 = .ok (.sipush 255, 3) := by decide +kernel
theorem d132_5 : decode (zB 132) 5 = .ok (.invokestatic 112, 3) := by decide +kernel
theorem d132_8 : decode (zB 132) 8 = .ok (.ireturn, 1) := by decide +kernel
theorem c132 {d : Nat} {M : zM} {Q : Option Value → zM → Prop} {x : Int32} (k : Q (some (.int (bI (zix x 256).isSome))) M) : qC (d + 2) 132 [.int x] M Q := by
  refine qC_of (by decide) (Nat.le_of_ble_eq_true rfl) ?_
  refine q_iload_n d132_0 rfl ?_
  refine q_iconstN (z := 0) d132_1 ?_
  refine q_sipush (x := nI 255) d132_2 rfl ?_
  refine q_s3 d132_5 (Or.inl rfl) rfl (Nat.le_of_ble_eq_true rfl) (c131z (by omega) ?_)
  refine b_ret d132_8 rfl ?_
  exact k
theorem c132t {d : Nat} {M : zM} {Q : Option Value → zM → Prop} {x : Nat} (h : x < 256) (k : Q (some (.int (nI 1))) M) : qC (d + 2) 132 [.int (nI x)] M Q := c132 (by rw [zix_in h (by omega)]; exact k)
theorem c132f {d : Nat} {M : zM} {Q : Option Value → zM → Prop} {x : Int32} (h : zix x 256 = none) (k : Q (some (.int (nI 0))) M) : qC (d + 2) 132 [.int x] M Q := c132 (by rw [h]; exact k)
theorem d169_0 : decode (zB 169) 0 = .ok (.iload_n 0, 1) := by decide +kernel
theorem d169_1 : decode (zB 169) 1 = .ok (.iconst 0, 1) := by decide +kernel
theorem d169_2 : decode (zB 169) 2 = .ok (.iconst 2, 1) := by decide +kernel
theorem d169_3 : decode (zB 169) 3 = .ok (.invokestatic 112, 3) := by decide +kernel
theorem d169_6 : decode (zB 169) 6 = .ok (.ireturn, 1) := by decide +kernel
theorem c169 {d : Nat} {M : zM} {Q : Option Value → zM → Prop} {x : Int32} (k : Q (some (.int (bI (zix x 3).isSome))) M) : qC (d + 2) 169 [.int x] M Q := by
  refine qC_of (by decide) (Nat.le_of_ble_eq_true rfl) ?_
  refine q_iload_n d169_0 rfl ?_
  refine q_iconstN (z := 0) d169_1 ?_
  refine q_iconstN (z := 2) d169_2 ?_
  refine q_s3 d169_3 (Or.inl rfl) rfl (Nat.le_of_ble_eq_true rfl) (c131z (by omega) ?_)
  refine b_ret d169_6 rfl ?_
  exact k
theorem c169t {d : Nat} {M : zM} {Q : Option Value → zM → Prop} {x : Nat} (h : x < 3) (k : Q (some (.int (nI 1))) M) : qC (d + 2) 169 [.int (nI x)] M Q := c169 (by rw [zix_in h (by omega)]; exact k)
theorem c169f {d : Nat} {M : zM} {Q : Option Value → zM → Prop} {x : Int32} (h : zix x 3 = none) (k : Q (some (.int (nI 0))) M) : qC (d + 2) 169 [.int x] M Q := c169 (by rw [h]; exact k)
theorem d189_0 : decode (zB 189) 0 = .ok (.iload_n 0, 1) := by decide +kernel
theorem d189_1 : decode (zB 189) 1 = .ok (.iconst 0, 1) := by decide +kernel
theorem d189_2 : decode (zB 189) 2 = .ok (.iconst 5, 1) := by decide +kernel
theorem d189_3 : decode (zB 189) 3 = .ok (.invokestatic 112, 3) := by decide +kernel
theorem d189_6 : decode (zB 189) 6 = .ok (.ireturn, 1) := by decide +kernel
theorem c189 {d : Nat} {M : zM} {Q : Option Value → zM → Prop} {x : Int32} (k : Q (some (.int (bI (zix x 6).isSome))) M) : qC (d + 2) 189 [.int x] M Q := by
  refine qC_of (by decide) (Nat.le_of_ble_eq_true rfl) ?_
  refine q_iload_n d189_0 rfl ?_
  refine q_iconstN (z := 0) d189_1 ?_
  refine q_iconstN (z := 5) d189_2 ?_
  refine q_s3 d189_3 (Or.inl rfl) rfl (Nat.le_of_ble_eq_true rfl) (c131z (by omega) ?_)
  refine b_ret d189_6 rfl ?_
  exact k
theorem c189t {d : Nat} {M : zM} {Q : Option Value → zM → Prop} {x : Nat} (h : x < 6) (k : Q (some (.int (nI 1))) M) : qC (d + 2) 189 [.int (nI x)] M Q := c189 (by rw [zix_in h (by omega)]; exact k)
theorem c189f {d : Nat} {M : zM} {Q : Option Value → zM → Prop} {x : Int32} (h : zix x 6 = none) (k : Q (some (.int (nI 0))) M) : qC (d + 2) 189 [.int x] M Q := c189 (by rw [h]; exact k)
theorem d207_0 : decode (zB 207) 0 = .ok (.iload_n 0, 1) := by decide +kernel
theorem d207_1 : decode (zB 207) 1 = .ok (.iconst 0, 1) := by decide +kernel
theorem d207_2 : decode (zB 207) 2 = .ok (.iconst 3, 1) := by decide +kernel
theorem d207_3 : decode (zB 207) 3 = .ok (.invokestatic 112, 3) := by decide +kernel
theorem d207_6 : decode (zB 207) 6 = .ok (.ireturn, 1) := by decide +kernel
theorem c207 {d : Nat} {M : zM} {Q : Option Value → zM → Prop} {x : Int32} (k : Q (some (.int (bI (zix x 4).isSome))) M) : qC (d + 2) 207 [.int x] M Q := by
  refine qC_of (by decide) (Nat.le_of_ble_eq_true rfl) ?_
  refine q_iload_n d207_0 rfl ?_
  refine q_iconstN (z := 0) d207_1 ?_
  refine q_iconstN (z := 3) d207_2 ?_
  refine q_s3 d207_3 (Or.inl rfl) rfl (Nat.le_of_ble_eq_true rfl) (c131z (by omega) ?_)
  refine b_ret d207_6 rfl ?_
  exact k
theorem c207t {d : Nat} {M : zM} {Q : Option Value → zM → Prop} {x : Nat} (h : x < 4) (k : Q (some (.int (nI 1))) M) : qC (d + 2) 207 [.int (nI x)] M Q := c207 (by rw [zix_in h (by omega)]; exact k)
theorem c207f {d : Nat} {M : zM} {Q : Option Value → zM → Prop} {x : Int32} (h : zix x 4 = none) (k : Q (some (.int (nI 0))) M) : qC (d + 2) 207 [.int x] M Q := c207 (by rw [h]; exact k)
theorem d35_0 : decode (zB 35) 0 = .ok (.iload_n 0, 1) := by decide +kernel
theorem d35_1 : decode (zB 35) 1 = .ok (.iload_n 1, 1) := by decide +kernel
theorem d35_2 : decode (zB 35) 2 = .ok (.ishr, 1) := by decide +kernel
theorem d35_3 : decode (zB 35) 3 = .ok (.iconst 1, 1) := by decide +kernel
theorem d35_4 : decode (zB 35) 4 = .ok (.iand, 1) := by decide +kernel
theorem d35_5 : decode (zB 35) 5 = .ok (.ifCond .eq 7, 3) := by decide +kernel
theorem d35_8 : decode (zB 35) 8 = .ok (.iconst 1, 1) := by decide +kernel
theorem d35_9 : decode (zB 35) 9 = .ok (.goto 4, 3) := by decide +kernel
theorem d35_12 : decode (zB 35) 12 = .ok (.iconst 0, 1) := by decide +kernel
theorem d35_13 : decode (zB 35) 13 = .ok (.ireturn, 1) := by decide +kernel
theorem c35 {d : Nat} {M : zM} {Q : Option Value → zM → Prop} {a i : Nat} (ha : a < 2147483648) (hi : i < 32) (k : Q (some (.int (bI (a.testBit i)))) M) : qC (d + 1) 35 [.int (nI a), .int (nI i)] M Q := by
  refine qC_of (by decide) (Nat.le_of_ble_eq_true rfl) ?_
  refine q_iload_n d35_0 rfl ?_
  refine q_iload_n d35_1 rfl ?_
  refine q_ishr d35_2 ?_
  refine q_iconstN (z := 1) d35_3 ?_
  refine q_iand d35_4 ?_
  rw [n_bit ha hi]
  refine b0_eq 12 d35_5 (by decide) (fun h5 => ?_) (fun h5 => ?_)
  · refine q_iconstN (z := 0) d35_12 ?_
    refine q_zret d35_13 rfl (by decide) ?_
    exact bK0 k h5
  · refine q_iconstN (z := 1) d35_8 ?_
    refine q_goto 13 d35_9 (by decide) ?_
    refine q_zret d35_13 rfl (by decide) ?_
    exact bK1 k h5
theorem d27_0 : decode (zB 27) 0 = .ok (.iload_n 0, 1) := by decide +kernel
theorem d27_1 : decode (zB 27) 1 = .ok (.iconst 4, 1) := by decide +kernel
theorem d27_2 : decode (zB 27) 2 = .ok (.if_icmp .eq 12, 3) := by decide +kernel
theorem d27_5 : decode (zB 27) 5 = .ok (.iload_n 0, 1) := by decide +kernel
theorem d27_6 : decode (zB 27) 6 = .ok (.iconst 5, 1) := by decide +kernel
theorem d27_7 : decode (zB 27) 7 = .ok (.if_icmp .eq 7, 3) := by decide +kernel
theorem d27_10 : decode (zB 27) 10 = .ok (.iconst 1, 1) := by decide +kernel
theorem d27_11 : decode (zB 27) 11 = .ok (.goto 4, 3) := by decide +kernel
theorem d27_14 : decode (zB 27) 14 = .ok (.iconst 0, 1) := by decide +kernel
theorem d27_15 : decode (zB 27) 15 = .ok (.ireturn, 1) := by decide +kernel
theorem c27 {d : Nat} {M : zM} {Q : Option Value → zM → Prop} {a : Nat} (ha : a < 6) (k : Q (some (.int (bI (decide (a ≠ 4 ∧ a ≠ 5))))) M) : qC (d + 1) 27 [.int (nI a)] M Q := by
  refine qC_of (by decide) (Nat.le_of_ble_eq_true rfl) ?_
  refine q_iload_n d27_0 rfl ?_
  refine q_iconstN (z := 4) d27_1 ?_
  refine nc_eq 14 d27_2 (by decide) (by omega) (by omega) (fun h2 => ?_) (fun h2 => ?_)
  · refine q_iconstN (z := 0) d27_14 ?_
    refine q_zret d27_15 rfl (by decide) ?_
    exact bK0 k (by simp; omega)
  · refine q_iload_n d27_5 rfl ?_
    refine q_iconstN (z := 5) d27_6 ?_
    refine nc_eq 14 d27_7 (by decide) (by omega) (by omega) (fun h7 => ?_) (fun h7 => ?_)
    · refine q_iconstN (z := 0) d27_14 ?_
      refine q_zret d27_15 rfl (by decide) ?_
      exact bK0 k (by simp; omega)
    · refine q_iconstN (z := 1) d27_10 ?_
      refine q_goto 15 d27_11 (by decide) ?_
      refine q_zret d27_15 rfl (by decide) ?_
      exact bK1 k (by simp; omega)
theorem d48_0 : decode (zB 48) 0 = .ok (.iload_n 0, 1) := by decide +kernel
theorem d48_1 : decode (zB 48) 1 = .ok (.ifCond .ne 7, 3) := by decide +kernel
theorem d48_4 : decode (zB 48) 4 = .ok (.iload_n 1, 1) := by decide +kernel
theorem d48_5 : decode (zB 48) 5 = .ok (.goto 19, 3) := by decide +kernel
theorem d48_8 : decode (zB 48) 8 = .ok (.iload_n 0, 1) := by decide +kernel
theorem d48_9 : decode (zB 48) 9 = .ok (.iconst 4, 1) := by decide +kernel
theorem d48_10 : decode (zB 48) 10 = .ok (.if_icmp .eq 8, 3) := by decide +kernel
theorem d48_13 : decode (zB 48) 13 = .ok (.iload_n 0, 1) := by decide +kernel
theorem d48_14 : decode (zB 48) 14 = .ok (.iconst 5, 1) := by decide +kernel
theorem d48_15 : decode (zB 48) 15 = .ok (.if_icmp .ne 7, 3) := by decide +kernel
theorem d48_18 : decode (zB 48) 18 = .ok (.iconst 0, 1) := by decide +kernel
theorem d48_19 : decode (zB 48) 19 = .ok (.goto 5, 3) := by decide +kernel
theorem d48_22 : decode (zB 48) 22 = .ok (.iload_n 1, 1) := by decide +kernel
theorem d48_23 : decode (zB 48) 23 = .ok (.ineg, 1) := by decide +kernel
theorem d48_24 : decode (zB 48) 24 = .ok (.ireturn, 1) := by decide +kernel
theorem c48 {d : Nat} {M : zM} {Q : Option Value → zM → Prop} {a : Nat} {n : Int32} (ha : a < 6) (k : Q (some (.int (yf1 a n))) M) : qC (d + 1) 48 [.int (nI a), .int n] M Q := by
  refine qC_of (by decide) (Nat.le_of_ble_eq_true rfl) ?_
  refine q_iload_n d48_0 rfl ?_
  refine n0_ne 8 d48_1 (by decide) (by omega) (fun h1 => ?_) (fun h1 => ?_)
  · refine q_iload_n d48_8 rfl ?_
    refine q_iconstN (z := 4) d48_9 ?_
    refine nc_eq 18 d48_10 (by decide) (by omega) (by omega) (fun h10 => ?_) (fun h10 => ?_)
    · refine q_iconstN (z := 0) d48_18 ?_
      refine q_goto 24 d48_19 (by decide) ?_
      refine q_iret d48_24 rfl ?_
      exact nK k (by unfold yf1; first | rw [if_pos (by omega)] | (rw [if_neg (by omega), if_pos (by omega)]; rfl) | rw [if_neg (by omega), if_neg (by omega)])
    · refine q_iload_n d48_13 rfl ?_
      refine q_iconstN (z := 5) d48_14 ?_
      refine nc_ne 22 d48_15 (by decide) (by omega) (by omega) (fun h15 => ?_) (fun h15 => ?_)
      · refine q_iload_n d48_22 rfl ?_
        refine q_ineg d48_23 ?_
        refine q_iret d48_24 rfl ?_
        exact nK k (by unfold yf1; first | rw [if_pos (by omega)] | (rw [if_neg (by omega), if_pos (by omega)]; rfl) | rw [if_neg (by omega), if_neg (by omega)])
      · refine q_iconstN (z := 0) d48_18 ?_
        refine q_goto 24 d48_19 (by decide) ?_
        refine q_iret d48_24 rfl ?_
        exact nK k (by unfold yf1; first | rw [if_pos (by omega)] | (rw [if_neg (by omega), if_pos (by omega)]; rfl) | rw [if_neg (by omega), if_neg (by omega)])
  · refine q_iload_n d48_4 rfl ?_
    refine q_goto 24 d48_5 (by decide) ?_
    refine q_iret d48_24 rfl ?_
    exact nK k (by unfold yf1; first | rw [if_pos (by omega)] | (rw [if_neg (by omega), if_pos (by omega)]; rfl) | rw [if_neg (by omega), if_neg (by omega)])
theorem d50_0 : decode (zB 50) 0 = .ok (.iload_n 0, 1) := by decide +kernel
theorem d50_1 : decode (zB 50) 1 = .ok (.iconst 2, 1) := by decide +kernel
theorem d50_2 : decode (zB 50) 2 = .ok (.if_icmp .ne 7, 3) := by decide +kernel
theorem d50_5 : decode (zB 50) 5 = .ok (.iload_n 1, 1) := by decide +kernel
theorem d50_6 : decode (zB 50) 6 = .ok (.goto 4, 3) := by decide +kernel
theorem d50_9 : decode (zB 50) 9 = .ok (.iconst 0, 1) := by decide +kernel
theorem d50_10 : decode (zB 50) 10 = .ok (.ireturn, 1) := by decide +kernel
theorem c50 {d : Nat} {M : zM} {Q : Option Value → zM → Prop} {a : Nat} {n : Int32} (ha : a < 6) (k : Q (some (.int (yf2 a n))) M) : qC (d + 1) 50 [.int (nI a), .int n] M Q := by
  refine qC_of (by decide) (Nat.le_of_ble_eq_true rfl) ?_
  refine q_iload_n d50_0 rfl ?_
  refine q_iconstN (z := 2) d50_1 ?_
  refine nc_ne 9 d50_2 (by decide) (by omega) (by omega) (fun h2 => ?_) (fun h2 => ?_)
  · refine q_iconstN (z := 0) d50_9 ?_
    refine q_iret d50_10 rfl ?_
    exact nK k (by unfold yf2; first | rw [if_pos (by omega)] | (rw [if_neg (by omega)]; rfl))
  · refine q_iload_n d50_5 rfl ?_
    refine q_goto 10 d50_6 (by decide) ?_
    refine q_iret d50_10 rfl ?_
    exact nK k (by unfold yf2; first | rw [if_pos (by omega)] | (rw [if_neg (by omega)]; rfl))
end
section
/-! ===== contracts: texts ===== -/
theorem zix_of {x : Int32} {n : Nat} (h0 : ¬ x < 0) (h1 : ¬ nI n ≤ x) (hn : n < 2147483648) : 0 ≤ x.toInt ∧ x.toInt < n := by
  rw [Int32.lt_iff_toInt_lt] at h0
  rw [Int32.le_iff_toInt_le, nI_toInt hn] at h1
  have : (0 : Int32).toInt = 0 := rfl
  omega
theorem zdf_lt {a b n : Nat} (h : a < 2 ^ n) : zdf a b < 2 ^ n := by
  apply Nat.lt_pow_two_of_testBit
  intro i hi
  rw [zdf_bit, Nat.testBit_lt_two_pow (Nat.lt_of_lt_of_le h (Nat.pow_le_pow_right (by omega) hi))]; rfl
theorem or_lt {a b n : Nat} (ha : a < 2 ^ n) (hb : b < 2 ^ n) : a ||| b < 2 ^ n := Nat.or_lt_two_pow ha hb
theorem ymk_t {f : Nat → Bool} {i : Nat} (h : f i = true) : ymk f (i + 1) = ymk f i ||| 2 ^ i := by rw [ymk, if_pos h]
theorem ymk_f {f : Nat → Bool} {i : Nat} (h : f i = false) : ymk f (i + 1) = ymk f i := by rw [ymk, h]; exact Nat.or_zero _
theorem ymk_lt12 (f : Nat → Bool) {i : Nat} (h : i ≤ 12) : ymk f i < 4096 := Nat.lt_of_lt_of_le (ymk_lt f i) (Nat.pow_le_pow_right (by omega) h)
theorem pow_12 {i : Nat} (h : i ≤ 12) : 2 ^ i ≤ 4096 := Nat.pow_le_pow_right (by omega) h
theorem OKT.n {T : yT} (h : OKT T) : tn T ≤ 12 := h.2.1
theorem OKT.a {T : yT} (h : OKT T) {k : Nat} (hk : k < tn T) : ta T k < 4096 := Nat.lt_of_lt_of_le (h.2.2.2 k hk).2.1 (pow_12 (by have := h.2.1; omega))
theorem OKT.k {T : yT} (h : OKT T) {k : Nat} (hk : k < tn T) : tk T k < 6 := (h.2.2.2 k hk).1
theorem zdf_12 {a b : Nat} (h : a < 4096) : zdf a b < 4096 := zdf_lt (n := 12) h
theorem d47_0 : decode (zB 47) 0 = .ok (.iload_n 1, 1) := by decide +kernel
theorem d47_1 : decode (zB 47) 1 = .ok (.ifCond .lt 15, 3) := by decide +kernel
theorem d47_4 : decode (zB 47) 4 = .ok (.iload_n 1, 1) := by decide +kernel
theorem d47_5 : decode (zB 47) 5 = .ok (.aload_n 0, 1) := by decide +kernel
theorem d47_6 : decode (zB 47) 6 = .ok (.getfield 34, 3) := by decide +kernel
theorem d47_9 : decode (zB 47) 9 = .ok (.if_icmp .ge 7, 3) := by decide +kernel
theorem d47_12 : decode (zB 47) 12 = .ok (.iconst 1, 1) := by decide +kernel
theorem d47_13 : decode (zB 47) 13 = .ok (.goto 4, 3) := by decide +kernel
theorem d47_16 : decode (zB 47) 16 = .ok (.iconst 0, 1) := by decide +kernel
theorem d47_17 : decode (zB 47) 17 = .ok (.ireturn, 1) := by decide +kernel
theorem c47 {d : Nat} {M : zM} {Q : Option Value → zM → Prop} {a : Nat} {T : yT} {x : Int32} (hp : SPr M a) (hr : RP M a T) (hn : tn T ≤ 12) (k : Q (some (.int (bI (zix x (tn T)).isSome))) M) : qC (d + 1) 47 [.ref a, .int x] M Q := by
  refine qC_of (by decide) (Nat.le_of_ble_eq_true rfl) ?_
  rcases zix_c x (n := tn T) (by omega) with ⟨j, hj, rfl, e⟩ | ⟨e, hn2⟩
  · rw [e] at k
    refine q_iload_n d47_0 rfl ?_
    refine n0_lt 16 d47_1 (by decide) (by omega) (fun q => absurd q (Nat.not_lt_zero _)) (fun _ => ?_)
    refine q_iload_n d47_4 rfl ?_
    refine q_aload_n d47_5 rfl ?_
    refine q_getv (c := 1) (f := 6) d47_6 ⟨rfl, by decide⟩ hp.1 hr.1 ?_
    refine nc_ge 16 d47_9 (by decide) (by omega) (by omega) (fun h9 => (False.elim (by omega))) (fun h9 => ?_)
    refine q_iconstN (z := 1) d47_12 ?_
    refine q_goto 17 d47_13 (by decide) ?_
    refine q_zret d47_17 rfl (by decide) ?_
    exact k
  · rw [e] at k
    refine q_iload_n d47_0 rfl ?_
    refine i0_lt 16 d47_1 (by decide) (fun h1 => ?_) (fun h1 => ?_)
    · refine q_iconstN (z := 0) d47_16 ?_
      refine q_zret d47_17 rfl (by decide) ?_
      exact k
    · refine q_iload_n d47_4 rfl ?_
      refine q_aload_n d47_5 rfl ?_
      refine q_getv (c := 1) (f := 6) d47_6 ⟨rfl, by decide⟩ hp.1 hr.1 ?_
      refine ic_ge 16 d47_9 (by decide) (fun h9 => ?_) (fun h9 => ?_)
      · refine q_iconstN (z := 0) d47_16 ?_
        refine q_zret d47_17 rfl (by decide) ?_
        exact k
      · refine q_iconstN (z := 1) d47_12 ?_
        refine q_goto 17 d47_13 (by decide) ?_
        refine q_zret d47_17 rfl (by decide) ?_
        exact absurd (zix_of h1 h9 (by omega)) hn2
theorem c47t {d : Nat} {M : zM} {Q : Option Value → zM → Prop} {a : Nat} {T : yT} {x : Nat} (hp : SPr M a) (hr : RP M a T) (hn : tn T ≤ 12) (hx : x < tn T) (k : Q (some (.int (nI 1))) M) : qC (d + 1) 47 [.ref a, .int (nI x)] M Q := c47 hp hr hn (by rw [zix_in hx (by omega)]; exact k)
theorem d37_0 : decode (zB 37) 0 = .ok (.iconst 1, 1) := by decide +kernel
theorem d37_1 : decode (zB 37) 1 = .ok (.aload_n 0, 1) := by decide +kernel
theorem d37_2 : decode (zB 37) 2 = .ok (.getfield 34, 3) := by decide +kernel
theorem d37_5 : decode (zB 37) 5 = .ok (.ishl, 1) := by decide +kernel
theorem d37_6 : decode (zB 37) 6 = .ok (.iconst 1, 1) := by decide +kernel
theorem d37_7 : decode (zB 37) 7 = .ok (.isub, 1) := by decide +kernel
theorem d37_8 : decode (zB 37) 8 = .ok (.ireturn, 1) := by decide +kernel
theorem c37 {d : Nat} {M : zM} {Q : Option Value → zM → Prop} {a : Nat} {T : yT} (hp : SPr M a) (hr : RP M a T) (hn : tn T ≤ 12) (k : Q (some (.int (nI (2 ^ tn T - 1)))) M) : qC (d + 1) 37 [.ref a] M Q := by
  refine qC_of (by decide) (Nat.le_of_ble_eq_true rfl) ?_
  refine q_iconstN (z := 1) d37_0 ?_
  refine q_aload_n d37_1 rfl ?_
  refine q_getv (c := 1) (f := 6) d37_2 ⟨rfl, by decide⟩ hp.1 hr.1 ?_
  refine n_ishl1 d37_5 (by omega) ?_
  refine q_iconstN (z := 1) d37_6 ?_
  refine n_isub d37_7 Nat.one_le_two_pow ?_
  refine q_iret d37_8 rfl ?_
  exact k
theorem d77_0 : decode (zB 77) 0 = .ok (.aload_n 0, 1) := by decide +kernel
theorem d77_1 : decode (zB 77) 1 = .ok (.getfield 30, 3) := by decide +kernel
theorem d77_4 : decode (zB 77) 4 = .ok (.iconst (-1), 1) := by decide +kernel
theorem d77_5 : decode (zB 77) 5 = .ok (.if_icmp .eq 18, 3) := by decide +kernel
theorem d77_8 : decode (zB 77) 8 = .ok (.aload_n 0, 1) := by decide +kernel
theorem d77_9 : decode (zB 77) 9 = .ok (.getfield 30, 3) := by decide +kernel
theorem d77_12 : decode (zB 77) 12 = .ok (.iload_n 1, 1) := by decide +kernel
theorem d77_13 : decode (zB 77) 13 = .ok (.iconst (-1), 1) := by decide +kernel
theorem d77_14 : decode (zB 77) 14 = .ok (.ixor, 1) := by decide +kernel
theorem d77_15 : decode (zB 77) 15 = .ok (.iand, 1) := by decide +kernel
theorem d77_16 : decode (zB 77) 16 = .ok (.ifCond .ne 7, 3) := by decide +kernel
theorem d77_19 : decode (zB 77) 19 = .ok (.iconst 1, 1) := by decide +kernel
theorem d77_20 : decode (zB 77) 20 = .ok (.goto 4, 3) := by decide +kernel
theorem d77_23 : decode (zB 77) 23 = .ok (.iconst 0, 1) := by decide +kernel
theorem d77_24 : decode (zB 77) 24 = .ok (.ireturn, 1) := by decide +kernel
theorem c77 {d : Nat} {M : zM} {Q : Option Value → zM → Prop} {a : Nat} {T : yT} {dm : Nat} (hp : SPr M a) (hr : RP M a T) (k : Q (some (.int (bI (ypa T dm)))) M) : qC (d + 1) 77 [.ref a, .int (nI dm)] M Q := by
  refine qC_of (by decide) (Nat.le_of_ble_eq_true rfl) ?_
  refine q_aload_n d77_0 rfl ?_
  refine q_getv (c := 1) (f := 7) d77_1 ⟨rfl, by decide⟩ hp.1 hr.2.1 ?_
  refine q_iconst (x := (-1)) d77_4 rfl ?_
  refine ic_eq 23 d77_5 (by decide) (fun h5 => ?_) (fun h5 => ?_)
  · refine q_iconstN (z := 0) d77_23 ?_
    refine q_zret d77_24 rfl (by decide) ?_
    first | exact bK0 k (decide_eq_false (fun q => q.1 h5)) | exact bK0 k (decide_eq_false (fun q => h16 q.2))
  · refine q_aload_n d77_8 rfl ?_
    refine q_getv (c := 1) (f := 7) d77_9 ⟨rfl, by decide⟩ hp.1 hr.2.1 ?_
    refine q_iload_n d77_12 rfl ?_
    refine q_iconst (x := (-1)) d77_13 rfl ?_
    refine q_ixor d77_14 ?_
    refine q_iand d77_15 ?_
    refine i0_ne 23 d77_16 (by decide) (fun h16 => ?_) (fun h16 => ?_)
    · refine q_iconstN (z := 0) d77_23 ?_
      refine q_zret d77_24 rfl (by decide) ?_
      first | exact bK0 k (decide_eq_false (fun q => q.1 h5)) | exact bK0 k (decide_eq_false (fun q => h16 q.2))
    · refine q_iconstN (z := 1) d77_19 ?_
      refine q_goto 24 d77_20 (by decide) ?_
      refine q_zret d77_24 rfl (by decide) ?_
      exact bK1 k (decide_eq_true ⟨h5, h16⟩)
theorem d44_0 : decode (zB 44) 0 = .ok (.iconst 0, 1) := by decide +kernel
theorem d44_1 : decode (zB 44) 1 = .ok (.istore_n 2, 1) := by decide +kernel
theorem d44_2 : decode (zB 44) 2 = .ok (.iconst 0, 1) := by decide +kernel
theorem d44_3 : decode (zB 44) 3 = .ok (.istore_n 3, 1) := by decide +kernel
theorem d44_4 : decode (zB 44) 4 = .ok (.iload_n 3, 1) := by decide +kernel
theorem d44_5 : decode (zB 44) 5 = .ok (.aload_n 0, 1) := by decide +kernel
theorem d44_6 : decode (zB 44) 6 = .ok (.getfield 34, 3) := by decide +kernel
theorem d44_9 : decode (zB 44) 9 = .ok (.if_icmp .ge 36, 3) := by decide +kernel
theorem d44_12 : decode (zB 44) 12 = .ok (.iload_n 1, 1) := by decide +kernel
theorem d44_13 : decode (zB 44) 13 = .ok (.iload_n 3, 1) := by decide +kernel
theorem d44_14 : decode (zB 44) 14 = .ok (.invokestatic 37, 3) := by decide +kernel
theorem d44_17 : decode (zB 44) 17 = .ok (.ifCond .ne 22, 3) := by decide +kernel
theorem d44_20 : decode (zB 44) 20 = .ok (.aload_n 0, 1) := by decide +kernel
theorem d44_21 : decode (zB 44) 21 = .ok (.getfield 24, 3) := by decide +kernel
theorem d44_24 : decode (zB 44) 24 = .ok (.iload_n 3, 1) := by decide +kernel
theorem d44_25 : decode (zB 44) 25 = .ok (.iaload, 1) := by decide +kernel
theorem d44_26 : decode (zB 44) 26 = .ok (.iload_n 1, 1) := by decide +kernel
theorem d44_27 : decode (zB 44) 27 = .ok (.iconst (-1), 1) := by decide +kernel
theorem d44_28 : decode (zB 44) 28 = .ok (.ixor, 1) := by decide +kernel
theorem d44_29 : decode (zB 44) 29 = .ok (.iand, 1) := by decide +kernel
theorem d44_30 : decode (zB 44) 30 = .ok (.ifCond .ne 9, 3) := by decide +kernel
theorem d44_33 : decode (zB 44) 33 = .ok (.iload_n 2, 1) := by decide +kernel
theorem d44_34 : decode (zB 44) 34 = .ok (.iconst 1, 1) := by decide +kernel
theorem d44_35 : decode (zB 44) 35 = .ok (.iload_n 3, 1) := by decide +kernel
theorem d44_36 : decode (zB 44) 36 = .ok (.ishl, 1) := by decide +kernel
theorem d44_37 : decode (zB 44) 37 = .ok (.ior, 1) := by decide +kernel
theorem d44_38 : decode (zB 44) 38 = .ok (.istore_n 2, 1) := by decide +kernel
theorem d44_39 : decode (zB 44) 39 = .ok (.iinc 3 1, 3) := by decide +kernel
theorem d44_42 : decode (zB 44) 42 = .ok (.goto (-38), 3) := by decide +kernel
theorem d44_45 : decode (zB 44) 45 = .ok (.iload_n 2, 1) := by decide +kernel
theorem d44_46 : decode (zB 44) 46 = .ok (.ireturn, 1) := by decide +kernel
theorem l44 {d : Nat} {M : zM} {Q : Option Value → zM → Prop} {a : Nat} {T : yT} {set : Nat} (hp : SPr M a) (hr : RP M a T) (ho : OKT T) (hs : set < 4096) (k : Q (some (.int (nI (ynx T set)))) M) : ∀ (r i : Nat), i ≤ tn T → tn T < i + r → qW (zEv (d + 1)) 44 Q 4 [(3, .int (nI i)), (2, .int (nI (ymk (fun i => !set.testBit i && zdf (ta T i) set == 0) i))), (0, .ref a), (1, .int (nI set))] [] M := by
  intro r
  induction r with
  | zero => intros; omega
  | succ r ih =>
    intro i  h1 h2 
    have hn := ho.n
    refine q_iload_n d44_4 rfl ?_
    refine q_aload_n d44_5 rfl ?_
    refine q_getv (c := 1) (f := 6) d44_6 ⟨rfl, by decide⟩ hp.1 hr.1 ?_
    refine nc_ge 45 d44_9 (by decide) (by omega) (by omega) (fun h9 => ?_) (fun h9 => ?_)
    · refine q_iload_n d44_45 rfl ?_
      refine q_iret d44_46 rfl ?_
      rw [show i = tn T by omega]; exact k
    · refine q_iload_n d44_12 rfl ?_
      refine q_iload_n d44_13 rfl ?_
      refine q_s2 d44_14 (Or.inr rfl) rfl (Nat.le_of_ble_eq_true rfl) (c35 (by omega) (by omega) ?_)
      refine b0_ne 39 d44_17 (by decide) (fun h17 => ?_) (fun h17 => ?_)
      · refine n_iinc 1 d44_39 (by decide) rfl rfl ?_
        refine q_goto 4 d44_42 (by decide) ?_
        first | (rw [← ymk_t (f := (fun i => !set.testBit i && zdf (ta T i) set == 0)) (by simp [h17, h30])]; exact ih (i + 1) (by omega) (by omega)) | (rw [← ymk_f (f := (fun i => !set.testBit i && zdf (ta T i) set == 0)) (i := i) (by simp_all)]; exact ih (i + 1) (by omega) (by omega))
      · have hz : zdf (ta T i) set < 4096 := zdf_12 (ho.a (by omega))
        refine q_aload_n d44_20 rfl ?_
        refine q_getr (c := 1) (f := 4) d44_21 ⟨rfl, rfl⟩ hp.1 (hp.2 4 (by decide)).1 ?_
        refine q_iload_n d44_24 rfl ?_
        refine n_iald d44_25 (hp.2 4 (by decide)).2 (by omega) (by decide) (hr.2.2 _ (by omega)).2.2.2.2 ?_
        refine q_iload_n d44_26 rfl ?_
        refine q_iconst (x := (-1)) d44_27 rfl ?_
        refine q_ixor d44_28 ?_
        refine n_iandn d44_29 ?_
        refine n0_ne 39 d44_30 (by decide) (by omega) (fun h30 => ?_) (fun h30 => ?_)
        · refine n_iinc 1 d44_39 (by decide) rfl rfl ?_
          refine q_goto 4 d44_42 (by decide) ?_
          first | (rw [← ymk_t (f := (fun i => !set.testBit i && zdf (ta T i) set == 0)) (by simp [h17, h30])]; exact ih (i + 1) (by omega) (by omega)) | (rw [← ymk_f (f := (fun i => !set.testBit i && zdf (ta T i) set == 0)) (i := i) (by simp_all)]; exact ih (i + 1) (by omega) (by omega))
        · refine q_iload_n d44_33 rfl ?_
          refine q_iconstN (z := 1) d44_34 ?_
          refine q_iload_n d44_35 rfl ?_
          refine n_ishl1 d44_36 (by omega) ?_
          refine n_ior d44_37 ?_
          refine q_istore_n d44_38 (by decide) rfl ?_
          refine n_iinc 1 d44_39 (by decide) rfl rfl ?_
          refine q_goto 4 d44_42 (by decide) ?_
          first | (rw [← ymk_t (f := (fun i => !set.testBit i && zdf (ta T i) set == 0)) (by simp [h17, h30])]; exact ih (i + 1) (by omega) (by omega)) | (rw [← ymk_f (f := (fun i => !set.testBit i && zdf (ta T i) set == 0)) (i := i) (by simp_all)]; exact ih (i + 1) (by omega) (by omega))
theorem c44 {d : Nat} {M : zM} {Q : Option Value → zM → Prop} {a : Nat} {T : yT} {set : Nat} (hp : SPr M a) (hr : RP M a T) (ho : OKT T) (hs : set < 4096) (k : Q (some (.int (nI (ynx T set)))) M) : qC (d + 2) 44 [.ref a, .int (nI set)] M Q := by
  refine qC_of (by decide) (Nat.le_of_ble_eq_true rfl) ?_
  refine q_iconstN (z := 0) d44_0 ?_
  refine q_istore_n d44_1 (by decide) rfl ?_
  refine q_iconstN (z := 0) d44_2 ?_
  refine q_istore_n d44_3 (by decide) rfl ?_
  exact l44 hp hr ho hs k (tn T + 1) 0 (by omega) (by omega)
/-- steps beside one of a text -/
def ybd (T : yT) (i : Nat) : Nat := ymk (fun k => !(k == i) && !(ta T i).testBit k && !(ta T k).testBit i) (tn T)
theorem zdf_all {m n : Nat} (f : Nat → Bool) (h : ∀ k, k < n → m.testBit k = !f k) : zdf (2 ^ n - 1) m = ymk f n := by
  apply ymk_is
  intro i
  rw [zdf_bit, Nat.testBit_two_pow_sub_one]
  by_cases hi : i < n
  · rw [h i hi]; simp
  · rw [decide_eq_false hi]; rfl
theorem or_bit_t {m i k : Nat} : (m ||| 2 ^ i).testBit k = (m.testBit k || decide (k = i)) := by
  rw [Nat.testBit_or, Nat.testBit_two_pow, show decide (i = k) = decide (k = i) by simp only [decide_eq_decide]; omega]
theorem d39_0 : decode (zB 39) 0 = .ok (.iconst 1, 1) := by decide +kernel
theorem d39_1 : decode (zB 39) 1 = .ok (.iload_n 1, 1) := by decide +kernel
theorem d39_2 : decode (zB 39) 2 = .ok (.ishl, 1) := by decide +kernel
theorem d39_3 : decode (zB 39) 3 = .ok (.istore_n 2, 1) := by decide +kernel
theorem d39_4 : decode (zB 39) 4 = .ok (.iconst 0, 1) := by decide +kernel
theorem d39_5 : decode (zB 39) 5 = .ok (.istore_n 3, 1) := by decide +kernel
theorem d39_6 : decode (zB 39) 6 = .ok (.iload_n 3, 1) := by decide +kernel
theorem d39_7 : decode (zB 39) 7 = .ok (.aload_n 0, 1) := by decide +kernel
theorem d39_8 : decode (zB 39) 8 = .ok (.getfield 34, 3) := by decide +kernel
theorem d39_11 : decode (zB 39) 11 = .ok (.if_icmp .ge 41, 3) := by decide +kernel
theorem d39_14 : decode (zB 39) 14 = .ok (.aload_n 0, 1) := by decide +kernel
theorem d39_15 : decode (zB 39) 15 = .ok (.getfield 24, 3) := by decide +kernel
theorem d39_18 : decode (zB 39) 18 = .ok (.iload_n 1, 1) := by decide +kernel
theorem d39_19 : decode (zB 39) 19 = .ok (.iaload, 1) := by decide +kernel
theorem d39_20 : decode (zB 39) 20 = .ok (.iload_n 3, 1) := by decide +kernel
theorem d39_21 : decode (zB 39) 21 = .ok (.invokestatic 37, 3) := by decide +kernel
theorem d39_24 : decode (zB 39) 24 = .ok (.ifCond .ne 16, 3) := by decide +kernel
theorem d39_27 : decode (zB 39) 27 = .ok (.aload_n 0, 1) := by decide +kernel
theorem d39_28 : decode (zB 39) 28 = .ok (.getfield 24, 3) := by decide +kernel
theorem d39_31 : decode (zB 39) 31 = .ok (.iload_n 3, 1) := by decide +kernel
theorem d39_32 : decode (zB 39) 32 = .ok (.iaload, 1) := by decide +kernel
theorem d39_33 : decode (zB 39) 33 = .ok (.iload_n 1, 1) := by decide +kernel
theorem d39_34 : decode (zB 39) 34 = .ok (.invokestatic 37, 3) := by decide +kernel
theorem d39_37 : decode (zB 39) 37 = .ok (.ifCond .eq 9, 3) := by decide +kernel
theorem d39_40 : decode (zB 39) 40 = .ok (.iload_n 2, 1) := by decide +kernel
theorem d39_41 : decode (zB 39) 41 = .ok (.iconst 1, 1) := by decide +kernel
theorem d39_42 : decode (zB 39) 42 = .ok (.iload_n 3, 1) := by decide +kernel
theorem d39_43 : decode (zB 39) 43 = .ok (.ishl, 1) := by decide +kernel
theorem d39_44 : decode (zB 39) 44 = .ok (.ior, 1) := by decide +kernel
theorem d39_45 : decode (zB 39) 45 = .ok (.istore_n 2, 1) := by decide +kernel
theorem d39_46 : decode (zB 39) 46 = .ok (.iinc 3 1, 3) := by decide +kernel
theorem d39_49 : decode (zB 39) 49 = .ok (.goto (-43), 3) := by decide +kernel
theorem d39_52 : decode (zB 39) 52 = .ok (.aload_n 0, 1) := by decide +kernel
theorem d39_53 : decode (zB 39) 53 = .ok (.invokevirtual 41, 3) := by decide +kernel
theorem d39_56 : decode (zB 39) 56 = .ok (.iload_n 2, 1) := by decide +kernel
theorem d39_57 : decode (zB 39) 57 = .ok (.iconst (-1), 1) := by decide +kernel
theorem d39_58 : decode (zB 39) 58 = .ok (.ixor, 1) := by decide +kernel
theorem d39_59 : decode (zB 39) 59 = .ok (.iand, 1) := by decide +kernel
theorem d39_60 : decode (zB 39) 60 = .ok (.ireturn, 1) := by decide +kernel
theorem l39 {d : Nat} {M : zM} {Q : Option Value → zM → Prop} {a : Nat} {T : yT} {s : Nat} (hp : SPr M a) (hr : RP M a T) (ho : OKT T) (hs : s < tn T) (k : Q (some (.int (nI (ybd T s)))) M) : ∀ (r i : Nat) rel, i ≤ tn T → tn T < i + r → rel < 4096 → (∀ k, rel.testBit k = (decide (k = s) || (decide (k < i) && ((ta T s).testBit k || (ta T k).testBit s)))) → qW (zEv (d + 1)) 39 Q 6 [(3, .int (nI i)), (2, .int (nI rel)), (0, .ref a), (1, .int (nI s))] [] M := by
  intro r
  induction r with
  | zero => intros; omega
  | succ r ih =>
    intro i rel h1 h2 hl hb
    have hn := ho.n
    refine q_iload_n d39_6 rfl ?_
    refine q_aload_n d39_7 rfl ?_
    refine q_getv (c := 1) (f := 6) d39_8 ⟨rfl, by decide⟩ hp.1 hr.1 ?_
    refine nc_ge 52 d39_11 (by decide) (by omega) (by omega) (fun h11 => ?_) (fun h11 => ?_)
    · refine q_aload_n d39_52 rfl ?_
      refine q_v0 d39_53 rfl rfl hp.1 (Nat.le_of_ble_eq_true rfl) (c37 hp hr hn ?_)
      refine q_iload_n d39_56 rfl ?_
      refine q_iconst (x := (-1)) d39_57 rfl ?_
      refine q_ixor d39_58 ?_
      refine n_iandn d39_59 ?_
      refine q_iret d39_60 rfl ?_
      have e : i = tn T := by omega
      subst e
      rw [zdf_all (fun k => !(k == s) && !(ta T s).testBit k && !(ta T k).testBit s) (fun k hk => by rw [hb k]; simp [hk, Bool.or_assoc]; rfl)]
      exact k
    · have ha1 := ho.a hs
      have ha2 := ho.a (k := i) (by omega)
      refine q_aload_n d39_14 rfl ?_
      refine q_getr (c := 1) (f := 4) d39_15 ⟨rfl, rfl⟩ hp.1 (hp.2 4 (by decide)).1 ?_
      refine q_iload_n d39_18 rfl ?_
      refine n_iald d39_19 (hp.2 4 (by decide)).2 (by omega) (by decide) (hr.2.2 _ (by omega)).2.2.2.2 ?_
      refine q_iload_n d39_20 rfl ?_
      refine q_s2 d39_21 (Or.inr rfl) rfl (Nat.le_of_ble_eq_true rfl) (c35 (by omega) (by omega) ?_)
      refine b0_ne 40 d39_24 (by decide) (fun h24 => ?_) (fun h24 => ?_)
      · refine q_iload_n d39_40 rfl ?_
        refine q_iconstN (z := 1) d39_41 ?_
        refine q_iload_n d39_42 rfl ?_
        refine n_ishl1 d39_43 (by omega) ?_
        refine n_ior d39_44 ?_
        refine q_istore_n d39_45 (by decide) rfl ?_
        refine n_iinc 1 d39_46 (by decide) rfl rfl ?_
        refine q_goto 6 d39_49 (by decide) ?_
        first
        | (refine ih (i + 1) _ (by omega) (by omega) (or_lt (n := 12) hl (pow_lt (by omega))) (fun k => ?_); rw [or_bit_t, hb k]; by_cases e : k = i; (subst e; simp_all); (rw [decide_eq_false e, Bool.or_false, show decide (k < i + 1) = decide (k < i) by simp only [decide_eq_decide]; omega]))
        | (refine ih (i + 1) _ (by omega) (by omega) hl (fun k => ?_); rw [hb k]; by_cases e : k = i; (subst e; simp_all); (rw [show decide (k < i + 1) = decide (k < i) by simp only [decide_eq_decide]; omega]))
      · refine q_aload_n d39_27 rfl ?_
        refine q_getr (c := 1) (f := 4) d39_28 ⟨rfl, rfl⟩ hp.1 (hp.2 4 (by decide)).1 ?_
        refine q_iload_n d39_31 rfl ?_
        refine n_iald d39_32 (hp.2 4 (by decide)).2 (by omega) (by decide) (hr.2.2 _ (by omega)).2.2.2.2 ?_
        refine q_iload_n d39_33 rfl ?_
        refine q_s2 d39_34 (Or.inr rfl) rfl (Nat.le_of_ble_eq_true rfl) (c35 (by omega) (by omega) ?_)
        refine b0_eq 46 d39_37 (by decide) (fun h37 => ?_) (fun h37 => ?_)
        · refine n_iinc 1 d39_46 (by decide) rfl rfl ?_
          refine q_goto 6 d39_49 (by decide) ?_
          first
          | (refine ih (i + 1) _ (by omega) (by omega) (or_lt (n := 12) hl (pow_lt (by omega))) (fun k => ?_); rw [or_bit_t, hb k]; by_cases e : k = i; (subst e; simp_all); (rw [decide_eq_false e, Bool.or_false, show decide (k < i + 1) = decide (k < i) by simp only [decide_eq_decide]; omega]))
          | (refine ih (i + 1) _ (by omega) (by omega) hl (fun k => ?_); rw [hb k]; by_cases e : k = i; (subst e; simp_all); (rw [show decide (k < i + 1) = decide (k < i) by simp only [decide_eq_decide]; omega]))
        · refine q_iload_n d39_40 rfl ?_
          refine q_iconstN (z := 1) d39_41 ?_
          refine q_iload_n d39_42 rfl ?_
          refine n_ishl1 d39_43 (by omega) ?_
          refine n_ior d39_44 ?_
          refine q_istore_n d39_45 (by decide) rfl ?_
          refine n_iinc 1 d39_46 (by decide) rfl rfl ?_
          refine q_goto 6 d39_49 (by decide) ?_
          first
          | (refine ih (i + 1) _ (by omega) (by omega) (or_lt (n := 12) hl (pow_lt (by omega))) (fun k => ?_); rw [or_bit_t, hb k]; by_cases e : k = i; (subst e; simp_all); (rw [decide_eq_false e, Bool.or_false, show decide (k < i + 1) = decide (k < i) by simp only [decide_eq_decide]; omega]))
          | (refine ih (i + 1) _ (by omega) (by omega) hl (fun k => ?_); rw [hb k]; by_cases e : k = i; (subst e; simp_all); (rw [show decide (k < i + 1) = decide (k < i) by simp only [decide_eq_decide]; omega]))
theorem c39 {d : Nat} {M : zM} {Q : Option Value → zM → Prop} {a : Nat} {T : yT} {s : Nat} (hp : SPr M a) (hr : RP M a T) (ho : OKT T) (hs : s < tn T) (k : Q (some (.int (nI (ybd T s)))) M) : qC (d + 2) 39 [.ref a, .int (nI s)] M Q := by
  have hn := ho.n
  refine qC_of (by decide) (Nat.le_of_ble_eq_true rfl) ?_
  refine q_iconstN (z := 1) d39_0 ?_
  refine q_iload_n d39_1 rfl ?_
  refine n_ishl1 d39_2 (by omega) ?_
  refine q_istore_n d39_3 (by decide) rfl ?_
  refine q_iconstN (z := 0) d39_4 ?_
  refine q_istore_n d39_5 (by decide) rfl ?_
  exact l39 hp hr ho hs k (tn T + 1) 0 _ (by omega) (by omega) (Nat.lt_of_lt_of_le (pow_lt (by omega : s < 12)) (by decide)) (fun j => by rw [Nat.testBit_two_pow]; simp [eq_comm])
def yac (x : Int32) : Nat := match zix x 6 with
  | none => 0
  | some k => 2 ^ k
def yao (T : yT) (i : Nat) : Nat := yac (tf T i) ||| yac (ts T i)
theorem yac_lt (x : Int32) : yac x < 64 := by
  unfold yac
  split
  · omega
  · rename_i k h
    exact Nat.lt_of_lt_of_le (pow_lt (zix_some h).1) (by decide)
theorem d41_0 : decode (zB 41) 0 = .ok (.aload_n 0, 1) := by decide +kernel
theorem d41_1 : decode (zB 41) 1 = .ok (.getfield 15, 3) := by decide +kernel
theorem d41_4 : decode (zB 41) 4 = .ok (.iload_n 1, 1) := by decide +kernel
theorem d41_5 : decode (zB 41) 5 = .ok (.iaload, 1) := by decide +kernel
theorem d41_6 : decode (zB 41) 6 = .ok (.invokestatic 59, 3) := by decide +kernel
theorem d41_9 : decode (zB 41) 9 = .ok (.ifCond .eq 14, 3) := by decide +kernel
theorem d41_12 : decode (zB 41) 12 = .ok (.iconst 1, 1) := by decide +kernel
theorem d41_13 : decode (zB 41) 13 = .ok (.aload_n 0, 1) := by decide +kernel
theorem d41_14 : decode (zB 41) 14 = .ok (.getfield 15, 3) := by decide +kernel
theorem d41_17 : decode (zB 41) 17 = .ok (.iload_n 1, 1) := by decide +kernel
theorem d41_18 : decode (zB 41) 18 = .ok (.iaload, 1) := by decide +kernel
theorem d41_19 : decode (zB 41) 19 = .ok (.ishl, 1) := by decide +kernel
theorem d41_20 : decode (zB 41) 20 = .ok (.goto 4, 3) := by decide +kernel
theorem d41_23 : decode (zB 41) 23 = .ok (.iconst 0, 1) := by decide +kernel
theorem d41_24 : decode (zB 41) 24 = .ok (.istore_n 2, 1) := by decide +kernel
theorem d41_25 : decode (zB 41) 25 = .ok (.aload_n 0, 1) := by decide +kernel
theorem d41_26 : decode (zB 41) 26 = .ok (.getfield 18, 3) := by decide +kernel
theorem d41_29 : decode (zB 41) 29 = .ok (.iload_n 1, 1) := by decide +kernel
theorem d41_30 : decode (zB 41) 30 = .ok (.iaload, 1) := by decide +kernel
theorem d41_31 : decode (zB 41) 31 = .ok (.invokestatic 59, 3) := by decide +kernel
theorem d41_34 : decode (zB 41) 34 = .ok (.ifCond .eq 14, 3) := by decide +kernel
theorem d41_37 : decode (zB 41) 37 = .ok (.iconst 1, 1) := by decide +kernel
theorem d41_38 : decode (zB 41) 38 = .ok (.aload_n 0, 1) := by decide +kernel
theorem d41_39 : decode (zB 41) 39 = .ok (.getfield 18, 3) := by decide +kernel
theorem d41_42 : decode (zB 41) 42 = .ok (.iload_n 1, 1) := by decide +kernel
theorem d41_43 : decode (zB 41) 43 = .ok (.iaload, 1) := by decide +kernel
theorem d41_44 : decode (zB 41) 44 = .ok (.ishl, 1) := by decide +kernel
theorem d41_45 : decode (zB 41) 45 = .ok (.goto 4, 3) := by decide +kernel
theorem d41_48 : decode (zB 41) 48 = .ok (.iconst 0, 1) := by decide +kernel
theorem d41_49 : decode (zB 41) 49 = .ok (.istore_n 3, 1) := by decide +kernel
theorem d41_50 : decode (zB 41) 50 = .ok (.iload_n 2, 1) := by decide +kernel
theorem d41_51 : decode (zB 41) 51 = .ok (.iload_n 3, 1) := by decide +kernel
theorem d41_52 : decode (zB 41) 52 = .ok (.ior, 1) := by decide +kernel
theorem d41_53 : decode (zB 41) 53 = .ok (.ireturn, 1) := by decide +kernel
theorem c41 {d : Nat} {M : zM} {Q : Option Value → zM → Prop} {a : Nat} {T : yT} {s : Nat} (hp : SPr M a) (hr : RP M a T) (hs : s < tn T) (hn : tn T ≤ 12) (k : Q (some (.int (nI (yao T s)))) M) : qC (d + 3) 41 [.ref a, .int (nI s)] M Q := by
  refine qC_of (by decide) (Nat.le_of_ble_eq_true rfl) ?_
  rcases zix_c (tf T s) (n := 6) (by omega) with ⟨j1, h1, e1, z1⟩ | ⟨z1, h1⟩ <;> rcases zix_c (ts T s) (n := 6) (by omega) with ⟨j2, h2, e2, z2⟩ | ⟨z2, h2⟩
  · refine q_aload_n d41_0 rfl ?_
    refine q_getr (c := 1) (f := 1) d41_1 ⟨rfl, rfl⟩ hp.1 (hp.2 1 (by decide)).1 ?_
    refine q_iload_n d41_4 rfl ?_
    refine n_iald d41_5 (hp.2 1 (by decide)).2 (by omega) (by decide) ((hr.2.2 _ hs).2.1.trans e1) ?_
    refine q_s1 d41_6 (Or.inr rfl) rfl (Nat.le_of_ble_eq_true rfl) (c26t h1 ?_)
    refine n0_eq 23 d41_9 (by decide) (by decide) (fun q => absurd q (by decide)) (fun _ => ?_)
    refine q_iconstN (z := 1) d41_12 ?_
    refine q_aload_n d41_13 rfl ?_
    refine q_getr (c := 1) (f := 1) d41_14 ⟨rfl, rfl⟩ hp.1 (hp.2 1 (by decide)).1 ?_
    refine q_iload_n d41_17 rfl ?_
    refine n_iald d41_18 (hp.2 1 (by decide)).2 (by omega) (by decide) ((hr.2.2 _ hs).2.1.trans e1) ?_
    refine n_ishl1 d41_19 (by omega) ?_
    refine q_goto 24 d41_20 (by decide) ?_
    refine q_istore_n d41_24 (by decide) rfl ?_
    refine q_aload_n d41_25 rfl ?_
    refine q_getr (c := 1) (f := 2) d41_26 ⟨rfl, rfl⟩ hp.1 (hp.2 2 (by decide)).1 ?_
    refine q_iload_n d41_29 rfl ?_
    refine n_iald d41_30 (hp.2 2 (by decide)).2 (by omega) (by decide) ((hr.2.2 _ hs).2.2.1.trans e2) ?_
    refine q_s1 d41_31 (Or.inr rfl) rfl (Nat.le_of_ble_eq_true rfl) (c26t h2 ?_)
    refine n0_eq 48 d41_34 (by decide) (by decide) (fun q => absurd q (by decide)) (fun _ => ?_)
    refine q_iconstN (z := 1) d41_37 ?_
    refine q_aload_n d41_38 rfl ?_
    refine q_getr (c := 1) (f := 2) d41_39 ⟨rfl, rfl⟩ hp.1 (hp.2 2 (by decide)).1 ?_
    refine q_iload_n d41_42 rfl ?_
    refine n_iald d41_43 (hp.2 2 (by decide)).2 (by omega) (by decide) ((hr.2.2 _ hs).2.2.1.trans e2) ?_
    refine n_ishl1 d41_44 (by omega) ?_
    refine q_goto 49 d41_45 (by decide) ?_
    refine q_istore_n d41_49 (by decide) rfl ?_
    refine q_iload_n d41_50 rfl ?_
    refine q_iload_n d41_51 rfl ?_
    refine n_ior d41_52 ?_
    refine q_iret d41_53 rfl ?_
    refine nK k (congrArg nI ?_); unfold yao yac; rw [z1, z2]
  · refine q_aload_n d41_0 rfl ?_
    refine q_getr (c := 1) (f := 1) d41_1 ⟨rfl, rfl⟩ hp.1 (hp.2 1 (by decide)).1 ?_
    refine q_iload_n d41_4 rfl ?_
    refine n_iald d41_5 (hp.2 1 (by decide)).2 (by omega) (by decide) ((hr.2.2 _ hs).2.1.trans e1) ?_
    refine q_s1 d41_6 (Or.inr rfl) rfl (Nat.le_of_ble_eq_true rfl) (c26t h1 ?_)
    refine n0_eq 23 d41_9 (by decide) (by decide) (fun q => absurd q (by decide)) (fun _ => ?_)
    refine q_iconstN (z := 1) d41_12 ?_
    refine q_aload_n d41_13 rfl ?_
    refine q_getr (c := 1) (f := 1) d41_14 ⟨rfl, rfl⟩ hp.1 (hp.2 1 (by decide)).1 ?_
    refine q_iload_n d41_17 rfl ?_
    refine n_iald d41_18 (hp.2 1 (by decide)).2 (by omega) (by decide) ((hr.2.2 _ hs).2.1.trans e1) ?_
    refine n_ishl1 d41_19 (by omega) ?_
    refine q_goto 24 d41_20 (by decide) ?_
    refine q_istore_n d41_24 (by decide) rfl ?_
    refine q_aload_n d41_25 rfl ?_
    refine q_getr (c := 1) (f := 2) d41_26 ⟨rfl, rfl⟩ hp.1 (hp.2 2 (by decide)).1 ?_
    refine q_iload_n d41_29 rfl ?_
    refine n_iald d41_30 (hp.2 2 (by decide)).2 (by omega) (by decide) (hr.2.2 _ (by omega)).2.2.1 ?_
    refine q_s1 d41_31 (Or.inr rfl) rfl (Nat.le_of_ble_eq_true rfl) (c26f z2 ?_)
    refine n0_eq 48 d41_34 (by decide) (by decide) (fun _ => ?_) (fun q => absurd q (by decide))
    refine q_iconstN (z := 0) d41_48 ?_
    refine q_istore_n d41_49 (by decide) rfl ?_
    refine q_iload_n d41_50 rfl ?_
    refine q_iload_n d41_51 rfl ?_
    refine n_ior d41_52 ?_
    refine q_iret d41_53 rfl ?_
    refine nK k (congrArg nI ?_); unfold yao yac; rw [z1, z2]
  · refine q_aload_n d41_0 rfl ?_
    refine q_getr (c := 1) (f := 1) d41_1 ⟨rfl, rfl⟩ hp.1 (hp.2 1 (by decide)).1 ?_
    refine q_iload_n d41_4 rfl ?_
    refine n_iald d41_5 (hp.2 1 (by decide)).2 (by omega) (by decide) (hr.2.2 _ (by omega)).2.1 ?_
    refine q_s1 d41_6 (Or.inr rfl) rfl (Nat.le_of_ble_eq_true rfl) (c26f z1 ?_)
    refine n0_eq 23 d41_9 (by decide) (by decide) (fun _ => ?_) (fun q => absurd q (by decide))
    refine q_iconstN (z := 0) d41_23 ?_
    refine q_istore_n d41_24 (by decide) rfl ?_
    refine q_aload_n d41_25 rfl ?_
    refine q_getr (c := 1) (f := 2) d41_26 ⟨rfl, rfl⟩ hp.1 (hp.2 2 (by decide)).1 ?_
    refine q_iload_n d41_29 rfl ?_
    refine n_iald d41_30 (hp.2 2 (by decide)).2 (by omega) (by decide) ((hr.2.2 _ hs).2.2.1.trans e2) ?_
    refine q_s1 d41_31 (Or.inr rfl) rfl (Nat.le_of_ble_eq_true rfl) (c26t h2 ?_)
    refine n0_eq 48 d41_34 (by decide) (by decide) (fun q => absurd q (by decide)) (fun _ => ?_)
    refine q_iconstN (z := 1) d41_37 ?_
    refine q_aload_n d41_38 rfl ?_
    refine q_getr (c := 1) (f := 2) d41_39 ⟨rfl, rfl⟩ hp.1 (hp.2 2 (by decide)).1 ?_
    refine q_iload_n d41_42 rfl ?_
    refine n_iald d41_43 (hp.2 2 (by decide)).2 (by omega) (by decide) ((hr.2.2 _ hs).2.2.1.trans e2) ?_
    refine n_ishl1 d41_44 (by omega) ?_
    refine q_goto 49 d41_45 (by decide) ?_
    refine q_istore_n d41_49 (by decide) rfl ?_
    refine q_iload_n d41_50 rfl ?_
    refine q_iload_n d41_51 rfl ?_
    refine n_ior d41_52 ?_
    refine q_iret d41_53 rfl ?_
    refine nK k (congrArg nI ?_); unfold yao yac; rw [z1, z2]
  · refine q_aload_n d41_0 rfl ?_
    refine q_getr (c := 1) (f := 1) d41_1 ⟨rfl, rfl⟩ hp.1 (hp.2 1 (by decide)).1 ?_
    refine q_iload_n d41_4 rfl ?_
    refine n_iald d41_5 (hp.2 1 (by decide)).2 (by omega) (by decide) (hr.2.2 _ (by omega)).2.1 ?_
    refine q_s1 d41_6 (Or.inr rfl) rfl (Nat.le_of_ble_eq_true rfl) (c26f z1 ?_)
    refine n0_eq 23 d41_9 (by decide) (by decide) (fun _ => ?_) (fun q => absurd q (by decide))
    refine q_iconstN (z := 0) d41_23 ?_
    refine q_istore_n d41_24 (by decide) rfl ?_
    refine q_aload_n d41_25 rfl ?_
    refine q_getr (c := 1) (f := 2) d41_26 ⟨rfl, rfl⟩ hp.1 (hp.2 2 (by decide)).1 ?_
    refine q_iload_n d41_29 rfl ?_
    refine n_iald d41_30 (hp.2 2 (by decide)).2 (by omega) (by decide) (hr.2.2 _ (by omega)).2.2.1 ?_
    refine q_s1 d41_31 (Or.inr rfl) rfl (Nat.le_of_ble_eq_true rfl) (c26f z2 ?_)
    refine n0_eq 48 d41_34 (by decide) (by decide) (fun _ => ?_) (fun q => absurd q (by decide))
    refine q_iconstN (z := 0) d41_48 ?_
    refine q_istore_n d41_49 (by decide) rfl ?_
    refine q_iload_n d41_50 rfl ?_
    refine q_iload_n d41_51 rfl ?_
    refine n_ior d41_52 ?_
    refine q_iret d41_53 rfl ?_
    refine nK k (congrArg nI ?_); unfold yao yac; rw [z1, z2]
theorem d15_0 : decode (zB 15) 0 = .ok (.aload_n 0, 1) := by decide +kernel
theorem d15_1 : decode (zB 15) 1 = .ok (.iconst 0, 1) := by decide +kernel
theorem d15_2 : decode (zB 15) 2 = .ok (.putfield 34, 3) := by decide +kernel
theorem d15_5 : decode (zB 15) 5 = .ok (.aload_n 0, 1) := by decide +kernel
theorem d15_6 : decode (zB 15) 6 = .ok (.iconst (-1), 1) := by decide +kernel
theorem d15_7 : decode (zB 15) 7 = .ok (.putfield 30, 3) := by decide +kernel
theorem d15_10 : decode (zB 15) 10 = .ok (.return_, 1) := by decide +kernel
theorem c15 {d : Nat} {M : zM} {Q : Option Value → zM → Prop} {a : Nat} (hp : SPr M a) (k : Q none (zwi (zwi M a 6 (nI 0)) a 7 (-1))) : qC (d + 1) 15 [.ref a] M Q := by
  refine qC_of (by decide) (Nat.le_of_ble_eq_true rfl) ?_
  refine q_aload_n d15_0 rfl ?_
  refine q_iconstN (z := 0) d15_1 ?_
  refine q_puti (c := 1) (f := 6) d15_2 ⟨rfl, rfl, by decide⟩ hp.1 ?_
  refine q_aload_n d15_5 rfl ?_
  refine q_iconst (x := (-1)) d15_6 rfl ?_
  refine q_puti (c := 1) (f := 7) d15_7 ⟨rfl, rfl, by decide⟩ hp.1 ?_
  refine q_ret d15_10 rfl ?_
  exact k
end
section
/-! ===== contracts: purses ===== -/
/-- only ints of S are written -/
def Fi (S : Nat → Nat → Prop) (M M' : zM) : Prop := (∀ a k, ¬ S a k → zi M' a k = zi M a k) ∧ zr M' = zr M ∧ zl M' = zl M ∧ zk M' = zk M ∧ zn M' = zn M ∧ zs M' = zs M
theorem Fi.refl (S : Nat → Nat → Prop) (M : zM) : Fi S M M := ⟨fun _ _ _ => rfl, rfl, rfl, rfl, rfl, rfl⟩
theorem Fi.mono {S S' : Nat → Nat → Prop} {M M' : zM} (h : Fi S M M') (hs : ∀ a k, S a k → S' a k) : Fi S' M M' := ⟨fun a k q => h.1 a k (fun p => q (hs a k p)), h.2⟩
theorem Fi.trans {S : Nat → Nat → Prop} {M M' M'' : zM} (h : Fi S M M') (g : Fi S M' M'') : Fi S M M'' :=
  ⟨fun a k q => (g.1 a k q).trans (h.1 a k q), g.2.1.trans h.2.1, g.2.2.1.trans h.2.2.1, g.2.2.2.1.trans h.2.2.2.1, g.2.2.2.2.1.trans h.2.2.2.2.1, g.2.2.2.2.2.trans h.2.2.2.2.2⟩
theorem Fi.fr {S : Nat → Nat → Prop} {M M' : zM} (h : Fi S M M') : Fr S M M' := ⟨fun a k q => ⟨h.1 a k q, congrFun (congrFun h.2.1 a) k⟩, h.2.2⟩
theorem Fi.wi {S : Nat → Nat → Prop} {M M' : zM} {a k : Nat} {v : Int32} (h : Fi S M M') (hs : S a k) : Fi S M (zwi M' a k v) := by
  refine ⟨fun b j q => ?_, h.2⟩
  rw [wi_eq, if_neg (by rintro ⟨rfl, rfl⟩; exact q hs)]; exact h.1 b j q
theorem Fi.cp {S : Nat → Nat → Prop} {M M' : zM} {a0 s a d n : Nat} (h : Fi S M M') (hs : ∀ j, d ≤ j → j < d + n → S a j) : Fi S M (zcp M' a0 s a d n) := by
  refine ⟨fun b j q => ?_, h.2⟩
  rw [cp_eq, if_neg (by rintro ⟨rfl, h1, h2⟩; exact q (hs j h1 h2))]; exact h.1 b j q
theorem Fi.k {S : Nat → Nat → Prop} {M M' : zM} (h : Fi S M M') (a : Nat) : zk M' a = zk M a := congrFun h.2.2.2.1 a
theorem Fi.r {S : Nat → Nat → Prop} {M M' : zM} (h : Fi S M M') (a f : Nat) : zr M' a f = zr M a f := congrFun (congrFun h.2.1 a) f
theorem Fi.sc {S : Nat → Nat → Prop} {M M' : zM} (h : Fi S M M') (hS : SC M) (hs : ∀ a k, a < 3 → ¬ S a k) : SC M' := SC_of hS (fun a _ => h.k a) (fun a f _ _ => h.r a f) (fun a j ha => h.1 a j (hs a j ha))
theorem Fi.sx {S : Nat → Nat → Prop} {M M' : zM} (h : Fi S M M') (hS : SX M) : SX M' := SX_of hS (fun a _ => h.k a) (fun a f _ _ => h.r a f)
theorem SPr_fi {S : Nat → Nat → Prop} {M M' : zM} {a : Nat} (h : SPr M a) (f : Fi S M M') : SPr M' a := ⟨(f.k _).trans h.1, fun g hg => ⟨(f.r _ _).trans (h.2 g hg).1, (f.k _).trans (h.2 g hg).2⟩⟩
theorem SPu_fi {S : Nat → Nat → Prop} {M M' : zM} {a : Nat} (h : SPu M a) (f : Fi S M M') : SPu M' a := ⟨(f.k _).trans h.1, (f.r _ _).trans h.2.1, (f.k _).trans h.2.2⟩
theorem SSg_fi {S : Nat → Nat → Prop} {M M' : zM} {a : Nat} (h : SSg M a) (f : Fi S M M') : SSg M' a := ⟨(f.k _).trans h.1, (f.r _ _).trans h.2.1, fun g hg => (f.r _ _).trans (h.2.2.1 g hg), fun g hg => (f.k _).trans (h.2.2.2 g hg)⟩
theorem RPu_b {M : zM} {u k : Nat} {P : yP} {v : Int32} (h : RPu M u P) : RPu (zwi M (u + 1) k v) u (yu P.1 k v, P.2) := by
  refine ⟨fun j hj => ?_, (wi_n (Or.inl (by omega))).trans h.2.1, (wi_n (Or.inl (by omega))).trans h.2.2⟩
  by_cases e : j = k
  · subst e; rw [wi_s]; exact (yu_s _ _ _).symm
  · rw [wi_n (Or.inr e), h.1 j hj]; exact (yu_n e).symm
theorem RPu_h {M : zM} {u : Nat} {P : yP} {v : Int32} (h : RPu M u P) : RPu (zwi M u 1 v) u (P.1, v, P.2.2) :=
  ⟨fun j hj => (wi_n (Or.inl (by omega))).trans (h.1 j hj), wi_s _ _ _ _, (wi_n (Or.inr (by decide))).trans h.2.2⟩
theorem RPu_m {M : zM} {u : Nat} {P : yP} {v : Int32} (h : RPu M u P) : RPu (zwi M u 2 v) u (P.1, P.2.1, v) :=
  ⟨fun j hj => (wi_n (Or.inl (by omega))).trans (h.1 j hj), (wi_n (Or.inr (by decide))).trans h.2.1, wi_s _ _ _ _⟩
def FU (u : Nat) : Nat → Nat → Prop := Fb u (u + 2)
theorem FU_0 (u k : Nat) : FU u u k := ⟨Nat.le_refl _, by omega⟩
theorem FU_1 (u k : Nat) : FU u (u + 1) k := ⟨by omega, by omega⟩
theorem FU_x {u a : Nat} (h : a + 7 ≤ u) : ∀ b j, a ≤ b → b < a + 6 → ¬ FU u b j := fun b j h1 h2 q => by have := q.1; omega
theorem d6_0 : decode (zB 6) 0 = .ok (.iconst 0, 1) := by decide +kernel
theorem d6_1 : decode (zB 6) 1 = .ok (.istore_n 2, 1) := by decide +kernel
theorem d6_2 : decode (zB 6) 2 = .ok (.aload_n 0, 1) := by decide +kernel
theorem d6_3 : decode (zB 6) 3 = .ok (.arraylength, 1) := by decide +kernel
theorem d6_4 : decode (zB 6) 4 = .ok (.istore_n 3, 1) := by decide +kernel
theorem d6_5 : decode (zB 6) 5 = .ok (.iload_n 2, 1) := by decide +kernel
theorem d6_6 : decode (zB 6) 6 = .ok (.iload_n 3, 1) := by decide +kernel
theorem d6_7 : decode (zB 6) 7 = .ok (.if_icmp .ge 13, 3) := by decide +kernel
theorem d6_10 : decode (zB 6) 10 = .ok (.aload_n 0, 1) := by decide +kernel
theorem d6_11 : decode (zB 6) 11 = .ok (.iload_n 2, 1) := by decide +kernel
theorem d6_12 : decode (zB 6) 12 = .ok (.iload_n 1, 1) := by decide +kernel
theorem d6_13 : decode (zB 6) 13 = .ok (.iastore, 1) := by decide +kernel
theorem d6_14 : decode (zB 6) 14 = .ok (.iinc 2 1, 3) := by decide +kernel
theorem d6_17 : decode (zB 6) 17 = .ok (.goto (-12), 3) := by decide +kernel
theorem d6_20 : decode (zB 6) 20 = .ok (.return_, 1) := by decide +kernel
theorem l6 {d : Nat} {Q : Option Value → zM → Prop} {b N : Nat} {v : Int32} {M0 : zM} (hk : zk M0 b = (20, N)) (hN : N < 2147483648) (k : ∀ M', (∀ j, j < N → zi M' b j = v) → Fi (fun a _ => a = b) M0 M' → Q none M') : ∀ (r i : Nat) (M1 : zM), i ≤ N → N < i + r → (∀ j, j < i → zi M1 b j = v) → Fi (fun a _ => a = b) M0 M1 → qW (zEv (d + 0)) 6 Q 5 [(2, .int (nI i)), (3, .int (nI N)), (0, .ref b), (1, .int v)] [] M1 := by
  intro r
  induction r with
  | zero => intros; omega
  | succ r ih =>
    intro i M1 h1 h2 hv f
    refine q_iload_n d6_5 rfl ?_
    refine q_iload_n d6_6 rfl ?_
    refine nc_ge 20 d6_7 (by decide) (by omega) (by omega) (fun h7 => ?_) (fun h7 => ?_)
    · refine q_ret d6_20 rfl ?_
      exact k _ (fun j hj => hv j (by omega)) f
    · refine q_aload_n d6_10 rfl ?_
      refine q_iload_n d6_11 rfl ?_
      refine q_iload_n d6_12 rfl ?_
      refine n_iast d6_13 ((f.k _).trans hk) (by omega) hN ?_
      refine n_iinc 1 d6_14 (by decide) rfl rfl ?_
      refine q_goto 5 d6_17 (by decide) ?_
      exact ih (i + 1) _ (by omega) (by omega) (fun j hj => by by_cases e : j = i; (subst e; exact wi_s _ _ _ _); (rw [wi_n (Or.inr e)]; exact hv j (by omega))) (f.wi rfl)
theorem c6 {d : Nat} {M : zM} {Q : Option Value → zM → Prop} {b N : Nat} {v : Int32} (hk : zk M b = (20, N)) (hN : N < 2147483648) (k : ∀ M', (∀ j, j < N → zi M' b j = v) → Fi (fun a _ => a = b) M M' → Q none M') : qC (d + 1) 6 [.ref b, .int v] M Q := by
  refine qC_of (by decide) (Nat.le_of_ble_eq_true rfl) ?_
  refine q_iconstN (z := 0) d6_0 ?_
  refine q_istore_n d6_1 (by decide) rfl ?_
  refine q_aload_n d6_2 rfl ?_
  refine n_alen d6_3 (Or.inl hk) ?_
  refine q_istore_n d6_4 (by decide) rfl ?_
  refine q_iload_n d6_5 rfl ?_
  refine q_iload_n d6_6 rfl ?_
  refine nc_ge 20 d6_7 (by decide) (by omega) (by omega) (fun h7 => ?_) (fun h7 => ?_)
  · refine q_ret d6_20 rfl ?_
    exact k _ (fun j hj => absurd hj (by omega)) (Fi.refl _ _)
  · refine q_aload_n d6_10 rfl ?_
    refine q_iload_n d6_11 rfl ?_
    refine q_iload_n d6_12 rfl ?_
    refine n_iast d6_13 hk (by omega) hN ?_
    refine n_iinc 1 d6_14 (by decide) rfl rfl ?_
    refine q_goto 5 d6_17 (by decide) ?_
    exact l6 hk hN k (N + 1) 1 _ (by omega) (by omega) (fun j hj => by rw [show j = 0 by omega]; exact wi_s _ _ _ _) ((Fi.refl _ _).wi rfl)
theorem d49_0 : decode (zB 49) 0 = .ok (.iload_n 1, 1) := by decide +kernel
theorem d49_1 : decode (zB 49) 1 = .ok (.ifCond .lt 9, 3) := by decide +kernel
theorem d49_4 : decode (zB 49) 4 = .ok (.iload_n 1, 1) := by decide +kernel
theorem d49_5 : decode (zB 49) 5 = .ok (.bipush 6, 2) := by decide +kernel
theorem d49_7 : decode (zB 49) 7 = .ok (.if_icmp .lt 5, 3) := by decide +kernel
theorem d49_10 : decode (zB 49) 10 = .ok (.iconst 0, 1) := by decide +kernel
theorem d49_11 : decode (zB 49) 11 = .ok (.ireturn, 1) := by decide +kernel
theorem d49_12 : decode (zB 49) 12 = .ok (.aload_n 0, 1) := by decide +kernel
theorem d49_13 : decode (zB 49) 13 = .ok (.getfield 9, 3) := by decide +kernel
theorem d49_16 : decode (zB 49) 16 = .ok (.iload_n 1, 1) := by decide +kernel
theorem d49_17 : decode (zB 49) 17 = .ok (.iaload, 1) := by decide +kernel
theorem d49_18 : decode (zB 49) 18 = .ok (.iload_n 2, 1) := by decide +kernel
theorem d49_19 : decode (zB 49) 19 = .ok (.iadd, 1) := by decide +kernel
theorem d49_20 : decode (zB 49) 20 = .ok (.istore_n 3, 1) := by decide +kernel
theorem d49_21 : decode (zB 49) 21 = .ok (.iload_n 3, 1) := by decide +kernel
theorem d49_22 : decode (zB 49) 22 = .ok (.ifCond .ge 7, 3) := by decide +kernel
theorem d49_25 : decode (zB 49) 25 = .ok (.iconst 2, 1) := by decide +kernel
theorem d49_26 : decode (zB 49) 26 = .ok (.goto 15, 3) := by decide +kernel
theorem d49_29 : decode (zB 49) 29 = .ok (.iload_n 3, 1) := by decide +kernel
theorem d49_30 : decode (zB 49) 30 = .ok (.sipush 9999, 3) := by decide +kernel
theorem d49_33 : decode (zB 49) 33 = .ok (.if_icmp .le 7, 3) := by decide +kernel
theorem d49_36 : decode (zB 49) 36 = .ok (.iconst 3, 1) := by decide +kernel
theorem d49_37 : decode (zB 49) 37 = .ok (.goto 4, 3) := by decide +kernel
theorem d49_40 : decode (zB 49) 40 = .ok (.iconst 0, 1) := by decide +kernel
theorem d49_41 : decode (zB 49) 41 = .ok (.ireturn, 1) := by decide +kernel
theorem c49 {d : Nat} {M : zM} {Q : Option Value → zM → Prop} {u : Nat} {P : yP} {x m : Int32} (hu : SPu M u) (hP : RPu M u P) (k : Q (some (.int (ybe P x m))) M) : qC (d + 1) 49 [.ref u, .int x, .int m] M Q := by
  refine qC_of (by decide) (Nat.le_of_ble_eq_true rfl) ?_
  rcases zix_c x (n := 6) (by omega) with ⟨j, hj, rfl, e⟩ | ⟨e, hn2⟩
  · refine q_iload_n d49_0 rfl ?_
    refine n0_lt 10 d49_1 (by decide) (by omega) (fun q => absurd q (Nat.not_lt_zero _)) (fun _ => ?_)
    refine q_iload_n d49_4 rfl ?_
    refine q_bipush (x := nI 6) d49_5 rfl ?_
    refine nc_lt 12 d49_7 (by decide) (by omega) (by omega) (fun h7 => ?_) (fun h7 => (False.elim (by omega)))
    refine q_aload_n d49_12 rfl ?_
    refine q_getr (c := 2) (f := 0) d49_13 ⟨rfl, rfl⟩ hu.1 hu.2.1 ?_
    refine q_iload_n d49_16 rfl ?_
    refine n_iald d49_17 hu.2.2 (by omega) (by decide) (hP.1 _ (by omega)) ?_
    refine q_iload_n d49_18 rfl ?_
    refine q_iadd d49_19 ?_
    refine q_istore_n d49_20 (by decide) rfl ?_
    refine q_iload_n d49_21 rfl ?_
    refine i0_ge 29 d49_22 (by decide) (fun h22 => ?_) (fun h22 => ?_)
    · refine q_iload_n d49_29 rfl ?_
      refine q_sipush (x := nI 9999) d49_30 rfl ?_
      refine ic_le 40 d49_33 (by decide) (fun h33 => ?_) (fun h33 => ?_)
      · refine q_iconstN (z := 0) d49_40 ?_
        refine q_iret d49_41 rfl ?_
        refine nK k ?_; unfold ybe; rw [e]; show _ = yck (P.1 j + m); unfold yck; first | exact absurd hj (by omega) | (rw [if_pos h22]; first | (rw [if_pos h33]; rfl) | (rw [if_neg h33]; rfl)) | (rw [if_neg h22]; rfl)
      · refine q_iconstN (z := 3) d49_36 ?_
        refine q_goto 41 d49_37 (by decide) ?_
        refine q_iret d49_41 rfl ?_
        refine nK k ?_; unfold ybe; rw [e]; show _ = yck (P.1 j + m); unfold yck; first | exact absurd hj (by omega) | (rw [if_pos h22]; first | (rw [if_pos h33]; rfl) | (rw [if_neg h33]; rfl)) | (rw [if_neg h22]; rfl)
    · refine q_iconstN (z := 2) d49_25 ?_
      refine q_goto 41 d49_26 (by decide) ?_
      refine q_iret d49_41 rfl ?_
      refine nK k ?_; unfold ybe; rw [e]; show _ = yck (P.1 j + m); unfold yck; first | exact absurd hj (by omega) | (rw [if_pos h22]; first | (rw [if_pos h33]; rfl) | (rw [if_neg h33]; rfl)) | (rw [if_neg h22]; rfl)
  · refine q_iload_n d49_0 rfl ?_
    refine i0_lt 10 d49_1 (by decide) (fun h1 => ?_) (fun h1 => ?_)
    · refine q_iconstN (z := 0) d49_10 ?_
      refine q_iret d49_11 rfl ?_
      first | exact nK k (by unfold ybe; rw [e]; rfl) | exact absurd (zix_of h1 (fun q => Int32.not_le.mpr h7 q) (by decide)) hn2
    · refine q_iload_n d49_4 rfl ?_
      refine q_bipush (x := nI 6) d49_5 rfl ?_
      refine ic_lt 12 d49_7 (by decide) (fun h7 => (False.elim (hn2 (zix_of h1 (fun q => (Int32.not_le.mpr h7) q) (by decide))))) (fun h7 => ?_)
      refine q_iconstN (z := 0) d49_10 ?_
      refine q_iret d49_11 rfl ?_
      first | exact nK k (by unfold ybe; rw [e]; rfl) | exact absurd (zix_of h1 (fun q => Int32.not_le.mpr h7 q) (by decide)) hn2
theorem d52_0 : decode (zB 52) 0 = .ok (.iload_n 1, 1) := by decide +kernel
theorem d52_1 : decode (zB 52) 1 = .ok (.ifCond .lt 19, 3) := by decide +kernel
theorem d52_4 : decode (zB 52) 4 = .ok (.iload_n 1, 1) := by decide +kernel
theorem d52_5 : decode (zB 52) 5 = .ok (.bipush 6, 2) := by decide +kernel
theorem d52_7 : decode (zB 52) 7 = .ok (.if_icmp .ge 13, 3) := by decide +kernel
theorem d52_10 : decode (zB 52) 10 = .ok (.aload_n 0, 1) := by decide +kernel
theorem d52_11 : decode (zB 52) 11 = .ok (.getfield 9, 3) := by decide +kernel
theorem d52_14 : decode (zB 52) 14 = .ok (.iload_n 1, 1) := by decide +kernel
theorem d52_15 : decode (zB 52) 15 = .ok (.dup2, 1) := by decide +kernel
theorem d52_16 : decode (zB 52) 16 = .ok (.iaload, 1) := by decide +kernel
theorem d52_17 : decode (zB 52) 17 = .ok (.iload_n 2, 1) := by decide +kernel
theorem d52_18 : decode (zB 52) 18 = .ok (.iadd, 1) := by decide +kernel
theorem d52_19 : decode (zB 52) 19 = .ok (.iastore, 1) := by decide +kernel
theorem d52_20 : decode (zB 52) 20 = .ok (.return_, 1) := by decide +kernel
theorem c52 {d : Nat} {M : zM} {Q : Option Value → zM → Prop} {u : Nat} {P : yP} {x m : Int32} (hu : SPu M u) (hP : RPu M u P) (k : ∀ M', RPu M' u (ypu P x m) → Fi (FU u) M M' → Q none M') : qC (d + 1) 52 [.ref u, .int x, .int m] M Q := by
  refine qC_of (by decide) (Nat.le_of_ble_eq_true rfl) ?_
  rcases zix_c x (n := 6) (by omega) with ⟨j, hj, rfl, e⟩ | ⟨e, hn2⟩
  · refine q_iload_n d52_0 rfl ?_
    refine n0_lt 20 d52_1 (by decide) (by omega) (fun q => absurd q (Nat.not_lt_zero _)) (fun _ => ?_)
    refine q_iload_n d52_4 rfl ?_
    refine q_bipush (x := nI 6) d52_5 rfl ?_
    refine nc_ge 20 d52_7 (by decide) (by omega) (by omega) (fun h7 => (False.elim (by omega))) (fun h7 => ?_)
    refine q_aload_n d52_10 rfl ?_
    refine q_getr (c := 2) (f := 0) d52_11 ⟨rfl, rfl⟩ hu.1 hu.2.1 ?_
    refine q_iload_n d52_14 rfl ?_
    refine q_dup2 d52_15 rfl rfl ?_
    refine n_iald d52_16 hu.2.2 (by omega) (by decide) (hP.1 _ (by omega)) ?_
    refine q_iload_n d52_17 rfl ?_
    refine q_iadd d52_18 ?_
    refine n_iast d52_19 hu.2.2 (by omega) (by decide) ?_
    refine q_ret d52_20 rfl ?_
    exact k _ (by unfold ypu; rw [e]; exact RPu_b hP) ((Fi.refl _ _).wi (FU_1 _ _))
  · refine q_iload_n d52_0 rfl ?_
    refine i0_lt 20 d52_1 (by decide) (fun h1 => ?_) (fun h1 => ?_)
    · refine q_ret d52_20 rfl ?_
      exact k _ (by unfold ypu; rw [e]; exact hP) (Fi.refl _ _)
    · refine q_iload_n d52_4 rfl ?_
      refine q_bipush (x := nI 6) d52_5 rfl ?_
      refine ic_ge 20 d52_7 (by decide) (fun h7 => ?_) (fun h7 => (False.elim (hn2 (zix_of h1 h7 (by decide)))))
      refine q_ret d52_20 rfl ?_
      exact k _ (by unfold ypu; rw [e]; exact hP) (Fi.refl _ _)
theorem d53_0 : decode (zB 53) 0 = .ok (.iload_n 1, 1) := by decide +kernel
theorem d53_1 : decode (zB 53) 1 = .ok (.ifCond .lt 45, 3) := by decide +kernel
theorem d53_4 : decode (zB 53) 4 = .ok (.iload_n 1, 1) := by decide +kernel
theorem d53_5 : decode (zB 53) 5 = .ok (.bipush 6, 2) := by decide +kernel
theorem d53_7 : decode (zB 53) 7 = .ok (.if_icmp .ge 39, 3) := by decide +kernel
theorem d53_10 : decode (zB 53) 10 = .ok (.iload_n 2, 1) := by decide +kernel
theorem d53_11 : decode (zB 53) 11 = .ok (.ifCond .lt 35, 3) := by decide +kernel
theorem d53_14 : decode (zB 53) 14 = .ok (.iload_n 2, 1) := by decide +kernel
theorem d53_15 : decode (zB 53) 15 = .ok (.bipush 6, 2) := by decide +kernel
theorem d53_17 : decode (zB 53) 17 = .ok (.if_icmp .ge 29, 3) := by decide +kernel
theorem d53_20 : decode (zB 53) 20 = .ok (.aload_n 0, 1) := by decide +kernel
theorem d53_21 : decode (zB 53) 21 = .ok (.getfield 9, 3) := by decide +kernel
theorem d53_24 : decode (zB 53) 24 = .ok (.iload_n 1, 1) := by decide +kernel
theorem d53_25 : decode (zB 53) 25 = .ok (.iaload, 1) := by decide +kernel
theorem d53_26 : decode (zB 53) 26 = .ok (.istore_n 3, 1) := by decide +kernel
theorem d53_27 : decode (zB 53) 27 = .ok (.aload_n 0, 1) := by decide +kernel
theorem d53_28 : decode (zB 53) 28 = .ok (.getfield 9, 3) := by decide +kernel
theorem d53_31 : decode (zB 53) 31 = .ok (.iload_n 1, 1) := by decide +kernel
theorem d53_32 : decode (zB 53) 32 = .ok (.aload_n 0, 1) := by decide +kernel
theorem d53_33 : decode (zB 53) 33 = .ok (.getfield 9, 3) := by decide +kernel
theorem d53_36 : decode (zB 53) 36 = .ok (.iload_n 2, 1) := by decide +kernel
theorem d53_37 : decode (zB 53) 37 = .ok (.iaload, 1) := by decide +kernel
theorem d53_38 : decode (zB 53) 38 = .ok (.iastore, 1) := by decide +kernel
theorem d53_39 : decode (zB 53) 39 = .ok (.aload_n 0, 1) := by decide +kernel
theorem d53_40 : decode (zB 53) 40 = .ok (.getfield 9, 3) := by decide +kernel
theorem d53_43 : decode (zB 53) 43 = .ok (.iload_n 2, 1) := by decide +kernel
theorem d53_44 : decode (zB 53) 44 = .ok (.iload_n 3, 1) := by decide +kernel
theorem d53_45 : decode (zB 53) 45 = .ok (.iastore, 1) := by decide +kernel
theorem d53_46 : decode (zB 53) 46 = .ok (.return_, 1) := by decide +kernel
theorem c53 {d : Nat} {M : zM} {Q : Option Value → zM → Prop} {u : Nat} {P : yP} {x z : Int32} (hu : SPu M u) (hP : RPu M u P) (k : ∀ M', RPu M' u (yex P x z) → Fi (FU u) M M' → Q none M') : qC (d + 1) 53 [.ref u, .int x, .int z] M Q := by
  refine qC_of (by decide) (Nat.le_of_ble_eq_true rfl) ?_
  rcases zix_c x (n := 6) (by omega) with ⟨j1, k1, rfl, e1⟩ | ⟨e1, n1⟩ <;> rcases zix_c z (n := 6) (by omega) with ⟨j2, k2, rfl, e2⟩ | ⟨e2, n2⟩
  · refine q_iload_n d53_0 rfl ?_
    refine n0_lt 46 d53_1 (by decide) (by omega) (fun q => absurd q (Nat.not_lt_zero _)) (fun _ => ?_)
    refine q_iload_n d53_4 rfl ?_
    refine q_bipush (x := nI 6) d53_5 rfl ?_
    refine nc_ge 46 d53_7 (by decide) (by omega) (by omega) (fun h7 => (False.elim (by omega))) (fun h7 => ?_)
    refine q_iload_n d53_10 rfl ?_
    refine n0_lt 46 d53_11 (by decide) (by omega) (fun q => absurd q (Nat.not_lt_zero _)) (fun _ => ?_)
    refine q_iload_n d53_14 rfl ?_
    refine q_bipush (x := nI 6) d53_15 rfl ?_
    refine nc_ge 46 d53_17 (by decide) (by omega) (by omega) (fun h17 => (False.elim (by omega))) (fun h17 => ?_)
    refine q_aload_n d53_20 rfl ?_
    refine q_getr (c := 2) (f := 0) d53_21 ⟨rfl, rfl⟩ hu.1 hu.2.1 ?_
    refine q_iload_n d53_24 rfl ?_
    refine n_iald d53_25 hu.2.2 (by omega) (by decide) (hP.1 _ (by omega)) ?_
    refine q_istore_n d53_26 (by decide) rfl ?_
    refine q_aload_n d53_27 rfl ?_
    refine q_getr (c := 2) (f := 0) d53_28 ⟨rfl, rfl⟩ hu.1 hu.2.1 ?_
    refine q_iload_n d53_31 rfl ?_
    refine q_aload_n d53_32 rfl ?_
    refine q_getr (c := 2) (f := 0) d53_33 ⟨rfl, rfl⟩ hu.1 hu.2.1 ?_
    refine q_iload_n d53_36 rfl ?_
    refine n_iald d53_37 hu.2.2 (by omega) (by decide) (hP.1 _ (by omega)) ?_
    refine n_iast d53_38 hu.2.2 (by omega) (by decide) ?_
    refine q_aload_n d53_39 rfl ?_
    refine q_getr (c := 2) (f := 0) d53_40 ⟨rfl, rfl⟩ hu.1 hu.2.1 ?_
    refine q_iload_n d53_43 rfl ?_
    refine q_iload_n d53_44 rfl ?_
    refine n_iast d53_45 hu.2.2 (by omega) (by decide) ?_
    refine q_ret d53_46 rfl ?_
    exact k _ (by unfold yex; rw [e1, e2]; exact RPu_b (RPu_b hP)) (((Fi.refl _ _).wi (FU_1 _ _)).wi (FU_1 _ _))
  · refine q_iload_n d53_0 rfl ?_
    refine n0_lt 46 d53_1 (by decide) (by omega) (fun q => absurd q (Nat.not_lt_zero _)) (fun _ => ?_)
    refine q_iload_n d53_4 rfl ?_
    refine q_bipush (x := nI 6) d53_5 rfl ?_
    refine nc_ge 46 d53_7 (by decide) (by omega) (by omega) (fun h7 => (False.elim (by omega))) (fun h7 => ?_)
    refine q_iload_n d53_10 rfl ?_
    refine i0_lt 46 d53_11 (by decide) (fun h11 => ?_) (fun h11 => ?_)
    · refine q_ret d53_46 rfl ?_
      exact k _ (by unfold yex; rw [e1, e2]; exact hP) (Fi.refl _ _)
    · refine q_iload_n d53_14 rfl ?_
      refine q_bipush (x := nI 6) d53_15 rfl ?_
      refine ic_ge 46 d53_17 (by decide) (fun h17 => ?_) (fun h17 => (False.elim (n2 (zix_of h11 h17 (by decide)))))
      refine q_ret d53_46 rfl ?_
      exact k _ (by unfold yex; rw [e1, e2]; exact hP) (Fi.refl _ _)
  · refine q_iload_n d53_0 rfl ?_
    refine i0_lt 46 d53_1 (by decide) (fun h1 => ?_) (fun h1 => ?_)
    · refine q_ret d53_46 rfl ?_
      exact k _ (by unfold yex; rw [e1, e2]; exact hP) (Fi.refl _ _)
    · refine q_iload_n d53_4 rfl ?_
      refine q_bipush (x := nI 6) d53_5 rfl ?_
      refine ic_ge 46 d53_7 (by decide) (fun h7 => ?_) (fun h7 => (False.elim (n1 (zix_of h1 h7 (by decide)))))
      refine q_ret d53_46 rfl ?_
      exact k _ (by unfold yex; rw [e1, e2]; exact hP) (Fi.refl _ _)
  · refine q_iload_n d53_0 rfl ?_
    refine i0_lt 46 d53_1 (by decide) (fun h1 => ?_) (fun h1 => ?_)
    · refine q_ret d53_46 rfl ?_
      exact k _ (by unfold yex; rw [e1, e2]; exact hP) (Fi.refl _ _)
    · refine q_iload_n d53_4 rfl ?_
      refine q_bipush (x := nI 6) d53_5 rfl ?_
      refine ic_ge 46 d53_7 (by decide) (fun h7 => ?_) (fun h7 => (False.elim (n1 (zix_of h1 h7 (by decide)))))
      refine q_ret d53_46 rfl ?_
      exact k _ (by unfold yex; rw [e1, e2]; exact hP) (Fi.refl _ _)
theorem d46_0 : decode (zB 46) 0 = .ok (.aload_n 1, 1) := by decide +kernel
theorem d46_1 : decode (zB 46) 1 = .ok (.ifnull 11, 3) := by decide +kernel
theorem d46_4 : decode (zB 46) 4 = .ok (.aload_n 1, 1) := by decide +kernel
theorem d46_5 : decode (zB 46) 5 = .ok (.iload_n 2, 1) := by decide +kernel
theorem d46_6 : decode (zB 46) 6 = .ok (.invokevirtual 34, 3) := by decide +kernel
theorem d46_9 : decode (zB 46) 9 = .ok (.ifCond .ne 5, 3) := by decide +kernel
theorem d46_12 : decode (zB 46) 12 = .ok (.iconst 0, 1) := by decide +kernel
theorem d46_13 : decode (zB 46) 13 = .ok (.ireturn, 1) := by decide +kernel
theorem d46_14 : decode (zB 46) 14 = .ok (.aload_n 1, 1) := by decide +kernel
theorem d46_15 : decode (zB 46) 15 = .ok (.getfield 40, 3) := by decide +kernel
theorem d46_18 : decode (zB 46) 18 = .ok (.iload_n 2, 1) := by decide +kernel
theorem d46_19 : decode (zB 46) 19 = .ok (.iaload, 1) := by decide +kernel
theorem d46_20 : decode (zB 46) 20 = .ok (.istore 5, 2) := by decide +kernel
theorem d46_22 : decode (zB 46) 22 = .ok (.aload_n 0, 1) := by decide +kernel
theorem d46_23 : decode (zB 46) 23 = .ok (.aload_n 1, 1) := by decide +kernel
theorem d46_24 : decode (zB 46) 24 = .ok (.getfield 43, 3) := by decide +kernel
theorem d46_27 : decode (zB 46) 27 = .ok (.iload_n 2, 1) := by decide +kernel
theorem d46_28 : decode (zB 46) 28 = .ok (.iaload, 1) := by decide +kernel
theorem d46_29 : decode (zB 46) 29 = .ok (.iload 4, 2) := by decide +kernel
theorem d46_31 : decode (zB 46) 31 = .ok (.iload 5, 2) := by decide +kernel
theorem d46_33 : decode (zB 46) 33 = .ok (.iload_n 3, 1) := by decide +kernel
theorem d46_34 : decode (zB 46) 34 = .ok (.invokestatic 46, 3) := by decide +kernel
theorem d46_37 : decode (zB 46) 37 = .ok (.imul, 1) := by decide +kernel
theorem d46_38 : decode (zB 46) 38 = .ok (.invokevirtual 50, 3) := by decide +kernel
theorem d46_41 : decode (zB 46) 41 = .ok (.istore 6, 2) := by decide +kernel
theorem d46_43 : decode (zB 46) 43 = .ok (.iload 6, 2) := by decide +kernel
theorem d46_45 : decode (zB 46) 45 = .ok (.ifCond .eq 8, 3) := by decide +kernel
theorem d46_48 : decode (zB 46) 48 = .ok (.iload 6, 2) := by decide +kernel
theorem d46_50 : decode (zB 46) 50 = .ok (.goto 22, 3) := by decide +kernel
theorem d46_53 : decode (zB 46) 53 = .ok (.aload_n 0, 1) := by decide +kernel
theorem d46_54 : decode (zB 46) 54 = .ok (.aload_n 1, 1) := by decide +kernel
theorem d46_55 : decode (zB 46) 55 = .ok (.getfield 53, 3) := by decide +kernel
theorem d46_58 : decode (zB 46) 58 = .ok (.iload_n 2, 1) := by decide +kernel
theorem d46_59 : decode (zB 46) 59 = .ok (.iaload, 1) := by decide +kernel
theorem d46_60 : decode (zB 46) 60 = .ok (.iload 4, 2) := by decide +kernel
theorem d46_62 : decode (zB 46) 62 = .ok (.iload 5, 2) := by decide +kernel
theorem d46_64 : decode (zB 46) 64 = .ok (.iload_n 3, 1) := by decide +kernel
theorem d46_65 : decode (zB 46) 65 = .ok (.invokestatic 56, 3) := by decide +kernel
theorem d46_68 : decode (zB 46) 68 = .ok (.imul, 1) := by decide +kernel
theorem d46_69 : decode (zB 46) 69 = .ok (.invokevirtual 50, 3) := by decide +kernel
theorem d46_72 : decode (zB 46) 72 = .ok (.ireturn, 1) := by decide +kernel
theorem c46 {d : Nat} {M : zM} {Q : Option Value → zM → Prop} {u : Nat} {P : yP} {a : Nat} {T : yT} {i : Nat} {n w : Int32} (hu : SPu M u) (hP : RPu M u P) (hp : SPr M a) (hr : RP M a T) (ho : OKT T) (hi : i < tn T) (k : Q (some (.int (yob T P i n w))) M) : qC (d + 2) 46 [.ref u, .ref a, .int (nI i), .int n, .int w] M Q := by
  have hn := ho.n
  have hk6 := ho.k hi
  refine qC_of (by decide) (Nat.le_of_ble_eq_true rfl) ?_
  refine q_aload_n d46_0 rfl ?_
  refine q_ifnull (r := some _) 12 d46_1 (by decide) (fun q => absurd q (Option.some_ne_none _)) (fun _ => ?_)
  refine q_aload_n d46_4 rfl ?_
  refine q_iload_n d46_5 rfl ?_
  refine q_v1 d46_6 rfl rfl hp.1 (Nat.le_of_ble_eq_true rfl) (c47t hp hr hn hi ?_)
  refine n0_ne 14 d46_9 (by decide) (by decide) (fun _ => ?_) (fun q => absurd q (by decide))
  refine q_aload_n d46_14 rfl ?_
  refine q_getr (c := 1) (f := 0) d46_15 ⟨rfl, rfl⟩ hp.1 (hp.2 0 (by decide)).1 ?_
  refine q_iload_n d46_18 rfl ?_
  refine n_iald d46_19 (hp.2 0 (by decide)).2 (by omega) (by decide) (hr.2.2 _ (by omega)).1 ?_
  refine q_istore d46_20 (by decide) rfl ?_
  refine q_aload_n d46_22 rfl ?_
  refine q_aload_n d46_23 rfl ?_
  refine q_getr (c := 1) (f := 1) d46_24 ⟨rfl, rfl⟩ hp.1 (hp.2 1 (by decide)).1 ?_
  refine q_iload_n d46_27 rfl ?_
  refine n_iald d46_28 (hp.2 1 (by decide)).2 (by omega) (by decide) (hr.2.2 _ (by omega)).2.1 ?_
  refine q_iload d46_29 rfl ?_
  refine q_iload d46_31 rfl ?_
  refine q_iload_n d46_33 rfl ?_
  refine q_s2 d46_34 (Or.inl rfl) rfl (Nat.le_of_ble_eq_true rfl) (c48 (by omega) ?_)
  refine q_imul d46_37 ?_
  refine q_v2 d46_38 rfl rfl hu.1 (Nat.le_of_ble_eq_true rfl) (c49 hu hP ?_)
  refine q_istore d46_41 (by decide) rfl ?_
  refine q_iload d46_43 rfl ?_
  refine i0_eq 53 d46_45 (by decide) (fun h45 => ?_) (fun h45 => ?_)
  · refine q_aload_n d46_53 rfl ?_
    refine q_aload_n d46_54 rfl ?_
    refine q_getr (c := 1) (f := 2) d46_55 ⟨rfl, rfl⟩ hp.1 (hp.2 2 (by decide)).1 ?_
    refine q_iload_n d46_58 rfl ?_
    refine n_iald d46_59 (hp.2 2 (by decide)).2 (by omega) (by decide) (hr.2.2 _ (by omega)).2.2.1 ?_
    refine q_iload d46_60 rfl ?_
    refine q_iload d46_62 rfl ?_
    refine q_iload_n d46_64 rfl ?_
    refine q_s2 d46_65 (Or.inl rfl) rfl (Nat.le_of_ble_eq_true rfl) (c50 (by omega) ?_)
    refine q_imul d46_68 ?_
    refine q_v2 d46_69 rfl rfl hu.1 (Nat.le_of_ble_eq_true rfl) (c49 hu hP ?_)
    refine q_iret d46_72 rfl ?_
    first | exact nK k (by unfold yob; rw [if_pos h45]) | exact nK k (by unfold yob; rw [if_neg (fun q => q h45)])
  · refine q_iload d46_48 rfl ?_
    refine q_goto 72 d46_50 (by decide) ?_
    refine q_iret d46_72 rfl ?_
    first | exact nK k (by unfold yob; rw [if_pos h45]) | exact nK k (by unfold yob; rw [if_neg (fun q => q h45)])
theorem d51_0 : decode (zB 51) 0 = .ok (.aload_n 1, 1) := by decide +kernel
theorem d51_1 : decode (zB 51) 1 = .ok (.ifnull 11, 3) := by decide +kernel
theorem d51_4 : decode (zB 51) 4 = .ok (.aload_n 1, 1) := by decide +kernel
theorem d51_5 : decode (zB 51) 5 = .ok (.iload_n 2, 1) := by decide +kernel
theorem d51_6 : decode (zB 51) 6 = .ok (.invokevirtual 34, 3) := by decide +kernel
theorem d51_9 : decode (zB 51) 9 = .ok (.ifCond .ne 4, 3) := by decide +kernel
theorem d51_12 : decode (zB 51) 12 = .ok (.return_, 1) := by decide +kernel
theorem d51_13 : decode (zB 51) 13 = .ok (.aload_n 1, 1) := by decide +kernel
theorem d51_14 : decode (zB 51) 14 = .ok (.getfield 40, 3) := by decide +kernel
theorem d51_17 : decode (zB 51) 17 = .ok (.iload_n 2, 1) := by decide +kernel
theorem d51_18 : decode (zB 51) 18 = .ok (.iaload, 1) := by decide +kernel
theorem d51_19 : decode (zB 51) 19 = .ok (.istore 5, 2) := by decide +kernel
theorem d51_21 : decode (zB 51) 21 = .ok (.aload_n 0, 1) := by decide +kernel
theorem d51_22 : decode (zB 51) 22 = .ok (.aload_n 1, 1) := by decide +kernel
theorem d51_23 : decode (zB 51) 23 = .ok (.getfield 43, 3) := by decide +kernel
theorem d51_26 : decode (zB 51) 26 = .ok (.iload_n 2, 1) := by decide +kernel
theorem d51_27 : decode (zB 51) 27 = .ok (.iaload, 1) := by decide +kernel
theorem d51_28 : decode (zB 51) 28 = .ok (.iload 4, 2) := by decide +kernel
theorem d51_30 : decode (zB 51) 30 = .ok (.iload 5, 2) := by decide +kernel
theorem d51_32 : decode (zB 51) 32 = .ok (.iload_n 3, 1) := by decide +kernel
theorem d51_33 : decode (zB 51) 33 = .ok (.invokestatic 46, 3) := by decide +kernel
theorem d51_36 : decode (zB 51) 36 = .ok (.imul, 1) := by decide +kernel
theorem d51_37 : decode (zB 51) 37 = .ok (.invokevirtual 59, 3) := by decide +kernel
theorem d51_40 : decode (zB 51) 40 = .ok (.aload_n 0, 1) := by decide +kernel
theorem d51_41 : decode (zB 51) 41 = .ok (.aload_n 1, 1) := by decide +kernel
theorem d51_42 : decode (zB 51) 42 = .ok (.getfield 53, 3) := by decide +kernel
theorem d51_45 : decode (zB 51) 45 = .ok (.iload_n 2, 1) := by decide +kernel
theorem d51_46 : decode (zB 51) 46 = .ok (.iaload, 1) := by decide +kernel
theorem d51_47 : decode (zB 51) 47 = .ok (.iload 4, 2) := by decide +kernel
theorem d51_49 : decode (zB 51) 49 = .ok (.iload 5, 2) := by decide +kernel
theorem d51_51 : decode (zB 51) 51 = .ok (.iload_n 3, 1) := by decide +kernel
theorem d51_52 : decode (zB 51) 52 = .ok (.invokestatic 56, 3) := by decide +kernel
theorem d51_55 : decode (zB 51) 55 = .ok (.imul, 1) := by decide +kernel
theorem d51_56 : decode (zB 51) 56 = .ok (.invokevirtual 59, 3) := by decide +kernel
theorem d51_59 : decode (zB 51) 59 = .ok (.iload 5, 2) := by decide +kernel
theorem d51_61 : decode (zB 51) 61 = .ok (.iconst 3, 1) := by decide +kernel
theorem d51_62 : decode (zB 51) 62 = .ok (.if_icmp .ne 19, 3) := by decide +kernel
theorem d51_65 : decode (zB 51) 65 = .ok (.aload_n 0, 1) := by decide +kernel
theorem d51_66 : decode (zB 51) 66 = .ok (.dup, 1) := by decide +kernel
theorem d51_67 : decode (zB 51) 67 = .ok (.getfield 21, 3) := by decide +kernel
theorem d51_70 : decode (zB 51) 70 = .ok (.iload 4, 2) := by decide +kernel
theorem d51_72 : decode (zB 51) 72 = .ok (.iload_n 3, 1) := by decide +kernel
theorem d51_73 : decode (zB 51) 73 = .ok (.imul, 1) := by decide +kernel
theorem d51_74 : decode (zB 51) 74 = .ok (.iadd, 1) := by decide +kernel
theorem d51_75 : decode (zB 51) 75 = .ok (.putfield 21, 3) := by decide +kernel
theorem d51_78 : decode (zB 51) 78 = .ok (.goto 50, 3) := by decide +kernel
theorem d51_81 : decode (zB 51) 81 = .ok (.iload 5, 2) := by decide +kernel
theorem d51_83 : decode (zB 51) 83 = .ok (.iconst 4, 1) := by decide +kernel
theorem d51_84 : decode (zB 51) 84 = .ok (.if_icmp .ne 22, 3) := by decide +kernel
theorem d51_87 : decode (zB 51) 87 = .ok (.aload_n 0, 1) := by decide +kernel
theorem d51_88 : decode (zB 51) 88 = .ok (.aload_n 1, 1) := by decide +kernel
theorem d51_89 : decode (zB 51) 89 = .ok (.getfield 43, 3) := by decide +kernel
theorem d51_92 : decode (zB 51) 92 = .ok (.iload_n 2, 1) := by decide +kernel
theorem d51_93 : decode (zB 51) 93 = .ok (.iaload, 1) := by decide +kernel
theorem d51_94 : decode (zB 51) 94 = .ok (.aload_n 1, 1) := by decide +kernel
theorem d51_95 : decode (zB 51) 95 = .ok (.getfield 53, 3) := by decide +kernel
theorem d51_98 : decode (zB 51) 98 = .ok (.iload_n 2, 1) := by decide +kernel
theorem d51_99 : decode (zB 51) 99 = .ok (.iaload, 1) := by decide +kernel
theorem d51_100 : decode (zB 51) 100 = .ok (.invokevirtual 63, 3) := by decide +kernel
theorem d51_103 : decode (zB 51) 103 = .ok (.goto 25, 3) := by decide +kernel
theorem d51_106 : decode (zB 51) 106 = .ok (.iload 5, 2) := by decide +kernel
theorem d51_108 : decode (zB 51) 108 = .ok (.iconst 5, 1) := by decide +kernel
theorem d51_109 : decode (zB 51) 109 = .ok (.if_icmp .ne 19, 3) := by decide +kernel
theorem d51_112 : decode (zB 51) 112 = .ok (.iload 4, 2) := by decide +kernel
theorem d51_114 : decode (zB 51) 114 = .ok (.iconst 1, 1) := by decide +kernel
theorem d51_115 : decode (zB 51) 115 = .ok (.if_icmp .ne 13, 3) := by decide +kernel
theorem d51_118 : decode (zB 51) 118 = .ok (.aload_n 0, 1) := by decide +kernel
theorem d51_119 : decode (zB 51) 119 = .ok (.dup, 1) := by decide +kernel
theorem d51_120 : decode (zB 51) 120 = .ok (.getfield 25, 3) := by decide +kernel
theorem d51_123 : decode (zB 51) 123 = .ok (.iconst 1, 1) := by decide +kernel
theorem d51_124 : decode (zB 51) 124 = .ok (.iadd, 1) := by decide +kernel
theorem d51_125 : decode (zB 51) 125 = .ok (.putfield 25, 3) := by decide +kernel
theorem d51_128 : decode (zB 51) 128 = .ok (.return_, 1) := by decide +kernel
theorem c51 {d : Nat} {M : zM} {Q : Option Value → zM → Prop} {u : Nat} {P : yP} {a : Nat} {T : yT} {i : Nat} {n w : Int32} (hu : SPu M u) (hP : RPu M u P) (hp : SPr M a) (hr : RP M a T) (ho : OKT T) (hi : i < tn T) (hau : a + 7 ≤ u) (k : ∀ M', RPu M' u (ych T P i n w) → Fi (FU u) M M' → Q none M') : qC (d + 2) 51 [.ref u, .ref a, .int (nI i), .int n, .int w] M Q := by
  have hn := ho.n
  have hk6 := ho.k hi
  refine qC_of (by decide) (Nat.le_of_ble_eq_true rfl) ?_
  refine q_aload_n d51_0 rfl ?_
  refine q_ifnull (r := some _) 12 d51_1 (by decide) (fun q => absurd q (Option.some_ne_none _)) (fun _ => ?_)
  refine q_aload_n d51_4 rfl ?_
  refine q_iload_n d51_5 rfl ?_
  refine q_v1 d51_6 rfl rfl hp.1 (Nat.le_of_ble_eq_true rfl) (c47t hp hr hn hi ?_)
  refine n0_ne 13 d51_9 (by decide) (by decide) (fun _ => ?_) (fun q => absurd q (by decide))
  refine q_aload_n d51_13 rfl ?_
  refine q_getr (c := 1) (f := 0) d51_14 ⟨rfl, rfl⟩ hp.1 (hp.2 0 (by decide)).1 ?_
  refine q_iload_n d51_17 rfl ?_
  refine n_iald d51_18 (hp.2 0 (by decide)).2 (by omega) (by decide) (hr.2.2 _ (by omega)).1 ?_
  refine q_istore d51_19 (by decide) rfl ?_
  refine q_aload_n d51_21 rfl ?_
  refine q_aload_n d51_22 rfl ?_
  refine q_getr (c := 1) (f := 1) d51_23 ⟨rfl, rfl⟩ hp.1 (hp.2 1 (by decide)).1 ?_
  refine q_iload_n d51_26 rfl ?_
  refine n_iald d51_27 (hp.2 1 (by decide)).2 (by omega) (by decide) (hr.2.2 _ (by omega)).2.1 ?_
  refine q_iload d51_28 rfl ?_
  refine q_iload d51_30 rfl ?_
  refine q_iload_n d51_32 rfl ?_
  refine q_s2 d51_33 (Or.inl rfl) rfl (Nat.le_of_ble_eq_true rfl) (c48 (by omega) ?_)
  refine q_imul d51_36 ?_
  refine q_v2 d51_37 rfl rfl hu.1 (Nat.le_of_ble_eq_true rfl) (c52 hu hP (fun M1 hP1 f1 => ?_))
  have hu1 := SPu_fi hu f1
  have hp1 := SPr_fi hp f1
  have hr1 := RP_fr hr f1.fr (FU_x hau)
  refine q_aload_n d51_40 rfl ?_
  refine q_aload_n d51_41 rfl ?_
  refine q_getr (c := 1) (f := 2) d51_42 ⟨rfl, rfl⟩ hp1.1 (hp1.2 2 (by decide)).1 ?_
  refine q_iload_n d51_45 rfl ?_
  refine n_iald d51_46 (hp1.2 2 (by decide)).2 (by omega) (by decide) (hr1.2.2 _ (by omega)).2.2.1 ?_
  refine q_iload d51_47 rfl ?_
  refine q_iload d51_49 rfl ?_
  refine q_iload_n d51_51 rfl ?_
  refine q_s2 d51_52 (Or.inl rfl) rfl (Nat.le_of_ble_eq_true rfl) (c50 (by omega) ?_)
  refine q_imul d51_55 ?_
  refine q_v2 d51_56 rfl rfl hu1.1 (Nat.le_of_ble_eq_true rfl) (c52 hu1 hP1 (fun M2 hP2 f2 => ?_))
  have hu2 := SPu_fi hu1 f2
  have hp2 := SPr_fi hp1 f2
  have hr2 := RP_fr hr1 f2.fr (FU_x hau)
  refine q_iload d51_59 rfl ?_
  refine q_iconstN (z := 3) d51_61 ?_
  refine nc_ne 81 d51_62 (by decide) (by omega) (by omega) (fun h62 => ?_) (fun h62 => ?_)
  · refine q_iload d51_81 rfl ?_
    refine q_iconstN (z := 4) d51_83 ?_
    refine nc_ne 106 d51_84 (by decide) (by omega) (by omega) (fun h84 => ?_) (fun h84 => ?_)
    · refine q_iload d51_106 rfl ?_
      refine q_iconstN (z := 5) d51_108 ?_
      refine nc_ne 128 d51_109 (by decide) (by omega) (by omega) (fun h109 => ?_) (fun h109 => ?_)
      · refine q_ret d51_128 rfl ?_
        first
        | exact k _ (by unfold ych; rw [if_neg h62, if_pos h84]; exact hP3) ((f1.trans f2).trans f3)
        | exact k _ (by unfold ych; rw [if_pos h62]; exact RPu_h hP2) ((f1.trans f2).wi (FU_0 _ _))
        | exact k _ (by unfold ych; rw [if_neg h62, if_neg h84, if_pos ⟨h109, h115⟩]; exact RPu_m hP2) ((f1.trans f2).wi (FU_0 _ _))
        | exact k _ (by unfold ych; rw [if_neg h62, if_neg h84, if_neg (fun q => h115 q.2)]; exact hP2) (f1.trans f2)
        | exact k _ (by unfold ych; rw [if_neg h62, if_neg h84, if_neg (fun q => h109 q.1)]; exact hP2) (f1.trans f2)
      · refine q_iload d51_112 rfl ?_
        refine q_iconstN (z := 1) d51_114 ?_
        refine ic_ne 128 d51_115 (by decide) (fun h115 => ?_) (fun h115 => ?_)
        · refine q_ret d51_128 rfl ?_
          first
          | exact k _ (by unfold ych; rw [if_neg h62, if_pos h84]; exact hP3) ((f1.trans f2).trans f3)
          | exact k _ (by unfold ych; rw [if_pos h62]; exact RPu_h hP2) ((f1.trans f2).wi (FU_0 _ _))
          | exact k _ (by unfold ych; rw [if_neg h62, if_neg h84, if_pos ⟨h109, h115⟩]; exact RPu_m hP2) ((f1.trans f2).wi (FU_0 _ _))
          | exact k _ (by unfold ych; rw [if_neg h62, if_neg h84, if_neg (fun q => h115 q.2)]; exact hP2) (f1.trans f2)
          | exact k _ (by unfold ych; rw [if_neg h62, if_neg h84, if_neg (fun q => h109 q.1)]; exact hP2) (f1.trans f2)
        · refine q_aload_n d51_118 rfl ?_
          refine q_dup d51_119 rfl ?_
          refine q_getv (c := 2) (f := 2) d51_120 ⟨rfl, by decide⟩ hu2.1 hP2.2.2 ?_
          refine q_iconstN (z := 1) d51_123 ?_
          refine q_iadd d51_124 ?_
          refine q_puti (c := 2) (f := 2) d51_125 ⟨rfl, rfl, by decide⟩ hu2.1 ?_
          refine q_ret d51_128 rfl ?_
          first
          | exact k _ (by unfold ych; rw [if_neg h62, if_pos h84]; exact hP3) ((f1.trans f2).trans f3)
          | exact k _ (by unfold ych; rw [if_pos h62]; exact RPu_h hP2) ((f1.trans f2).wi (FU_0 _ _))
          | exact k _ (by unfold ych; rw [if_neg h62, if_neg h84, if_pos ⟨h109, h115⟩]; exact RPu_m hP2) ((f1.trans f2).wi (FU_0 _ _))
          | exact k _ (by unfold ych; rw [if_neg h62, if_neg h84, if_neg (fun q => h115 q.2)]; exact hP2) (f1.trans f2)
          | exact k _ (by unfold ych; rw [if_neg h62, if_neg h84, if_neg (fun q => h109 q.1)]; exact hP2) (f1.trans f2)
    · refine q_aload_n d51_87 rfl ?_
      refine q_aload_n d51_88 rfl ?_
      refine q_getr (c := 1) (f := 1) d51_89 ⟨rfl, rfl⟩ hp2.1 (hp2.2 1 (by decide)).1 ?_
      refine q_iload_n d51_92 rfl ?_
      refine n_iald d51_93 (hp2.2 1 (by decide)).2 (by omega) (by decide) (hr2.2.2 _ (by omega)).2.1 ?_
      refine q_aload_n d51_94 rfl ?_
      refine q_getr (c := 1) (f := 2) d51_95 ⟨rfl, rfl⟩ hp2.1 (hp2.2 2 (by decide)).1 ?_
      refine q_iload_n d51_98 rfl ?_
      refine n_iald d51_99 (hp2.2 2 (by decide)).2 (by omega) (by decide) (hr2.2.2 _ (by omega)).2.2.1 ?_
      refine q_v2 d51_100 rfl rfl hu2.1 (Nat.le_of_ble_eq_true rfl) (c53 hu2 hP2 (fun M3 hP3 f3 => ?_))
      refine q_goto 128 d51_103 (by decide) ?_
      refine q_ret d51_128 rfl ?_
      first
      | exact k _ (by unfold ych; rw [if_neg h62, if_pos h84]; exact hP3) ((f1.trans f2).trans f3)
      | exact k _ (by unfold ych; rw [if_pos h62]; exact RPu_h hP2) ((f1.trans f2).wi (FU_0 _ _))
      | exact k _ (by unfold ych; rw [if_neg h62, if_neg h84, if_pos ⟨h109, h115⟩]; exact RPu_m hP2) ((f1.trans f2).wi (FU_0 _ _))
      | exact k _ (by unfold ych; rw [if_neg h62, if_neg h84, if_neg (fun q => h115 q.2)]; exact hP2) (f1.trans f2)
      | exact k _ (by unfold ych; rw [if_neg h62, if_neg h84, if_neg (fun q => h109 q.1)]; exact hP2) (f1.trans f2)
  · refine q_aload_n d51_65 rfl ?_
    refine q_dup d51_66 rfl ?_
    refine q_getv (c := 2) (f := 1) d51_67 ⟨rfl, by decide⟩ hu2.1 hP2.2.1 ?_
    refine q_iload d51_70 rfl ?_
    refine q_iload_n d51_72 rfl ?_
    refine q_imul d51_73 ?_
    refine q_iadd d51_74 ?_
    refine q_puti (c := 2) (f := 1) d51_75 ⟨rfl, rfl, by decide⟩ hu2.1 ?_
    refine q_goto 128 d51_78 (by decide) ?_
    refine q_ret d51_128 rfl ?_
    first
    | exact k _ (by unfold ych; rw [if_neg h62, if_pos h84]; exact hP3) ((f1.trans f2).trans f3)
    | exact k _ (by unfold ych; rw [if_pos h62]; exact RPu_h hP2) ((f1.trans f2).wi (FU_0 _ _))
    | exact k _ (by unfold ych; rw [if_neg h62, if_neg h84, if_pos ⟨h109, h115⟩]; exact RPu_m hP2) ((f1.trans f2).wi (FU_0 _ _))
    | exact k _ (by unfold ych; rw [if_neg h62, if_neg h84, if_neg (fun q => h115 q.2)]; exact hP2) (f1.trans f2)
    | exact k _ (by unfold ych; rw [if_neg h62, if_neg h84, if_neg (fun q => h109 q.1)]; exact hP2) (f1.trans f2)
/-- does one of these steps fail -/
def ybl (T : yT) (P : yP) (set : Nat) : Bool := decide (∃ i, i < tn T ∧ set.testBit i = true ∧ yob T P i (tu T i) 1 ≠ 0)
theorem d45_0 : decode (zB 45) 0 = .ok (.iconst 0, 1) := by decide +kernel
theorem d45_1 : decode (zB 45) 1 = .ok (.istore_n 3, 1) := by decide +kernel
theorem d45_2 : decode (zB 45) 2 = .ok (.iload_n 3, 1) := by decide +kernel
theorem d45_3 : decode (zB 45) 3 = .ok (.aload_n 1, 1) := by decide +kernel
theorem d45_4 : decode (zB 45) 4 = .ok (.getfield 66, 3) := by decide +kernel
theorem d45_7 : decode (zB 45) 7 = .ok (.if_icmp .ge 35, 3) := by decide +kernel
theorem d45_10 : decode (zB 45) 10 = .ok (.iload_n 2, 1) := by decide +kernel
theorem d45_11 : decode (zB 45) 11 = .ok (.iload_n 3, 1) := by decide +kernel
theorem d45_12 : decode (zB 45) 12 = .ok (.invokestatic 69, 3) := by decide +kernel
theorem d45_15 : decode (zB 45) 15 = .ok (.ifCond .eq 21, 3) := by decide +kernel
theorem d45_18 : decode (zB 45) 18 = .ok (.aload_n 0, 1) := by decide +kernel
theorem d45_19 : decode (zB 45) 19 = .ok (.aload_n 1, 1) := by decide +kernel
theorem d45_20 : decode (zB 45) 20 = .ok (.iload_n 3, 1) := by decide +kernel
theorem d45_21 : decode (zB 45) 21 = .ok (.aload_n 1, 1) := by decide +kernel
theorem d45_22 : decode (zB 45) 22 = .ok (.getfield 73, 3) := by decide +kernel
theorem d45_25 : decode (zB 45) 25 = .ok (.iload_n 3, 1) := by decide +kernel
theorem d45_26 : decode (zB 45) 26 = .ok (.iaload, 1) := by decide +kernel
theorem d45_27 : decode (zB 45) 27 = .ok (.iconst 1, 1) := by decide +kernel
theorem d45_28 : decode (zB 45) 28 = .ok (.invokevirtual 76, 3) := by decide +kernel
theorem d45_31 : decode (zB 45) 31 = .ok (.ifCond .eq 5, 3) := by decide +kernel
theorem d45_34 : decode (zB 45) 34 = .ok (.iconst 1, 1) := by decide +kernel
theorem d45_35 : decode (zB 45) 35 = .ok (.ireturn, 1) := by decide +kernel
theorem d45_36 : decode (zB 45) 36 = .ok (.iinc 3 1, 3) := by decide +kernel
theorem d45_39 : decode (zB 45) 39 = .ok (.goto (-37), 3) := by decide +kernel
theorem d45_42 : decode (zB 45) 42 = .ok (.iconst 0, 1) := by decide +kernel
theorem d45_43 : decode (zB 45) 43 = .ok (.ireturn, 1) := by decide +kernel
theorem l45 {d : Nat} {M : zM} {Q : Option Value → zM → Prop} {u : Nat} {P : yP} {a : Nat} {T : yT} {set : Nat} (hu : SPu M u) (hP : RPu M u P) (hp : SPr M a) (hr : RP M a T) (ho : OKT T) (hs : set < 4096) (k : Q (some (.int (bI (ybl T P set)))) M) : ∀ (r i : Nat), i ≤ tn T → tn T < i + r → (∀ j, j < i → set.testBit j = true → yob T P j (tu T j) 1 = 0) → qW (zEv (d + 2)) 45 Q 2 [(3, .int (nI i)), (0, .ref u), (1, .ref a), (2, .int (nI set))] [] M := by
  intro r
  induction r with
  | zero => intros; omega
  | succ r ih =>
    intro i  h1 h2 hb
    have hn := ho.n
    refine q_iload_n d45_2 rfl ?_
    refine q_aload_n d45_3 rfl ?_
    refine q_getv (c := 1) (f := 6) d45_4 ⟨rfl, by decide⟩ hp.1 hr.1 ?_
    refine nc_ge 42 d45_7 (by decide) (by omega) (by omega) (fun h7 => ?_) (fun h7 => ?_)
    · refine q_iconstN (z := 0) d45_42 ?_
      refine q_zret d45_43 rfl (by decide) ?_
      exact bK0 k (decide_eq_false (fun ⟨j, h3, h4, h5⟩ => h5 (hb j (by omega) h4)))
    · refine q_iload_n d45_10 rfl ?_
      refine q_iload_n d45_11 rfl ?_
      refine q_s2 d45_12 (Or.inr rfl) rfl (Nat.le_of_ble_eq_true rfl) (c35 (by omega) (by omega) ?_)
      refine b0_eq 36 d45_15 (by decide) (fun h15 => ?_) (fun h15 => ?_)
      · refine n_iinc 1 d45_36 (by decide) rfl rfl ?_
        refine q_goto 2 d45_39 (by decide) ?_
        refine ih (i + 1) (by omega) (by omega) (fun j h3 h4 => ?_)
        by_cases e : j = i
        · subst e; first | exact h31 | (rw [h15] at h4; cases h4)
        · exact hb j (by omega) h4
      · refine q_aload_n d45_18 rfl ?_
        refine q_aload_n d45_19 rfl ?_
        refine q_iload_n d45_20 rfl ?_
        refine q_aload_n d45_21 rfl ?_
        refine q_getr (c := 1) (f := 3) d45_22 ⟨rfl, rfl⟩ hp.1 (hp.2 3 (by decide)).1 ?_
        refine q_iload_n d45_25 rfl ?_
        refine n_iald d45_26 (hp.2 3 (by decide)).2 (by omega) (by decide) (hr.2.2 _ (by omega)).2.2.2.1 ?_
        refine q_iconst (x := (1)) d45_27 rfl ?_
        refine q_v4 d45_28 rfl rfl hu.1 (Nat.le_of_ble_eq_true rfl) (c46 hu hP hp hr ho (by omega) ?_)
        refine i0_eq 36 d45_31 (by decide) (fun h31 => ?_) (fun h31 => ?_)
        · refine n_iinc 1 d45_36 (by decide) rfl rfl ?_
          refine q_goto 2 d45_39 (by decide) ?_
          refine ih (i + 1) (by omega) (by omega) (fun j h3 h4 => ?_)
          by_cases e : j = i
          · subst e; first | exact h31 | (rw [h15] at h4; cases h4)
          · exact hb j (by omega) h4
        · refine q_iconstN (z := 1) d45_34 ?_
          refine q_zret d45_35 rfl (by decide) ?_
          exact bK1 k (decide_eq_true ⟨i, by omega, h15, h31⟩)
theorem c45 {d : Nat} {M : zM} {Q : Option Value → zM → Prop} {u : Nat} {P : yP} {a : Nat} {T : yT} {set : Nat} (hu : SPu M u) (hP : RPu M u P) (hp : SPr M a) (hr : RP M a T) (ho : OKT T) (hs : set < 4096) (k : Q (some (.int (bI (ybl T P set)))) M) : qC (d + 3) 45 [.ref u, .ref a, .int (nI set)] M Q := by
  refine qC_of (by decide) (Nat.le_of_ble_eq_true rfl) ?_
  refine q_iconstN (z := 0) d45_0 ?_
  refine q_istore_n d45_1 (by decide) rfl ?_
  exact l45 hu hP hp hr ho hs k (tn T + 1) 0 (by omega) (by omega) (fun j hj => absurd hj (by omega))
theorem d95_0 : decode (zB 95) 0 = .ok (.aload_n 0, 1) := by decide +kernel
theorem d95_1 : decode (zB 95) 1 = .ok (.getfield 9, 3) := by decide +kernel
theorem d95_4 : decode (zB 95) 4 = .ok (.bipush 100, 2) := by decide +kernel
theorem d95_6 : decode (zB 95) 6 = .ok (.invokestatic 15, 3) := by decide +kernel
theorem d95_9 : decode (zB 95) 9 = .ok (.aload_n 0, 1) := by decide +kernel
theorem d95_10 : decode (zB 95) 10 = .ok (.iconst 0, 1) := by decide +kernel
theorem d95_11 : decode (zB 95) 11 = .ok (.putfield 21, 3) := by decide +kernel
theorem d95_14 : decode (zB 95) 14 = .ok (.aload_n 0, 1) := by decide +kernel
theorem d95_15 : decode (zB 95) 15 = .ok (.iconst 0, 1) := by decide +kernel
theorem d95_16 : decode (zB 95) 16 = .ok (.putfield 25, 3) := by decide +kernel
theorem d95_19 : decode (zB 95) 19 = .ok (.return_, 1) := by decide +kernel
theorem c95 {d : Nat} {M : zM} {Q : Option Value → zM → Prop} {u : Nat} (hu : SPu M u) (k : ∀ M', RPu M' u yP0 → Fi (FU u) M M' → Q none M') : qC (d + 2) 95 [.ref u] M Q := by
  refine qC_of (by decide) (Nat.le_of_ble_eq_true rfl) ?_
  refine q_aload_n d95_0 rfl ?_
  refine q_getr (c := 2) (f := 0) d95_1 ⟨rfl, rfl⟩ hu.1 hu.2.1 ?_
  refine q_bipush (x := nI 100) d95_4 rfl ?_
  refine q_s2 d95_6 (Or.inl rfl) rfl (Nat.le_of_ble_eq_true rfl) (c6 hu.2.2 (by decide) (fun M1 hv f => ?_))
  have hu1 := SPu_fi hu f
  refine q_aload_n d95_9 rfl ?_
  refine q_iconstN (z := 0) d95_10 ?_
  refine q_puti (c := 2) (f := 1) d95_11 ⟨rfl, rfl, by decide⟩ hu1.1 ?_
  refine q_aload_n d95_14 rfl ?_
  refine q_iconstN (z := 0) d95_15 ?_
  refine q_puti (c := 2) (f := 2) d95_16 ⟨rfl, rfl, by decide⟩ hu1.1 ?_
  refine q_ret d95_19 rfl ?_
  refine k _ ⟨fun j hj => ?_, ?_, ?_⟩ (((f.mono (fun b j q => q ▸ FU_1 u j)).wi (FU_0 _ _)).wi (FU_0 _ _))
  · rw [wi_n (Or.inl (by omega)), wi_n (Or.inl (by omega))]; exact hv j hj
  · rw [wi_n (Or.inr (by decide)), wi_s]; rfl
  · rw [wi_s]; rfl
theorem d42_0 : decode (zB 42) 0 = .ok (.aload_n 1, 1) := by decide +kernel
theorem d42_1 : decode (zB 42) 1 = .ok (.getfield 9, 3) := by decide +kernel
theorem d42_4 : decode (zB 42) 4 = .ok (.iconst 0, 1) := by decide +kernel
theorem d42_5 : decode (zB 42) 5 = .ok (.aload_n 0, 1) := by decide +kernel
theorem d42_6 : decode (zB 42) 6 = .ok (.getfield 9, 3) := by decide +kernel
theorem d42_9 : decode (zB 42) 9 = .ok (.iconst 0, 1) := by decide +kernel
theorem d42_10 : decode (zB 42) 10 = .ok (.bipush 6, 2) := by decide +kernel
theorem d42_12 : decode (zB 42) 12 = .ok (.invokestatic 28, 3) := by decide +kernel
theorem d42_15 : decode (zB 42) 15 = .ok (.aload_n 0, 1) := by decide +kernel
theorem d42_16 : decode (zB 42) 16 = .ok (.aload_n 1, 1) := by decide +kernel
theorem d42_17 : decode (zB 42) 17 = .ok (.getfield 21, 3) := by decide +kernel
theorem d42_20 : decode (zB 42) 20 = .ok (.putfield 21, 3) := by decide +kernel
theorem d42_23 : decode (zB 42) 23 = .ok (.aload_n 0, 1) := by decide +kernel
theorem d42_24 : decode (zB 42) 24 = .ok (.aload_n 1, 1) := by decide +kernel
theorem d42_25 : decode (zB 42) 25 = .ok (.getfield 25, 3) := by decide +kernel
theorem d42_28 : decode (zB 42) 28 = .ok (.putfield 25, 3) := by decide +kernel
theorem d42_31 : decode (zB 42) 31 = .ok (.return_, 1) := by decide +kernel
theorem c42 {d : Nat} {M : zM} {Q : Option Value → zM → Prop} {u v : Nat} {P : yP} (hu : SPu M u) (hv : SPu M v) (hP : RPu M v P) (huv : u + 2 ≤ v ∨ v + 2 ≤ u) (k : ∀ M', RPu M' u P → Fi (FU u) M M' → Q none M') : qC (d + 1) 42 [.ref u, .ref v] M Q := by
  refine qC_of (by decide) (Nat.le_of_ble_eq_true rfl) ?_
  refine q_aload_n d42_0 rfl ?_
  refine q_getr (c := 2) (f := 0) d42_1 ⟨rfl, rfl⟩ hv.1 hv.2.1 ?_
  refine q_iconstN (z := 0) d42_4 ?_
  refine q_aload_n d42_5 rfl ?_
  refine q_getr (c := 2) (f := 0) d42_6 ⟨rfl, rfl⟩ hu.1 hu.2.1 ?_
  refine q_iconstN (z := 0) d42_9 ?_
  refine q_bipush (x := nI 6) d42_10 rfl ?_
  refine n_copy d42_12 rfl hv.2.2 hu.2.2 (by decide) (by decide) (by omega) (by omega) (Nat.le_of_ble_eq_true rfl) ?_
  refine q_aload_n d42_15 rfl ?_
  refine q_aload_n d42_16 rfl ?_
  refine q_getv (c := 2) (f := 1) d42_17 ⟨rfl, by decide⟩ hv.1 ((cp_eq _ _ _ _ _ _ _ _).trans ((if_neg (by omega)).trans hP.2.1)) ?_
  refine q_puti (c := 2) (f := 1) d42_20 ⟨rfl, rfl, by decide⟩ hu.1 ?_
  refine q_aload_n d42_23 rfl ?_
  refine q_aload_n d42_24 rfl ?_
  refine q_getv (c := 2) (f := 2) d42_25 ⟨rfl, by decide⟩ hv.1 ((wi_n (Or.inl (by omega))).trans ((cp_eq _ _ _ _ _ _ _ _).trans ((if_neg (by omega)).trans hP.2.2))) ?_
  refine q_puti (c := 2) (f := 2) d42_28 ⟨rfl, rfl, by decide⟩ hu.1 ?_
  refine q_ret d42_31 rfl ?_
  refine k _ ⟨fun j hj => ?_, ?_, ?_⟩ ((((Fi.refl _ _).cp (fun j _ _ => FU_1 u j)).wi (FU_0 _ _)).wi (FU_0 _ _))
  · rw [wi_n (Or.inl (by omega)), wi_n (Or.inl (by omega)), cp_eq, if_pos ⟨rfl, by omega, by omega⟩, show 0 + (j - 0) = j by omega]; exact hP.1 j hj
  · rw [wi_n (Or.inr (by decide)), wi_s]
  · rw [wi_s]
end
section
/-! ===== contracts: sagas ===== -/
def zSa (a : Nat) : Prop := a = 70 ∨ a = 78 ∨ a = 86 ∨ a = 102 ∨ a = 110 ∨ a = 118
def FS (a : Nat) : Nat → Nat → Prop := Fb a (a + 8)
theorem SC.sg {M : zM} (h : SC M) {a : Nat} (ha : zSa a) : SSg M a := by
  obtain ⟨_, _, _, _, _, _, _, _, _, h1, h2, _⟩ := h
  rcases ha with rfl | rfl | rfl | rfl | rfl | rfl
  · exact h1 0 (by omega)
  · exact h1 1 (by omega)
  · exact h1 2 (by omega)
  · exact h2 0 (by omega)
  · exact h2 1 (by omega)
  · exact h2 2 (by omega)
theorem SC.pr {M : zM} (h : SC M) {i : Nat} (hi : i < 6) : SPr M (20 + 7 * i) := h.2.2.1 i hi
theorem SSg_wr {M : zM} {a : Nat} {v : Option Nat} (h : SSg M a) : SSg (zwr M a 2 v) a :=
  ⟨h.1, (by rw [wr_eq, if_neg (by omega)]; exact h.2.1), fun f hf => (by rw [wr_eq, if_neg (by omega)]; exact h.2.2.1 f hf), h.2.2.2⟩
theorem FS_i {a f k : Nat} (h : f < 8) : FS a (a + f) k := ⟨by omega, by omega⟩
theorem FS_x {a b k : Nat} (h1 : a ≤ b) (h2 : b < a + 8) : FS a b k := ⟨h1, h2⟩
theorem FS_0 {a k : Nat} : FS a a k := ⟨by omega, by omega⟩
theorem bit_or (m i k : Nat) : (m ||| 2 ^ i).testBit k = (m.testBit k || decide (k = i)) := by
  rw [Nat.testBit_or, Nat.testBit_two_pow, show decide (i = k) = decide (k = i) by simp only [decide_eq_decide]; omega]
theorem bit_df (m i k : Nat) : (zdf m (2 ^ i)).testBit k = (m.testBit k && !decide (k = i)) := by
  rw [zdf_bit, Nat.testBit_two_pow, show decide (i = k) = decide (k = i) by simp only [decide_eq_decide]; omega]
/-- a step comes to a stand, or leaves it -/
theorem gm_in {S : yS} {i v : Nat} (hi : i < 12) : gm (gdS S (yu (gd S) i v)) v = gm S v ||| 2 ^ i := by
  apply Nat.eq_of_testBit_eq
  intro k
  rw [gm_bit, bit_or, gm_bit]
  show (decide (k < 12) && (yu (gd S) i v k == v)) = _
  by_cases e : k = i
  · subst e; rw [yu_s]; simp [hi]
  · rw [yu_n e]; simp [e]
theorem gm_out {S : yS} {i v w : Nat} (hv : gd S i = v) (hw : w ≠ v) : gm (gdS S (yu (gd S) i w)) v = zdf (gm S v) (2 ^ i) := by
  apply Nat.eq_of_testBit_eq
  intro k
  rw [gm_bit, bit_df, gm_bit]
  show (decide (k < 12) && (yu (gd S) i w k == v)) = _
  by_cases e : k = i
  · subst e; rw [yu_s]; simp [hw]
  · rw [yu_n e]; simp [e]
theorem gm_not {S : yS} {i v w : Nat} (hv : gd S i ≠ v) (hw : w ≠ v) : gm (gdS S (yu (gd S) i w)) v = gm S v := by
  apply Nat.eq_of_testBit_eq
  intro k
  rw [gm_bit, gm_bit]
  show (decide (k < 12) && (yu (gd S) i w k == v)) = _
  by_cases e : k = i
  · subst e; rw [yu_s, show (w == v) = false from beq_false_of_ne hw, show (gd S k == v) = false from beq_false_of_ne hv]
  · rw [yu_n e]
theorem d61_0 : decode (zB 61) 0 = .ok (.aload_n 0, 1) := by decide +kernel
theorem d61_1 : decode (zB 61) 1 = .ok (.getfield 9, 3) := by decide +kernel
theorem d61_4 : decode (zB 61) 4 = .ok (.iconst 1, 1) := by decide +kernel
theorem d61_5 : decode (zB 61) 5 = .ok (.if_icmp .eq 11, 3) := by decide +kernel
theorem d61_8 : decode (zB 61) 8 = .ok (.aload_n 0, 1) := by decide +kernel
theorem d61_9 : decode (zB 61) 9 = .ok (.getfield 9, 3) := by decide +kernel
theorem d61_12 : decode (zB 61) 12 = .ok (.iconst 2, 1) := by decide +kernel
theorem d61_13 : decode (zB 61) 13 = .ok (.if_icmp .ne 7, 3) := by decide +kernel
theorem d61_16 : decode (zB 61) 16 = .ok (.iconst 1, 1) := by decide +kernel
theorem d61_17 : decode (zB 61) 17 = .ok (.goto 4, 3) := by decide +kernel
theorem d61_20 : decode (zB 61) 20 = .ok (.iconst 0, 1) := by decide +kernel
theorem d61_21 : decode (zB 61) 21 = .ok (.ireturn, 1) := by decide +kernel
theorem c61 {d : Nat} {M : zM} {Q : Option Value → zM → Prop} {a g : Nat} (hs : SSg M a) (q0 : zi M a 0 = nI g) (hg : g ≤ 5) (k : Q (some (.int (bI (decide (g = 1 ∨ g = 2))))) M) : qC (d + 1) 61 [.ref a] M Q := by
  refine qC_of (by decide) (Nat.le_of_ble_eq_true rfl) ?_
  refine q_aload_n d61_0 rfl ?_
  refine q_getv (c := 5) (f := 0) d61_1 ⟨rfl, by decide⟩ hs.1 q0 ?_
  refine q_iconstN (z := 1) d61_4 ?_
  refine nc_eq 16 d61_5 (by decide) (by omega) (by omega) (fun h5 => ?_) (fun h5 => ?_)
  · refine q_iconstN (z := 1) d61_16 ?_
    refine q_goto 21 d61_17 (by decide) ?_
    refine q_zret d61_21 rfl (by decide) ?_
    exact bK1 k (decide_eq_true (by omega))
  · refine q_aload_n d61_8 rfl ?_
    refine q_getv (c := 5) (f := 0) d61_9 ⟨rfl, by decide⟩ hs.1 q0 ?_
    refine q_iconstN (z := 2) d61_12 ?_
    refine nc_ne 20 d61_13 (by decide) (by omega) (by omega) (fun h13 => ?_) (fun h13 => ?_)
    · refine q_iconstN (z := 0) d61_20 ?_
      refine q_zret d61_21 rfl (by decide) ?_
      exact bK0 k (decide_eq_false (by omega))
    · refine q_iconstN (z := 1) d61_16 ?_
      refine q_goto 21 d61_17 (by decide) ?_
      refine q_zret d61_21 rfl (by decide) ?_
      exact bK1 k (decide_eq_true (by omega))
theorem d104_0 : decode (zB 104) 0 = .ok (.aload_n 0, 1) := by decide +kernel
theorem d104_1 : decode (zB 104) 1 = .ok (.getfield 9, 3) := by decide +kernel
theorem d104_4 : decode (zB 104) 4 = .ok (.iconst 3, 1) := by decide +kernel
theorem d104_5 : decode (zB 104) 5 = .ok (.if_icmp .eq 19, 3) := by decide +kernel
theorem d104_8 : decode (zB 104) 8 = .ok (.aload_n 0, 1) := by decide +kernel
theorem d104_9 : decode (zB 104) 9 = .ok (.getfield 9, 3) := by decide +kernel
theorem d104_12 : decode (zB 104) 12 = .ok (.iconst 4, 1) := by decide +kernel
theorem d104_13 : decode (zB 104) 13 = .ok (.if_icmp .eq 11, 3) := by decide +kernel
theorem d104_16 : decode (zB 104) 16 = .ok (.aload_n 0, 1) := by decide +kernel
theorem d104_17 : decode (zB 104) 17 = .ok (.getfield 9, 3) := by decide +kernel
theorem d104_20 : decode (zB 104) 20 = .ok (.iconst 5, 1) := by decide +kernel
theorem d104_21 : decode (zB 104) 21 = .ok (.if_icmp .ne 7, 3) := by decide +kernel
theorem d104_24 : decode (zB 104) 24 = .ok (.iconst 1, 1) := by decide +kernel
theorem d104_25 : decode (zB 104) 25 = .ok (.goto 4, 3) := by decide +kernel
theorem d104_28 : decode (zB 104) 28 = .ok (.iconst 0, 1) := by decide +kernel
theorem d104_29 : decode (zB 104) 29 = .ok (.ireturn, 1) := by decide +kernel
theorem c104 {d : Nat} {M : zM} {Q : Option Value → zM → Prop} {a g : Nat} (hs : SSg M a) (q0 : zi M a 0 = nI g) (hg : g ≤ 5) (k : Q (some (.int (bI (decide (3 ≤ g))))) M) : qC (d + 1) 104 [.ref a] M Q := by
  refine qC_of (by decide) (Nat.le_of_ble_eq_true rfl) ?_
  refine q_aload_n d104_0 rfl ?_
  refine q_getv (c := 5) (f := 0) d104_1 ⟨rfl, by decide⟩ hs.1 q0 ?_
  refine q_iconstN (z := 3) d104_4 ?_
  refine nc_eq 24 d104_5 (by decide) (by omega) (by omega) (fun h5 => ?_) (fun h5 => ?_)
  · refine q_iconstN (z := 1) d104_24 ?_
    refine q_goto 29 d104_25 (by decide) ?_
    refine q_zret d104_29 rfl (by decide) ?_
    exact bK1 k (decide_eq_true (by omega))
  · refine q_aload_n d104_8 rfl ?_
    refine q_getv (c := 5) (f := 0) d104_9 ⟨rfl, by decide⟩ hs.1 q0 ?_
    refine q_iconstN (z := 4) d104_12 ?_
    refine nc_eq 24 d104_13 (by decide) (by omega) (by omega) (fun h13 => ?_) (fun h13 => ?_)
    · refine q_iconstN (z := 1) d104_24 ?_
      refine q_goto 29 d104_25 (by decide) ?_
      refine q_zret d104_29 rfl (by decide) ?_
      exact bK1 k (decide_eq_true (by omega))
    · refine q_aload_n d104_16 rfl ?_
      refine q_getv (c := 5) (f := 0) d104_17 ⟨rfl, by decide⟩ hs.1 q0 ?_
      refine q_iconstN (z := 5) d104_20 ?_
      refine nc_ne 28 d104_21 (by decide) (by omega) (by omega) (fun h21 => ?_) (fun h21 => ?_)
      · refine q_iconstN (z := 0) d104_28 ?_
        refine q_zret d104_29 rfl (by decide) ?_
        exact bK0 k (decide_eq_false (by omega))
      · refine q_iconstN (z := 1) d104_24 ?_
        refine q_goto 29 d104_25 (by decide) ?_
        refine q_zret d104_29 rfl (by decide) ?_
        exact bK1 k (decide_eq_true (by omega))
theorem d80_0 : decode (zB 80) 0 = .ok (.aload_n 0, 1) := by decide +kernel
theorem d80_1 : decode (zB 80) 1 = .ok (.getfield 40, 3) := by decide +kernel
theorem d80_4 : decode (zB 80) 4 = .ok (.ifnull 21, 3) := by decide +kernel
theorem d80_7 : decode (zB 80) 7 = .ok (.aload_n 0, 1) := by decide +kernel
theorem d80_8 : decode (zB 80) 8 = .ok (.getfield 44, 3) := by decide +kernel
theorem d80_11 : decode (zB 80) 11 = .ok (.aload_n 0, 1) := by decide +kernel
theorem d80_12 : decode (zB 80) 12 = .ok (.getfield 40, 3) := by decide +kernel
theorem d80_15 : decode (zB 80) 15 = .ok (.invokevirtual 88, 3) := by decide +kernel
theorem d80_18 : decode (zB 80) 18 = .ok (.if_icmp .ne 7, 3) := by decide +kernel
theorem d80_21 : decode (zB 80) 21 = .ok (.iconst 1, 1) := by decide +kernel
theorem d80_22 : decode (zB 80) 22 = .ok (.goto 4, 3) := by decide +kernel
theorem d80_25 : decode (zB 80) 25 = .ok (.iconst 0, 1) := by decide +kernel
theorem d80_26 : decode (zB 80) 26 = .ok (.ireturn, 1) := by decide +kernel
theorem c80 {d : Nat} {M : zM} {Q : Option Value → zM → Prop} {a b dm : Nat} {T : yT} (hs : SSg M a) (q2 : zr M a 2 = some b) (hp : SPr M b) (hr : RP M b T) (hn : tn T ≤ 12) (q3 : zi M a 3 = nI dm) (hd : dm < 4096) (k : Q (some (.int (bI (decide (dm = 2 ^ tn T - 1))))) M) : qC (d + 2) 80 [.ref a] M Q := by
  refine qC_of (by decide) (Nat.le_of_ble_eq_true rfl) ?_
  refine q_aload_n d80_0 rfl ?_
  refine q_getr (c := 5) (f := 2) d80_1 ⟨rfl, rfl⟩ hs.1 q2 ?_
  refine q_ifnull (r := some _) 25 d80_4 (by decide) (fun q => absurd q (Option.some_ne_none _)) (fun _ => ?_)
  have hz : 2 ^ tn T ≤ 4096 := pow_12 hn
  refine q_aload_n d80_7 rfl ?_
  refine q_getv (c := 5) (f := 3) d80_8 ⟨rfl, by decide⟩ hs.1 q3 ?_
  refine q_aload_n d80_11 rfl ?_
  refine q_getr (c := 5) (f := 2) d80_12 ⟨rfl, rfl⟩ hs.1 q2 ?_
  refine q_v0 d80_15 rfl rfl hp.1 (Nat.le_of_ble_eq_true rfl) (c37 hp hr hn ?_)
  refine nc_ne 25 d80_18 (by decide) (by omega) (by omega) (fun h18 => ?_) (fun h18 => ?_)
  · refine q_iconstN (z := 0) d80_25 ?_
    refine q_zret d80_26 rfl (by decide) ?_
    exact bK0 k (decide_eq_false h18)
  · refine q_iconstN (z := 1) d80_21 ?_
    refine q_goto 26 d80_22 (by decide) ?_
    refine q_zret d80_26 rfl (by decide) ?_
    exact bK1 k (decide_eq_true h18)
theorem d88_0 : decode (zB 88) 0 = .ok (.aload_n 0, 1) := by decide +kernel
theorem d88_1 : decode (zB 88) 1 = .ok (.getfield 40, 3) := by decide +kernel
theorem d88_4 : decode (zB 88) 4 = .ok (.ifnull 21, 3) := by decide +kernel
theorem d88_7 : decode (zB 88) 7 = .ok (.aload_n 0, 1) := by decide +kernel
theorem d88_8 : decode (zB 88) 8 = .ok (.getfield 40, 3) := by decide +kernel
theorem d88_11 : decode (zB 88) 11 = .ok (.aload_n 0, 1) := by decide +kernel
theorem d88_12 : decode (zB 88) 12 = .ok (.getfield 44, 3) := by decide +kernel
theorem d88_15 : decode (zB 88) 15 = .ok (.invokevirtual 92, 3) := by decide +kernel
theorem d88_18 : decode (zB 88) 18 = .ok (.ifCond .eq 7, 3) := by decide +kernel
theorem d88_21 : decode (zB 88) 21 = .ok (.iconst 1, 1) := by decide +kernel
theorem d88_22 : decode (zB 88) 22 = .ok (.goto 4, 3) := by decide +kernel
theorem d88_25 : decode (zB 88) 25 = .ok (.iconst 0, 1) := by decide +kernel
theorem d88_26 : decode (zB 88) 26 = .ok (.ireturn, 1) := by decide +kernel
theorem c88 {d : Nat} {M : zM} {Q : Option Value → zM → Prop} {a b dm : Nat} {T : yT} (hs : SSg M a) (q2 : zr M a 2 = some b) (hp : SPr M b) (hr : RP M b T) (q3 : zi M a 3 = nI dm) (k : Q (some (.int (bI (ypa T dm)))) M) : qC (d + 2) 88 [.ref a] M Q := by
  refine qC_of (by decide) (Nat.le_of_ble_eq_true rfl) ?_
  refine q_aload_n d88_0 rfl ?_
  refine q_getr (c := 5) (f := 2) d88_1 ⟨rfl, rfl⟩ hs.1 q2 ?_
  refine q_ifnull (r := some _) 25 d88_4 (by decide) (fun q => absurd q (Option.some_ne_none _)) (fun _ => ?_)
  refine q_aload_n d88_7 rfl ?_
  refine q_getr (c := 5) (f := 2) d88_8 ⟨rfl, rfl⟩ hs.1 q2 ?_
  refine q_aload_n d88_11 rfl ?_
  refine q_getv (c := 5) (f := 3) d88_12 ⟨rfl, by decide⟩ hs.1 q3 ?_
  refine q_v1 d88_15 rfl rfl hp.1 (Nat.le_of_ble_eq_true rfl) (c77 hp hr ?_)
  refine b0_eq 25 d88_18 (by decide) (fun h18 => ?_) (fun h18 => ?_)
  · refine q_iconstN (z := 0) d88_25 ?_
    refine q_zret d88_26 rfl (by decide) ?_
    exact bK0 k h18
  · refine q_iconstN (z := 1) d88_21 ?_
    refine q_goto 26 d88_22 (by decide) ?_
    refine q_zret d88_26 rfl (by decide) ?_
    exact bK1 k h18
theorem c88n {d : Nat} {M : zM} {Q : Option Value → zM → Prop} {a : Nat} (hs : SSg M a) (q2 : zr M a 2 = none) (k : Q (some (.int (nI 0))) M) : qC (d + 2) 88 [.ref a] M Q := by
  refine qC_of (by decide) (Nat.le_of_ble_eq_true rfl) ?_
  refine q_aload_n d88_0 rfl ?_
  refine q_getr (c := 5) (f := 2) d88_1 ⟨rfl, rfl⟩ hs.1 q2 ?_
  refine q_ifnull (r := none) 25 d88_4 (by decide) (fun _ => ?_) (fun q => absurd rfl q)
  refine q_iconstN (z := 0) d88_25 ?_
  refine q_zret d88_26 rfl (by decide) ?_
  exact k
theorem d109_0 : decode (zB 109) 0 = .ok (.aload_n 0, 1) := by decide +kernel
theorem d109_1 : decode (zB 109) 1 = .ok (.getfield 40, 3) := by decide +kernel
theorem d109_4 : decode (zB 109) 4 = .ok (.ifnonnull 7, 3) := by decide +kernel
theorem d109_7 : decode (zB 109) 7 = .ok (.iconst 0, 1) := by decide +kernel
theorem d109_8 : decode (zB 109) 8 = .ok (.goto 10, 3) := by decide +kernel
theorem d109_11 : decode (zB 109) 11 = .ok (.aload_n 0, 1) := by decide +kernel
theorem d109_12 : decode (zB 109) 12 = .ok (.getfield 40, 3) := by decide +kernel
theorem d109_15 : decode (zB 109) 15 = .ok (.getfield 77, 3) := by decide +kernel
theorem d109_18 : decode (zB 109) 18 = .ok (.ireturn, 1) := by decide +kernel
theorem c109 {d : Nat} {M : zM} {Q : Option Value → zM → Prop} {a b : Nat} {T : yT} (hs : SSg M a) (q2 : zr M a 2 = some b) (hp : SPr M b) (hr : RP M b T) (k : Q (some (.int (nI (tn T)))) M) : qC (d + 1) 109 [.ref a] M Q := by
  refine qC_of (by decide) (Nat.le_of_ble_eq_true rfl) ?_
  refine q_aload_n d109_0 rfl ?_
  refine q_getr (c := 5) (f := 2) d109_1 ⟨rfl, rfl⟩ hs.1 q2 ?_
  refine q_ifnonnull (r := some _) 11 d109_4 (by decide) (fun _ => ?_) (fun q => absurd q (Option.some_ne_none _))
  refine q_aload_n d109_11 rfl ?_
  refine q_getr (c := 5) (f := 2) d109_12 ⟨rfl, rfl⟩ hs.1 q2 ?_
  refine q_getv (c := 1) (f := 6) d109_15 ⟨rfl, by decide⟩ hp.1 hr.1 ?_
  refine q_iret d109_18 rfl ?_
  exact k
theorem c109n {d : Nat} {M : zM} {Q : Option Value → zM → Prop} {a : Nat} (hs : SSg M a) (q2 : zr M a 2 = none) (k : Q (some (.int (nI 0))) M) : qC (d + 1) 109 [.ref a] M Q := by
  refine qC_of (by decide) (Nat.le_of_ble_eq_true rfl) ?_
  refine q_aload_n d109_0 rfl ?_
  refine q_getr (c := 5) (f := 2) d109_1 ⟨rfl, rfl⟩ hs.1 q2 ?_
  refine q_ifnonnull (r := none) 11 d109_4 (by decide) (fun q => absurd rfl q) (fun _ => ?_)
  refine q_iconstN (z := 0) d109_7 ?_
  refine q_goto 18 d109_8 (by decide) ?_
  refine q_iret d109_18 rfl ?_
  exact k
theorem d67_0 : decode (zB 67) 0 = .ok (.aload_n 0, 1) := by decide +kernel
theorem d67_1 : decode (zB 67) 1 = .ok (.getfield 40, 3) := by decide +kernel
theorem d67_4 : decode (zB 67) 4 = .ok (.ifnonnull 13, 3) := by decide +kernel
theorem d67_7 : decode (zB 67) 7 = .ok (.iload_n 1, 1) := by decide +kernel
theorem d67_8 : decode (zB 67) 8 = .ok (.iconst 0, 1) := by decide +kernel
theorem d67_9 : decode (zB 67) 9 = .ok (.bipush 11, 2) := by decide +kernel
theorem d67_11 : decode (zB 67) 11 = .ok (.invokestatic 84, 3) := by decide +kernel
theorem d67_14 : decode (zB 67) 14 = .ok (.goto 11, 3) := by decide +kernel
theorem d67_17 : decode (zB 67) 17 = .ok (.aload_n 0, 1) := by decide +kernel
theorem d67_18 : decode (zB 67) 18 = .ok (.getfield 40, 3) := by decide +kernel
theorem d67_21 : decode (zB 67) 21 = .ok (.iload_n 1, 1) := by decide +kernel
theorem d67_22 : decode (zB 67) 22 = .ok (.invokevirtual 80, 3) := by decide +kernel
theorem d67_25 : decode (zB 67) 25 = .ok (.ireturn, 1) := by decide +kernel
theorem c67 {d : Nat} {M : zM} {Q : Option Value → zM → Prop} {a b : Nat} {T : yT} {x : Int32} (hs : SSg M a) (q2 : zr M a 2 = some b) (hp : SPr M b) (hr : RP M b T) (hn : tn T ≤ 12) (k : Q (some (.int (bI (zix x (tn T)).isSome))) M) : qC (d + 2) 67 [.ref a, .int x] M Q := by
  refine qC_of (by decide) (Nat.le_of_ble_eq_true rfl) ?_
  refine q_aload_n d67_0 rfl ?_
  refine q_getr (c := 5) (f := 2) d67_1 ⟨rfl, rfl⟩ hs.1 q2 ?_
  refine q_ifnonnull (r := some _) 17 d67_4 (by decide) (fun _ => ?_) (fun q => absurd q (Option.some_ne_none _))
  refine q_aload_n d67_17 rfl ?_
  refine q_getr (c := 5) (f := 2) d67_18 ⟨rfl, rfl⟩ hs.1 q2 ?_
  refine q_iload_n d67_21 rfl ?_
  refine q_v1 d67_22 rfl rfl hp.1 (Nat.le_of_ble_eq_true rfl) (c47 hp hr hn ?_)
  refine b_ret d67_25 rfl ?_
  exact k
theorem c67n {d : Nat} {M : zM} {Q : Option Value → zM → Prop} {a : Nat} {x : Int32} (hs : SSg M a) (q2 : zr M a 2 = none) (k : Q (some (.int (bI (zix x 12).isSome))) M) : qC (d + 2) 67 [.ref a, .int x] M Q := by
  refine qC_of (by decide) (Nat.le_of_ble_eq_true rfl) ?_
  refine q_aload_n d67_0 rfl ?_
  refine q_getr (c := 5) (f := 2) d67_1 ⟨rfl, rfl⟩ hs.1 q2 ?_
  refine q_ifnonnull (r := none) 17 d67_4 (by decide) (fun q => absurd rfl q) (fun _ => ?_)
  refine q_iload_n d67_7 rfl ?_
  refine q_iconstN (z := 0) d67_8 ?_
  refine q_bipush (x := nI 11) d67_9 rfl ?_
  refine q_s3 d67_11 (Or.inr rfl) rfl (Nat.le_of_ble_eq_true rfl) (c10z (by omega) ?_)
  refine q_goto 25 d67_14 (by decide) ?_
  refine b_ret d67_25 rfl ?_
  exact k
theorem d115_0 : decode (zB 115) 0 = .ok (.aload_n 0, 1) := by decide +kernel
theorem d115_1 : decode (zB 115) 1 = .ok (.getfield 40, 3) := by decide +kernel
theorem d115_4 : decode (zB 115) 4 = .ok (.ifnull 18, 3) := by decide +kernel
theorem d115_7 : decode (zB 115) 7 = .ok (.aload_n 0, 1) := by decide +kernel
theorem d115_8 : decode (zB 115) 8 = .ok (.getfield 40, 3) := by decide +kernel
theorem d115_11 : decode (zB 115) 11 = .ok (.iload_n 1, 1) := by decide +kernel
theorem d115_12 : decode (zB 115) 12 = .ok (.invokevirtual 80, 3) := by decide +kernel
theorem d115_15 : decode (zB 115) 15 = .ok (.ifCond .eq 7, 3) := by decide +kernel
theorem d115_18 : decode (zB 115) 18 = .ok (.iconst 1, 1) := by decide +kernel
theorem d115_19 : decode (zB 115) 19 = .ok (.goto 4, 3) := by decide +kernel
theorem d115_22 : decode (zB 115) 22 = .ok (.iconst 0, 1) := by decide +kernel
theorem d115_23 : decode (zB 115) 23 = .ok (.ireturn, 1) := by decide +kernel
theorem c115 {d : Nat} {M : zM} {Q : Option Value → zM → Prop} {a b : Nat} {T : yT} {x : Int32} (hs : SSg M a) (q2 : zr M a 2 = some b) (hp : SPr M b) (hr : RP M b T) (hn : tn T ≤ 12) (k : Q (some (.int (bI (zix x (tn T)).isSome))) M) : qC (d + 2) 115 [.ref a, .int x] M Q := by
  refine qC_of (by decide) (Nat.le_of_ble_eq_true rfl) ?_
  refine q_aload_n d115_0 rfl ?_
  refine q_getr (c := 5) (f := 2) d115_1 ⟨rfl, rfl⟩ hs.1 q2 ?_
  refine q_ifnull (r := some _) 22 d115_4 (by decide) (fun q => absurd q (Option.some_ne_none _)) (fun _ => ?_)
  refine q_aload_n d115_7 rfl ?_
  refine q_getr (c := 5) (f := 2) d115_8 ⟨rfl, rfl⟩ hs.1 q2 ?_
  refine q_iload_n d115_11 rfl ?_
  refine q_v1 d115_12 rfl rfl hp.1 (Nat.le_of_ble_eq_true rfl) (c47 hp hr hn ?_)
  refine b0_eq 22 d115_15 (by decide) (fun h15 => ?_) (fun h15 => ?_)
  · refine q_iconstN (z := 0) d115_22 ?_
    refine q_zret d115_23 rfl (by decide) ?_
    exact bK0 k h15
  · refine q_iconstN (z := 1) d115_18 ?_
    refine q_goto 23 d115_19 (by decide) ?_
    refine q_zret d115_23 rfl (by decide) ?_
    exact bK1 k h15
theorem front_eq {T : yT} {S : yS} (h3 : ∀ i, gd S i ≤ 3) (hn : tn T ≤ 12) : zdf (zdf (ynx T (gm S 1)) (gm S 2)) (gm S 3) = yfr T S := by
  apply ymk_is
  intro i
  rw [zdf_bit, zdf_bit, gm_bit, gm_bit]
  unfold ynx
  rw [ymk_bit, gm_bit]
  have h := h3 i
  by_cases hi : i < tn T
  · have : i < 12 := by omega
    rw [decide_eq_true hi, decide_eq_true this]
    rcases (show gd S i = 0 ∨ gd S i = 1 ∨ gd S i = 2 ∨ gd S i = 3 by omega) with e | e | e | e <;> rw [e] <;> cases (zdf (ta T i) (gm S 1) == 0) <;> rfl
  · rw [decide_eq_false hi]; rfl
theorem d71_0 : decode (zB 71) 0 = .ok (.aload_n 0, 1) := by decide +kernel
theorem d71_1 : decode (zB 71) 1 = .ok (.getfield 40, 3) := by decide +kernel
theorem d71_4 : decode (zB 71) 4 = .ok (.ifnull 11, 3) := by decide +kernel
theorem d71_7 : decode (zB 71) 7 = .ok (.aload_n 0, 1) := by decide +kernel
theorem d71_8 : decode (zB 71) 8 = .ok (.getfield 9, 3) := by decide +kernel
theorem d71_11 : decode (zB 71) 11 = .ok (.iconst 1, 1) := by decide +kernel
theorem d71_12 : decode (zB 71) 12 = .ok (.if_icmp .eq 5, 3) := by decide +kernel
theorem d71_15 : decode (zB 71) 15 = .ok (.iconst 0, 1) := by decide +kernel
theorem d71_16 : decode (zB 71) 16 = .ok (.ireturn, 1) := by decide +kernel
theorem d71_17 : decode (zB 71) 17 = .ok (.aload_n 0, 1) := by decide +kernel
theorem d71_18 : decode (zB 71) 18 = .ok (.getfield 40, 3) := by decide +kernel
theorem d71_21 : decode (zB 71) 21 = .ok (.aload_n 0, 1) := by decide +kernel
theorem d71_22 : decode (zB 71) 22 = .ok (.getfield 44, 3) := by decide +kernel
theorem d71_25 : decode (zB 71) 25 = .ok (.invokevirtual 95, 3) := by decide +kernel
theorem d71_28 : decode (zB 71) 28 = .ok (.aload_n 0, 1) := by decide +kernel
theorem d71_29 : decode (zB 71) 29 = .ok (.getfield 47, 3) := by decide +kernel
theorem d71_32 : decode (zB 71) 32 = .ok (.iconst (-1), 1) := by decide +kernel
theorem d71_33 : decode (zB 71) 33 = .ok (.ixor, 1) := by decide +kernel
theorem d71_34 : decode (zB 71) 34 = .ok (.iand, 1) := by decide +kernel
theorem d71_35 : decode (zB 71) 35 = .ok (.aload_n 0, 1) := by decide +kernel
theorem d71_36 : decode (zB 71) 36 = .ok (.getfield 50, 3) := by decide +kernel
theorem d71_39 : decode (zB 71) 39 = .ok (.iconst (-1), 1) := by decide +kernel
theorem d71_40 : decode (zB 71) 40 = .ok (.ixor, 1) := by decide +kernel
theorem d71_41 : decode (zB 71) 41 = .ok (.iand, 1) := by decide +kernel
theorem d71_42 : decode (zB 71) 42 = .ok (.ireturn, 1) := by decide +kernel
theorem c71 {d : Nat} {M : zM} {Q : Option Value → zM → Prop} {a b : Nat} {T : yT} {S : yS} (hs : SSg M a) (q2 : zr M a 2 = some b) (hp : SPr M b) (hr : RP M b T) (ho : OKT T) (h3 : ∀ i, gd S i ≤ 3) (q0 : zi M a 0 = nI (gt S)) (hg : gt S ≤ 5) (q3 : zi M a 3 = nI (gm S 1)) (q4 : zi M a 4 = nI (gm S 2)) (q5 : zi M a 5 = nI (gm S 3)) (k : Q (some (.int (nI (if gt S = 1 then yfr T S else 0)))) M) : qC (d + 3) 71 [.ref a] M Q := by
  refine qC_of (by decide) (Nat.le_of_ble_eq_true rfl) ?_
  refine q_aload_n d71_0 rfl ?_
  refine q_getr (c := 5) (f := 2) d71_1 ⟨rfl, rfl⟩ hs.1 q2 ?_
  refine q_ifnull (r := some _) 15 d71_4 (by decide) (fun q => absurd q (Option.some_ne_none _)) (fun _ => ?_)
  refine q_aload_n d71_7 rfl ?_
  refine q_getv (c := 5) (f := 0) d71_8 ⟨rfl, by decide⟩ hs.1 q0 ?_
  refine q_iconstN (z := 1) d71_11 ?_
  refine nc_eq 17 d71_12 (by decide) (by omega) (by omega) (fun h12 => ?_) (fun h12 => ?_)
  · refine q_aload_n d71_17 rfl ?_
    refine q_getr (c := 5) (f := 2) d71_18 ⟨rfl, rfl⟩ hs.1 q2 ?_
    refine q_aload_n d71_21 rfl ?_
    refine q_getv (c := 5) (f := 3) d71_22 ⟨rfl, by decide⟩ hs.1 q3 ?_
    refine q_v1 d71_25 rfl rfl hp.1 (Nat.le_of_ble_eq_true rfl) (c44 hp hr ho (gm_lt S 1) ?_)
    refine q_aload_n d71_28 rfl ?_
    refine q_getv (c := 5) (f := 4) d71_29 ⟨rfl, by decide⟩ hs.1 q4 ?_
    refine q_iconst (x := (-1)) d71_32 rfl ?_
    refine q_ixor d71_33 ?_
    refine n_iandn d71_34 ?_
    refine q_aload_n d71_35 rfl ?_
    refine q_getv (c := 5) (f := 5) d71_36 ⟨rfl, by decide⟩ hs.1 q5 ?_
    refine q_iconst (x := (-1)) d71_39 rfl ?_
    refine q_ixor d71_40 ?_
    refine n_iandn d71_41 ?_
    refine q_iret d71_42 rfl ?_
    refine nK k ?_; rw [if_pos h12, front_eq h3 ho.n]
  · refine q_iconstN (z := 0) d71_15 ?_
    refine q_iret d71_16 rfl ?_
    refine nK k ?_; rw [if_neg h12]
theorem c71n {d : Nat} {M : zM} {Q : Option Value → zM → Prop} {a : Nat} (hs : SSg M a) (q2 : zr M a 2 = none) (k : Q (some (.int (nI 0))) M) : qC (d + 3) 71 [.ref a] M Q := by
  refine qC_of (by decide) (Nat.le_of_ble_eq_true rfl) ?_
  refine q_aload_n d71_0 rfl ?_
  refine q_getr (c := 5) (f := 2) d71_1 ⟨rfl, rfl⟩ hs.1 q2 ?_
  refine q_ifnull (r := none) 15 d71_4 (by decide) (fun _ => ?_) (fun q => absurd rfl q)
  refine q_iconstN (z := 0) d71_15 ?_
  refine q_iret d71_16 rfl ?_
  exact k
def ylast (l : List Nat) : Int32 := match l with
  | [] => -1
  | i :: _ => nI i
theorem d82_0 : decode (zB 82) 0 = .ok (.aload_n 0, 1) := by decide +kernel
theorem d82_1 : decode (zB 82) 1 = .ok (.getfield 53, 3) := by decide +kernel
theorem d82_4 : decode (zB 82) 4 = .ok (.ifCond .le 26, 3) := by decide +kernel
theorem d82_7 : decode (zB 82) 7 = .ok (.aload_n 0, 1) := by decide +kernel
theorem d82_8 : decode (zB 82) 8 = .ok (.getfield 53, 3) := by decide +kernel
theorem d82_11 : decode (zB 82) 11 = .ok (.bipush 12, 2) := by decide +kernel
theorem d82_13 : decode (zB 82) 13 = .ok (.if_icmp .gt 17, 3) := by decide +kernel
theorem d82_16 : decode (zB 82) 16 = .ok (.aload_n 0, 1) := by decide +kernel
theorem d82_17 : decode (zB 82) 17 = .ok (.getfield 18, 3) := by decide +kernel
theorem d82_20 : decode (zB 82) 20 = .ok (.aload_n 0, 1) := by decide +kernel
theorem d82_21 : decode (zB 82) 21 = .ok (.getfield 53, 3) := by decide +kernel
theorem d82_24 : decode (zB 82) 24 = .ok (.iconst 1, 1) := by decide +kernel
theorem d82_25 : decode (zB 82) 25 = .ok (.isub, 1) := by decide +kernel
theorem d82_26 : decode (zB 82) 26 = .ok (.iaload, 1) := by decide +kernel
theorem d82_27 : decode (zB 82) 27 = .ok (.goto 4, 3) := by decide +kernel
theorem d82_30 : decode (zB 82) 30 = .ok (.iconst (-1), 1) := by decide +kernel
theorem d82_31 : decode (zB 82) 31 = .ok (.ireturn, 1) := by decide +kernel
theorem c82 {d : Nat} {M : zM} {Q : Option Value → zM → Prop} {a : Nat} {l : List Nat} (hs : SSg M a) (q7 : zi M a 7 = nI l.length) (hl : l.length ≤ 12) (q8 : ∀ k, k < l.length → zi M (a + 1) k = nI (l.getD (l.length - 1 - k) 0)) (k : Q (some (.int (ylast l))) M) : qC (d + 1) 82 [.ref a] M Q := by
  refine qC_of (by decide) (Nat.le_of_ble_eq_true rfl) ?_
  refine q_aload_n d82_0 rfl ?_
  refine q_getv (c := 5) (f := 7) d82_1 ⟨rfl, by decide⟩ hs.1 q7 ?_
  refine n0_le 30 d82_4 (by decide) (by omega) (fun h4 => ?_) (fun h4 => ?_)
  · refine q_iconst (x := (-1)) d82_30 rfl ?_
    refine q_iret d82_31 rfl ?_
    cases l with
    | nil => first | exact k | (exact absurd h4 (by simp))
    | cons i t => first | (refine nK k ?_; show nI _ = nI i; rw [show (i :: t).length - 1 - ((i :: t).length - 1) = 0 by omega]; rfl) | exact absurd h4 (by simp)
  · refine q_aload_n d82_7 rfl ?_
    refine q_getv (c := 5) (f := 7) d82_8 ⟨rfl, by decide⟩ hs.1 q7 ?_
    refine q_bipush (x := nI 12) d82_11 rfl ?_
    refine nc_gt 30 d82_13 (by decide) (by omega) (by omega) (fun h13 => (False.elim (by omega))) (fun h13 => ?_)
    refine q_aload_n d82_16 rfl ?_
    refine q_getr (c := 5) (f := 6) d82_17 ⟨rfl, rfl⟩ hs.1 hs.2.1 ?_
    refine q_aload_n d82_20 rfl ?_
    refine q_getv (c := 5) (f := 7) d82_21 ⟨rfl, by decide⟩ hs.1 q7 ?_
    refine q_iconstN (z := 1) d82_24 ?_
    refine n_isub d82_25 (by omega) ?_
    refine n_iald d82_26 (hs.2.2.2 0 (by decide)) (by omega) (by decide) (q8 _ (by omega)) ?_
    refine q_goto 31 d82_27 (by decide) ?_
    refine q_iret d82_31 rfl ?_
    cases l with
    | nil => first | exact k | (exact absurd h4 (by simp))
    | cons i t => first | (refine nK k ?_; show nI _ = nI i; rw [show (i :: t).length - 1 - ((i :: t).length - 1) = 0 by omega]; rfl) | exact absurd h4 (by simp)
theorem d73_0 : decode (zB 73) 0 = .ok (.iload_n 1, 1) := by decide +kernel
theorem d73_1 : decode (zB 73) 1 = .ok (.ifCond .lt 9, 3) := by decide +kernel
theorem d73_4 : decode (zB 73) 4 = .ok (.iload_n 1, 1) := by decide +kernel
theorem d73_5 : decode (zB 73) 5 = .ok (.bipush 12, 2) := by decide +kernel
theorem d73_7 : decode (zB 73) 7 = .ok (.if_icmp .lt 5, 3) := by decide +kernel
theorem d73_10 : decode (zB 73) 10 = .ok (.iconst 0, 1) := by decide +kernel
theorem d73_11 : decode (zB 73) 11 = .ok (.ireturn, 1) := by decide +kernel
theorem d73_12 : decode (zB 73) 12 = .ok (.iload_n 2, 1) := by decide +kernel
theorem d73_13 : decode (zB 73) 13 = .ok (.iconst 1, 1) := by decide +kernel
theorem d73_14 : decode (zB 73) 14 = .ok (.if_icmp .ne 12, 3) := by decide +kernel
theorem d73_17 : decode (zB 73) 17 = .ok (.aload_n 0, 1) := by decide +kernel
theorem d73_18 : decode (zB 73) 18 = .ok (.getfield 22, 3) := by decide +kernel
theorem d73_21 : decode (zB 73) 21 = .ok (.iload_n 1, 1) := by decide +kernel
theorem d73_22 : decode (zB 73) 22 = .ok (.iaload, 1) := by decide +kernel
theorem d73_23 : decode (zB 73) 23 = .ok (.goto 9, 3) := by decide +kernel
theorem d73_26 : decode (zB 73) 26 = .ok (.aload_n 0, 1) := by decide +kernel
theorem d73_27 : decode (zB 73) 27 = .ok (.getfield 25, 3) := by decide +kernel
theorem d73_30 : decode (zB 73) 30 = .ok (.iload_n 1, 1) := by decide +kernel
theorem d73_31 : decode (zB 73) 31 = .ok (.iaload, 1) := by decide +kernel
theorem d73_32 : decode (zB 73) 32 = .ok (.ireturn, 1) := by decide +kernel
theorem c73 {d : Nat} {M : zM} {Q : Option Value → zM → Prop} {a i : Nat} {n : Int32} (hs : SSg M a) (hi : i < 12) (q9 : zi M (a + 2) i = n) (k : Q (some (.int n)) M) : qC (d + 1) 73 [.ref a, .int (nI i), .int (nI 1)] M Q := by
  refine qC_of (by decide) (Nat.le_of_ble_eq_true rfl) ?_
  refine q_iload_n d73_0 rfl ?_
  refine n0_lt 10 d73_1 (by decide) (by omega) (fun q => absurd q (Nat.not_lt_zero _)) (fun _ => ?_)
  refine q_iload_n d73_4 rfl ?_
  refine q_bipush (x := nI 12) d73_5 rfl ?_
  refine nc_lt 12 d73_7 (by decide) (by omega) (by omega) (fun h7 => ?_) (fun h7 => (False.elim (by omega)))
  refine q_iload_n d73_12 rfl ?_
  refine q_iconstN (z := 1) d73_13 ?_
  refine nc_ne 26 d73_14 (by decide) (by omega) (by omega) (fun h14 => (False.elim (by omega))) (fun h14 => ?_)
  refine q_aload_n d73_17 rfl ?_
  refine q_getr (c := 5) (f := 8) d73_18 ⟨rfl, rfl⟩ hs.1 (hs.2.2.1 0 (by decide)) ?_
  refine q_iload_n d73_21 rfl ?_
  refine n_iald d73_22 (hs.2.2.2 1 (by decide)) (by omega) (by decide) q9 ?_
  refine q_goto 32 d73_23 (by decide) ?_
  refine q_iret d73_32 rfl ?_
  exact k
theorem c73b {d : Nat} {M : zM} {Q : Option Value → zM → Prop} {a i : Nat} {n : Int32} (hs : SSg M a) (hi : i < 12) (qa : zi M (a + 3) i = n) (k : Q (some (.int n)) M) : qC (d + 1) 73 [.ref a, .int (nI i), .int (-1)] M Q := by
  refine qC_of (by decide) (Nat.le_of_ble_eq_true rfl) ?_
  refine q_iload_n d73_0 rfl ?_
  refine n0_lt 10 d73_1 (by decide) (by omega) (fun q => absurd q (Nat.not_lt_zero _)) (fun _ => ?_)
  refine q_iload_n d73_4 rfl ?_
  refine q_bipush (x := nI 12) d73_5 rfl ?_
  refine nc_lt 12 d73_7 (by decide) (by omega) (by omega) (fun h7 => ?_) (fun h7 => (False.elim (by omega)))
  refine q_iload_n d73_12 rfl ?_
  refine q_iconstN (z := 1) d73_13 ?_
  refine ic_ne 26 d73_14 (by decide) (fun h14 => ?_) (fun h14 => (False.elim (absurd h14 (by decide))))
  refine q_aload_n d73_26 rfl ?_
  refine q_getr (c := 5) (f := 9) d73_27 ⟨rfl, rfl⟩ hs.1 (hs.2.2.1 1 (by decide)) ?_
  refine q_iload_n d73_30 rfl ?_
  refine n_iald d73_31 (hs.2.2.2 2 (by decide)) (by omega) (by decide) qa ?_
  refine q_iret d73_32 rfl ?_
  exact k
theorem ysd_t {p : Nat → Int32} {i : Nat} (h : 0 < p i) : ysd p i = yu p i (p i - 1) := if_pos (decide_eq_true h)
theorem ysd_f {p : Nat → Int32} {i : Nat} (h : ¬ 0 < p i) : ysd p i = p := if_neg (by unfold ypl; simp [h])
theorem d74_0 : decode (zB 74) 0 = .ok (.iload_n 1, 1) := by decide +kernel
theorem d74_1 : decode (zB 74) 1 = .ok (.ifCond .lt 15, 3) := by decide +kernel
theorem d74_4 : decode (zB 74) 4 = .ok (.iload_n 1, 1) := by decide +kernel
theorem d74_5 : decode (zB 74) 5 = .ok (.aload_n 0, 1) := by decide +kernel
theorem d74_6 : decode (zB 74) 6 = .ok (.arraylength, 1) := by decide +kernel
theorem d74_7 : decode (zB 74) 7 = .ok (.if_icmp .ge 9, 3) := by decide +kernel
theorem d74_10 : decode (zB 74) 10 = .ok (.aload_n 0, 1) := by decide +kernel
theorem d74_11 : decode (zB 74) 11 = .ok (.iload_n 1, 1) := by decide +kernel
theorem d74_12 : decode (zB 74) 12 = .ok (.iaload, 1) := by decide +kernel
theorem d74_13 : decode (zB 74) 13 = .ok (.ifCond .gt 5, 3) := by decide +kernel
theorem d74_16 : decode (zB 74) 16 = .ok (.iconst 0, 1) := by decide +kernel
theorem d74_17 : decode (zB 74) 17 = .ok (.ireturn, 1) := by decide +kernel
theorem d74_18 : decode (zB 74) 18 = .ok (.aload_n 0, 1) := by decide +kernel
theorem d74_19 : decode (zB 74) 19 = .ok (.iload_n 1, 1) := by decide +kernel
theorem d74_20 : decode (zB 74) 20 = .ok (.dup2, 1) := by decide +kernel
theorem d74_21 : decode (zB 74) 21 = .ok (.iaload, 1) := by decide +kernel
theorem d74_22 : decode (zB 74) 22 = .ok (.iconst 1, 1) := by decide +kernel
theorem d74_23 : decode (zB 74) 23 = .ok (.isub, 1) := by decide +kernel
theorem d74_24 : decode (zB 74) 24 = .ok (.iastore, 1) := by decide +kernel
theorem d74_25 : decode (zB 74) 25 = .ok (.iconst 1, 1) := by decide +kernel
theorem d74_26 : decode (zB 74) 26 = .ok (.ireturn, 1) := by decide +kernel
theorem c74 {d : Nat} {M : zM} {Q : Option Value → zM → Prop} {b i : Nat} {p : Nat → Int32} (hk : zk M b = (20, 12)) (hi : i < 12) (hp : ∀ j, j < 12 → zi M b j = p j) (k : ∀ M', (∀ j, j < 12 → zi M' b j = ysd p i j) → Fi (fun a _ => a = b) M M' → Q (some (.int (bI (ypl p i)))) M') : qC (d + 1) 74 [.ref b, .int (nI i)] M Q := by
  refine qC_of (by decide) (Nat.le_of_ble_eq_true rfl) ?_
  refine q_iload_n d74_0 rfl ?_
  refine n0_lt 16 d74_1 (by decide) (by omega) (fun q => absurd q (Nat.not_lt_zero _)) (fun _ => ?_)
  refine q_iload_n d74_4 rfl ?_
  refine q_aload_n d74_5 rfl ?_
  refine n_alen d74_6 (Or.inl hk) ?_
  refine nc_ge 16 d74_7 (by decide) (by omega) (by omega) (fun h7 => (False.elim (by omega))) (fun h7 => ?_)
  refine q_aload_n d74_10 rfl ?_
  refine q_iload_n d74_11 rfl ?_
  refine n_iald d74_12 hk (by omega) (by decide) (hp _ hi) ?_
  refine i0_gt 18 d74_13 (by decide) (fun h13 => ?_) (fun h13 => ?_)
  · refine q_aload_n d74_18 rfl ?_
    refine q_iload_n d74_19 rfl ?_
    refine q_dup2 d74_20 rfl rfl ?_
    refine n_iald d74_21 hk (by omega) (by decide) (hp _ hi) ?_
    refine q_iconst (x := (1)) d74_22 rfl ?_
    refine q_isub d74_23 ?_
    refine n_iast d74_24 hk (by omega) (by decide) ?_
    refine q_iconstN (z := 1) d74_25 ?_
    refine q_iret d74_26 rfl ?_
    refine bK1 (k _ (fun j hj => ?_) ((Fi.refl _ _).wi rfl)) (decide_eq_true h13)
    rw [ysd_t h13]
    by_cases e : j = i
    · subst e; rw [wi_s, yu_s]
    · rw [wi_n (Or.inr e), yu_n e]; exact hp j hj
  · refine q_iconstN (z := 0) d74_16 ?_
    refine q_iret d74_17 rfl ?_
    exact bK0 (k _ (fun j hj => by rw [ysd_f h13]; exact hp j hj) (Fi.refl _ _)) (decide_eq_false h13)
theorem d78_0 : decode (zB 78) 0 = .ok (.iload_n 1, 1) := by decide +kernel
theorem d78_1 : decode (zB 78) 1 = .ok (.ifCond .lt 23, 3) := by decide +kernel
theorem d78_4 : decode (zB 78) 4 = .ok (.iload_n 1, 1) := by decide +kernel
theorem d78_5 : decode (zB 78) 5 = .ok (.bipush 12, 2) := by decide +kernel
theorem d78_7 : decode (zB 78) 7 = .ok (.if_icmp .ge 17, 3) := by decide +kernel
theorem d78_10 : decode (zB 78) 10 = .ok (.aload_n 0, 1) := by decide +kernel
theorem d78_11 : decode (zB 78) 11 = .ok (.getfield 34, 3) := by decide +kernel
theorem d78_14 : decode (zB 78) 14 = .ok (.iload_n 1, 1) := by decide +kernel
theorem d78_15 : decode (zB 78) 15 = .ok (.iaload, 1) := by decide +kernel
theorem d78_16 : decode (zB 78) 16 = .ok (.iconst 3, 1) := by decide +kernel
theorem d78_17 : decode (zB 78) 17 = .ok (.if_icmp .lt 7, 3) := by decide +kernel
theorem d78_20 : decode (zB 78) 20 = .ok (.iconst 1, 1) := by decide +kernel
theorem d78_21 : decode (zB 78) 21 = .ok (.goto 4, 3) := by decide +kernel
theorem d78_24 : decode (zB 78) 24 = .ok (.iconst 0, 1) := by decide +kernel
theorem d78_25 : decode (zB 78) 25 = .ok (.ireturn, 1) := by decide +kernel
theorem c78 {d : Nat} {M : zM} {Q : Option Value → zM → Prop} {a i : Nat} {x : Int32} (hs : SSg M a) (hi : i < 12) (qf : zi M (a + 6) i = x) (k : Q (some (.int (bI (decide (¬ x < nI 3))))) M) : qC (d + 1) 78 [.ref a, .int (nI i)] M Q := by
  refine qC_of (by decide) (Nat.le_of_ble_eq_true rfl) ?_
  refine q_iload_n d78_0 rfl ?_
  refine n0_lt 24 d78_1 (by decide) (by omega) (fun q => absurd q (Nat.not_lt_zero _)) (fun _ => ?_)
  refine q_iload_n d78_4 rfl ?_
  refine q_bipush (x := nI 12) d78_5 rfl ?_
  refine nc_ge 24 d78_7 (by decide) (by omega) (by omega) (fun h7 => (False.elim (by omega))) (fun h7 => ?_)
  refine q_aload_n d78_10 rfl ?_
  refine q_getr (c := 5) (f := 12) d78_11 ⟨rfl, rfl⟩ hs.1 (hs.2.2.1 4 (by decide)) ?_
  refine q_iload_n d78_14 rfl ?_
  refine n_iald d78_15 (hs.2.2.2 5 (by decide)) (by omega) (by decide) qf ?_
  refine q_iconstN (z := 3) d78_16 ?_
  refine ic_lt 24 d78_17 (by decide) (fun h17 => ?_) (fun h17 => ?_)
  · refine q_iconstN (z := 0) d78_24 ?_
    refine q_zret d78_25 rfl (by decide) ?_
    exact bK0 k (decide_eq_false (fun q => q h17))
  · refine q_iconstN (z := 1) d78_20 ?_
    refine q_goto 25 d78_21 (by decide) ?_
    refine q_zret d78_25 rfl (by decide) ?_
    exact bK1 k (decide_eq_true h17)
theorem RS_done {M M' : zM} {a i : Nat} {T : Nat → yT} {nm : Nat → Int32} {S : yS} (hR : RS M a T nm S) (h0 : gd S i = 0) (hi : i < 12)
    (g : ∀ b k, a ≤ b → b < a + 8 → (b = a + 3 → k ≠ i) → (b = a → k ≠ 3 ∧ k ≠ 7) → (b = a + 1 → k ≠ (go S).length) → zi M' b k = zi M b k) (g2 : zr M' a 2 = zr M a 2) (hq : zi M' (a + 3) i = nm i) (h3 : zi M' a 3 = nI (gm S 1 ||| 2 ^ i)) (h7 : zi M' a 7 = nI ((go S).length + 1)) (h1 : zi M' (a + 1) (go S).length = nI i) : RS M' a T nm (yDn S i (nm i)) := by
  obtain ⟨⟨q0, q1, q2⟩, ⟨q3, q4, q5⟩, ⟨q7, q8⟩, q9, qa, qb⟩ := hR
  refine ⟨⟨(g _ _ (by omega) (by omega) (by omega) (by omega) (by omega)).trans q0, (g _ _ (by omega) (by omega) (by omega) (by omega) (by omega)).trans q1, g2.trans q2⟩, ⟨?_, ?_, ?_⟩, ⟨h7, fun j hj => ?_⟩, fun j hj => (g _ _ (by omega) (by omega) (by omega) (by omega) (by omega)).trans (q9 j hj), fun j hj he => ?_, fun j hj => ?_⟩
  · rw [h3]; exact congrArg nI (gm_in (S := S) hi).symm
  · rw [g _ _ (by omega) (by omega) (by omega) (by omega) (by omega), q4]; exact congrArg nI (gm_not (S := S) (w := 1) (by omega) (by omega)).symm
  · rw [g _ _ (by omega) (by omega) (by omega) (by omega) (by omega), q5]; exact congrArg nI (gm_not (S := S) (w := 1) (by omega) (by omega)).symm
  · show _ = nI ((i :: go S).getD ((i :: go S).length - 1 - j) 0)
    have hj : j < (go S).length + 1 := hj
    rw [List.length_cons]
    by_cases e : j = (go S).length
    · subst e; rw [h1, show (go S).length + 1 - 1 - (go S).length = 0 by omega]; rfl
    · rw [g _ _ (by omega) (by omega) (by omega) (by omega) (by omega), q8 j (by omega), show (go S).length + 1 - 1 - j = ((go S).length - 1 - j) + 1 by omega]; rfl
  · show _ = yu (gb S) i (nm i) j
    have he : yu (gd S) i 1 j = 1 := he
    by_cases e : j = i
    · subst e; rw [hq, yu_s]
    · rw [yu_n e] at he; rw [yu_n e, g _ _ (by omega) (by omega) (by omega) (by omega) (by omega)]; exact qa j hj he
  · rw [g _ _ (by omega) (by omega) (by omega) (by omega) (by omega), g _ _ (by omega) (by omega) (by omega) (by omega) (by omega), g _ _ (by omega) (by omega) (by omega) (by omega) (by omega), g _ _ (by omega) (by omega) (by omega) (by omega) (by omega)]
    exact qb j hj
/-- the last of those done leaves them -/
theorem RS_undo {M M' : zM} {a i v : Nat} {t : List Nat} {T : Nat → yT} {nm : Nat → Int32} {S : yS} (hR : RS M a T nm S) (hg : go S = i :: t) (h0 : gd S i = 1) (hi : i < 12) (hv : v = 2 ∨ v = 3) (w : Nat → Int32)
    (g : ∀ b k, a ≤ b → b < a + 8 → (b = a → k ≠ 3 ∧ k ≠ 7 ∧ k ≠ v + 2) → b ≠ a + 7 → zi M' b k = zi M b k) (g2 : zr M' a 2 = zr M a 2) (h3 : zi M' a 3 = nI (zdf (gm S 1) (2 ^ i))) (h7 : zi M' a 7 = nI t.length) (hv1 : zi M' a (v + 2) = nI (gm S v ||| 2 ^ i)) (hw : ∀ k, k < 12 → zi M' (a + 7) k = w k) : RS M' a T nm (gwS (goS (gdS S (yu (gd S) i v)) t) w) := by
  obtain ⟨⟨q0, q1, q2⟩, ⟨q3, q4, q5⟩, ⟨q7, q8⟩, q9, qa, qb⟩ := hR
  refine ⟨⟨(g _ _ (by omega) (by omega) (by omega) (by omega)).trans q0, (g _ _ (by omega) (by omega) (by omega) (by omega)).trans q1, g2.trans q2⟩, ⟨?_, ?_, ?_⟩, ⟨h7, fun j hj => ?_⟩, fun j hj => (g _ _ (by omega) (by omega) (by omega) (by omega)).trans (q9 j hj), fun j hj he => ?_, fun j hj => ?_⟩
  · rw [h3]; exact congrArg nI (gm_out (S := S) h0 (by omega)).symm
  · rcases hv with rfl | rfl
    · rw [hv1]; exact congrArg nI (gm_in (S := S) hi).symm
    · rw [g _ _ (by omega) (by omega) (by omega) (by omega), q4]; exact congrArg nI (gm_not (S := S) (w := 3) (by omega) (by omega)).symm
  · rcases hv with rfl | rfl
    · rw [g _ _ (by omega) (by omega) (by omega) (by omega), q5]; exact congrArg nI (gm_not (S := S) (w := 2) (by omega) (by omega)).symm
    · rw [hv1]; exact congrArg nI (gm_in (S := S) hi).symm
  · show _ = nI (t.getD (t.length - 1 - j) 0)
    have hj : j < t.length := hj
    rw [hg] at q8
    have := q8 j (by rw [List.length_cons]; omega)
    rw [g _ _ (by omega) (by omega) (by omega) (by omega), this, List.length_cons, show t.length + 1 - 1 - j = (t.length - 1 - j) + 1 by omega]; rfl
  · show _ = gb S j
    have he : yu (gd S) i v j = 1 := he
    by_cases e : j = i
    · subst e; rw [yu_s] at he; omega
    · rw [yu_n e] at he; rw [g _ _ (by omega) (by omega) (by omega) (by omega)]; exact qa j hj he
  · rw [g _ _ (by omega) (by omega) (by omega) (by omega), g _ _ (by omega) (by omega) (by omega) (by omega), g _ _ (by omega) (by omega) (by omega) (by omega), hw j hj]
    exact ⟨(qb j hj).1, (qb j hj).2.1, (qb j hj).2.2.1, rfl⟩
theorem d75_0 : decode (zB 75) 0 = .ok (.iload_n 1, 1) := by decide +kernel
theorem d75_1 : decode (zB 75) 1 = .ok (.ifCond .lt 25, 3) := by decide +kernel
theorem d75_4 : decode (zB 75) 4 = .ok (.iload_n 1, 1) := by decide +kernel
theorem d75_5 : decode (zB 75) 5 = .ok (.bipush 12, 2) := by decide +kernel
theorem d75_7 : decode (zB 75) 7 = .ok (.if_icmp .ge 19, 3) := by decide +kernel
theorem d75_10 : decode (zB 75) 10 = .ok (.aload_n 0, 1) := by decide +kernel
theorem d75_11 : decode (zB 75) 11 = .ok (.getfield 53, 3) := by decide +kernel
theorem d75_14 : decode (zB 75) 14 = .ok (.ifCond .lt 12, 3) := by decide +kernel
theorem d75_17 : decode (zB 75) 17 = .ok (.aload_n 0, 1) := by decide +kernel
theorem d75_18 : decode (zB 75) 18 = .ok (.getfield 53, 3) := by decide +kernel
theorem d75_21 : decode (zB 75) 21 = .ok (.bipush 12, 2) := by decide +kernel
theorem d75_23 : decode (zB 75) 23 = .ok (.if_icmp .lt 4, 3) := by decide +kernel
theorem d75_26 : decode (zB 75) 26 = .ok (.return_, 1) := by decide +kernel
theorem d75_27 : decode (zB 75) 27 = .ok (.aload_n 0, 1) := by decide +kernel
theorem d75_28 : decode (zB 75) 28 = .ok (.getfield 25, 3) := by decide +kernel
theorem d75_31 : decode (zB 75) 31 = .ok (.iload_n 1, 1) := by decide +kernel
theorem d75_32 : decode (zB 75) 32 = .ok (.aload_n 0, 1) := by decide +kernel
theorem d75_33 : decode (zB 75) 33 = .ok (.getfield 22, 3) := by decide +kernel
theorem d75_36 : decode (zB 75) 36 = .ok (.iload_n 1, 1) := by decide +kernel
theorem d75_37 : decode (zB 75) 37 = .ok (.iaload, 1) := by decide +kernel
theorem d75_38 : decode (zB 75) 38 = .ok (.iastore, 1) := by decide +kernel
theorem d75_39 : decode (zB 75) 39 = .ok (.aload_n 0, 1) := by decide +kernel
theorem d75_40 : decode (zB 75) 40 = .ok (.dup, 1) := by decide +kernel
theorem d75_41 : decode (zB 75) 41 = .ok (.getfield 44, 3) := by decide +kernel
theorem d75_44 : decode (zB 75) 44 = .ok (.iconst 1, 1) := by decide +kernel
theorem d75_45 : decode (zB 75) 45 = .ok (.iload_n 1, 1) := by decide +kernel
theorem d75_46 : decode (zB 75) 46 = .ok (.ishl, 1) := by decide +kernel
theorem d75_47 : decode (zB 75) 47 = .ok (.ior, 1) := by decide +kernel
theorem d75_48 : decode (zB 75) 48 = .ok (.putfield 44, 3) := by decide +kernel
theorem d75_51 : decode (zB 75) 51 = .ok (.aload_n 0, 1) := by decide +kernel
theorem d75_52 : decode (zB 75) 52 = .ok (.getfield 18, 3) := by decide +kernel
theorem d75_55 : decode (zB 75) 55 = .ok (.aload_n 0, 1) := by decide +kernel
theorem d75_56 : decode (zB 75) 56 = .ok (.getfield 53, 3) := by decide +kernel
theorem d75_59 : decode (zB 75) 59 = .ok (.iload_n 1, 1) := by decide +kernel
theorem d75_60 : decode (zB 75) 60 = .ok (.iastore, 1) := by decide +kernel
theorem d75_61 : decode (zB 75) 61 = .ok (.aload_n 0, 1) := by decide +kernel
theorem d75_62 : decode (zB 75) 62 = .ok (.dup, 1) := by decide +kernel
theorem d75_63 : decode (zB 75) 63 = .ok (.getfield 53, 3) := by decide +kernel
theorem d75_66 : decode (zB 75) 66 = .ok (.iconst 1, 1) := by decide +kernel
theorem d75_67 : decode (zB 75) 67 = .ok (.iadd, 1) := by decide +kernel
theorem d75_68 : decode (zB 75) 68 = .ok (.putfield 53, 3) := by decide +kernel
theorem d75_71 : decode (zB 75) 71 = .ok (.return_, 1) := by decide +kernel
theorem c75 {d : Nat} {M : zM} {Q : Option Value → zM → Prop} {a : Nat} {T : Nat → yT} {nm : Nat → Int32} {S : yS} {i : Nat} (hs : SSg M a) (hR : RS M a T nm S) (h0 : gd S i = 0) (hi : i < gz T S) (hz : gz T S ≤ 12) (hl : (go S).length < 12) (k : ∀ M', RS M' a T nm (yDn S i (nm i)) → Fi (FS a) M M' → Q none M') : qC (d + 1) 75 [.ref a, .int (nI i)] M Q := by
  have hR' := hR
  obtain ⟨⟨q0, q1, q2⟩, ⟨q3, q4, q5⟩, ⟨q7, q8⟩, q9, qa, qb⟩ := hR
  have hm := gm_lt S 1
  refine qC_of (by decide) (Nat.le_of_ble_eq_true rfl) ?_
  refine q_iload_n d75_0 rfl ?_
  refine n0_lt 26 d75_1 (by decide) (by omega) (fun q => absurd q (Nat.not_lt_zero _)) (fun _ => ?_)
  refine q_iload_n d75_4 rfl ?_
  refine q_bipush (x := nI 12) d75_5 rfl ?_
  refine nc_ge 26 d75_7 (by decide) (by omega) (by omega) (fun h7 => (False.elim (by omega))) (fun h7 => ?_)
  refine q_aload_n d75_10 rfl ?_
  refine q_getv (c := 5) (f := 7) d75_11 ⟨rfl, by decide⟩ hs.1 q7 ?_
  refine n0_lt 26 d75_14 (by decide) (by omega) (fun q => absurd q (Nat.not_lt_zero _)) (fun _ => ?_)
  refine q_aload_n d75_17 rfl ?_
  refine q_getv (c := 5) (f := 7) d75_18 ⟨rfl, by decide⟩ hs.1 q7 ?_
  refine q_bipush (x := nI 12) d75_21 rfl ?_
  refine nc_lt 27 d75_23 (by decide) (by omega) (by omega) (fun h23 => ?_) (fun h23 => (False.elim (by omega)))
  refine q_aload_n d75_27 rfl ?_
  refine q_getr (c := 5) (f := 9) d75_28 ⟨rfl, rfl⟩ hs.1 (hs.2.2.1 1 (by decide)) ?_
  refine q_iload_n d75_31 rfl ?_
  refine q_aload_n d75_32 rfl ?_
  refine q_getr (c := 5) (f := 8) d75_33 ⟨rfl, rfl⟩ hs.1 (hs.2.2.1 0 (by decide)) ?_
  refine q_iload_n d75_36 rfl ?_
  refine n_iald d75_37 (hs.2.2.2 1 (by decide)) (by omega) (by decide) (q9 _ (by omega)) ?_
  refine n_iast d75_38 (hs.2.2.2 2 (by decide)) (by omega) (by decide) ?_
  refine q_aload_n d75_39 rfl ?_
  refine q_dup d75_40 rfl ?_
  refine q_getv (c := 5) (f := 3) d75_41 ⟨rfl, by decide⟩ hs.1 (Eq.trans (by (repeat (first | rw [wi_n (Or.inl (by omega))] | rw [wi_n (Or.inr (by omega))] | rw [wi_s] | rw [wr_i] | rw [cp_n (by omega)]))) q3) ?_
  refine q_iconstN (z := 1) d75_44 ?_
  refine q_iload_n d75_45 rfl ?_
  refine n_ishl1 d75_46 (by omega) ?_
  refine n_ior d75_47 ?_
  refine q_puti (c := 5) (f := 3) d75_48 ⟨rfl, rfl, by decide⟩ hs.1 ?_
  refine q_aload_n d75_51 rfl ?_
  refine q_getr (c := 5) (f := 6) d75_52 ⟨rfl, rfl⟩ hs.1 hs.2.1 ?_
  refine q_aload_n d75_55 rfl ?_
  refine q_getv (c := 5) (f := 7) d75_56 ⟨rfl, by decide⟩ hs.1 (Eq.trans (by (repeat (first | rw [wi_n (Or.inl (by omega))] | rw [wi_n (Or.inr (by omega))] | rw [wi_s] | rw [wr_i] | rw [cp_n (by omega)]))) q7) ?_
  refine q_iload_n d75_59 rfl ?_
  refine n_iast d75_60 (hs.2.2.2 0 (by decide)) (by omega) (by decide) ?_
  refine q_aload_n d75_61 rfl ?_
  refine q_dup d75_62 rfl ?_
  refine q_getv (c := 5) (f := 7) d75_63 ⟨rfl, by decide⟩ hs.1 (Eq.trans (by (repeat (first | rw [wi_n (Or.inl (by omega))] | rw [wi_n (Or.inr (by omega))] | rw [wi_s] | rw [wr_i] | rw [cp_n (by omega)]))) q7) ?_
  refine q_iconstN (z := 1) d75_66 ?_
  refine n_iadd d75_67 ?_
  refine q_puti (c := 5) (f := 7) d75_68 ⟨rfl, rfl, by decide⟩ hs.1 ?_
  refine q_ret d75_71 rfl ?_
  refine k _ (RS_done hR' h0 (by omega) (fun b j _ _ n1 n2 n3 => ?_) rfl ?_ ?_ ?_ ?_) (((((Fi.refl _ _).wi (FS_x (by omega) (by omega))).wi FS_0).wi (FS_x (by omega) (by omega))).wi FS_0)
  · rw [wi_n (by omega), wi_n (by omega), wi_n (by omega), wi_n (by omega)]
  · (repeat (first | rw [wi_n (Or.inl (by omega))] | rw [wi_n (Or.inr (by omega))] | rw [wi_s]))
  · (repeat (first | rw [wi_n (Or.inl (by omega))] | rw [wi_n (Or.inr (by omega))] | rw [wi_s]))
  · (repeat (first | rw [wi_n (Or.inl (by omega))] | rw [wi_n (Or.inr (by omega))] | rw [wi_s]))
  · (repeat (first | rw [wi_n (Or.inl (by omega))] | rw [wi_n (Or.inr (by omega))] | rw [wi_s]))
theorem nI_pm (n : Nat) : nI (n + 1) - nI 1 = nI n := by rw [pk_sub (by omega)]; rfl
theorem d85_0 : decode (zB 85) 0 = .ok (.aload_n 0, 1) := by decide +kernel
theorem d85_1 : decode (zB 85) 1 = .ok (.dup, 1) := by decide +kernel
theorem d85_2 : decode (zB 85) 2 = .ok (.getfield 44, 3) := by decide +kernel
theorem d85_5 : decode (zB 85) 5 = .ok (.iconst 1, 1) := by decide +kernel
theorem d85_6 : decode (zB 85) 6 = .ok (.iload_n 1, 1) := by decide +kernel
theorem d85_7 : decode (zB 85) 7 = .ok (.ishl, 1) := by decide +kernel
theorem d85_8 : decode (zB 85) 8 = .ok (.iconst (-1), 1) := by decide +kernel
theorem d85_9 : decode (zB 85) 9 = .ok (.ixor, 1) := by decide +kernel
theorem d85_10 : decode (zB 85) 10 = .ok (.iand, 1) := by decide +kernel
theorem d85_11 : decode (zB 85) 11 = .ok (.putfield 44, 3) := by decide +kernel
theorem d85_14 : decode (zB 85) 14 = .ok (.aload_n 0, 1) := by decide +kernel
theorem d85_15 : decode (zB 85) 15 = .ok (.getfield 53, 3) := by decide +kernel
theorem d85_18 : decode (zB 85) 18 = .ok (.ifCond .le 13, 3) := by decide +kernel
theorem d85_21 : decode (zB 85) 21 = .ok (.aload_n 0, 1) := by decide +kernel
theorem d85_22 : decode (zB 85) 22 = .ok (.dup, 1) := by decide +kernel
theorem d85_23 : decode (zB 85) 23 = .ok (.getfield 53, 3) := by decide +kernel
theorem d85_26 : decode (zB 85) 26 = .ok (.iconst 1, 1) := by decide +kernel
theorem d85_27 : decode (zB 85) 27 = .ok (.isub, 1) := by decide +kernel
theorem d85_28 : decode (zB 85) 28 = .ok (.putfield 53, 3) := by decide +kernel
theorem d85_31 : decode (zB 85) 31 = .ok (.return_, 1) := by decide +kernel
theorem c85 {d : Nat} {M : zM} {Q : Option Value → zM → Prop} {a i dm n : Nat} (hs : SSg M a) (hi : i < 12) (q3 : zi M a 3 = nI dm) (q7 : zi M a 7 = nI (n + 1)) (hn : n < 12) (k : Q none (zwi (zwi M a 3 (nI (zdf dm (2 ^ i)))) a 7 (nI n))) : qC (d + 1) 85 [.ref a, .int (nI i)] M Q := by
  refine qC_of (by decide) (Nat.le_of_ble_eq_true rfl) ?_
  refine q_aload_n d85_0 rfl ?_
  refine q_dup d85_1 rfl ?_
  refine q_getv (c := 5) (f := 3) d85_2 ⟨rfl, by decide⟩ hs.1 q3 ?_
  refine q_iconstN (z := 1) d85_5 ?_
  refine q_iload_n d85_6 rfl ?_
  refine n_ishl1 d85_7 (by omega) ?_
  refine q_iconst (x := (-1)) d85_8 rfl ?_
  refine q_ixor d85_9 ?_
  refine n_iandn d85_10 ?_
  refine q_puti (c := 5) (f := 3) d85_11 ⟨rfl, rfl, by decide⟩ hs.1 ?_
  refine q_aload_n d85_14 rfl ?_
  refine q_getv (c := 5) (f := 7) d85_15 ⟨rfl, by decide⟩ hs.1 (Eq.trans (by (repeat (first | rw [wi_n (Or.inl (by omega))] | rw [wi_n (Or.inr (by omega))] | rw [wi_s] | rw [wr_i] | rw [cp_n (by omega)]))) q7) ?_
  refine n0_le 31 d85_18 (by decide) (by omega) (fun h18 => ?_) (fun h18 => ?_)
  · refine q_ret d85_31 rfl ?_
    first | exact k | exact absurd h18 (by omega)
  · refine q_aload_n d85_21 rfl ?_
    refine q_dup d85_22 rfl ?_
    refine q_getv (c := 5) (f := 7) d85_23 ⟨rfl, by decide⟩ hs.1 (Eq.trans (by (repeat (first | rw [wi_n (Or.inl (by omega))] | rw [wi_n (Or.inr (by omega))] | rw [wi_s] | rw [wr_i] | rw [cp_n (by omega)]))) q7) ?_
    refine q_iconstN (z := 1) d85_26 ?_
    refine n_isub d85_27 (by omega) ?_
    refine q_puti (c := 5) (f := 7) d85_28 ⟨rfl, rfl, by decide⟩ hs.1 ?_
    refine q_ret d85_31 rfl ?_
    first | exact k | exact absurd h18 (by omega)
theorem d84_0 : decode (zB 84) 0 = .ok (.aload_n 0, 1) := by decide +kernel
theorem d84_1 : decode (zB 84) 1 = .ok (.iload_n 1, 1) := by decide +kernel
theorem d84_2 : decode (zB 84) 2 = .ok (.invokevirtual 99, 3) := by decide +kernel
theorem d84_5 : decode (zB 84) 5 = .ok (.aload_n 0, 1) := by decide +kernel
theorem d84_6 : decode (zB 84) 6 = .ok (.dup, 1) := by decide +kernel
theorem d84_7 : decode (zB 84) 7 = .ok (.getfield 47, 3) := by decide +kernel
theorem d84_10 : decode (zB 84) 10 = .ok (.iconst 1, 1) := by decide +kernel
theorem d84_11 : decode (zB 84) 11 = .ok (.iload_n 1, 1) := by decide +kernel
theorem d84_12 : decode (zB 84) 12 = .ok (.ishl, 1) := by decide +kernel
theorem d84_13 : decode (zB 84) 13 = .ok (.ior, 1) := by decide +kernel
theorem d84_14 : decode (zB 84) 14 = .ok (.putfield 47, 3) := by decide +kernel
theorem d84_17 : decode (zB 84) 17 = .ok (.return_, 1) := by decide +kernel
theorem c84 {d : Nat} {M : zM} {Q : Option Value → zM → Prop} {a : Nat} {T : Nat → yT} {nm : Nat → Int32} {S : yS} {i : Nat} {t : List Nat} (hs : SSg M a) (hR : RS M a T nm S) (hg : go S = i :: t) (h0 : gd S i = 1) (hi : i < 12) (hl : (go S).length ≤ 12) (k : ∀ M', RS M' a T nm (gwS (goS (gdS S (yu (gd S) i 2)) t) (gw S)) → Fi (FS a) M M' → Q none M') : qC (d + 2) 84 [.ref a, .int (nI i)] M Q := by
  have hR' := hR
  obtain ⟨⟨q0, q1, q2⟩, ⟨q3, q4, q5⟩, ⟨q7, q8⟩, q9, qa, qb⟩ := hR
  refine qC_of (by decide) (Nat.le_of_ble_eq_true rfl) ?_
  refine q_aload_n d84_0 rfl ?_
  refine q_iload_n d84_1 rfl ?_
  refine q_v1 d84_2 rfl rfl hs.1 (Nat.le_of_ble_eq_true rfl) (c85 hs (by omega) q3 (by rw [q7, hg]; rfl) (by rw [hg] at hl; exact hl) ?_)
  refine q_aload_n d84_5 rfl ?_
  refine q_dup d84_6 rfl ?_
  refine q_getv (c := 5) (f := 4) d84_7 ⟨rfl, by decide⟩ hs.1 (Eq.trans (by (repeat (first | rw [wi_n (Or.inl (by omega))] | rw [wi_n (Or.inr (by omega))] | rw [wi_s] | rw [wr_i] | rw [cp_n (by omega)]))) q4) ?_
  refine q_iconstN (z := 1) d84_10 ?_
  refine q_iload_n d84_11 rfl ?_
  refine n_ishl1 d84_12 (by omega) ?_
  refine n_ior d84_13 ?_
  refine q_puti (c := 5) (f := 4) d84_14 ⟨rfl, rfl, by decide⟩ hs.1 ?_
  refine q_ret d84_17 rfl ?_
  refine k _ (RS_undo hR' hg h0 (by omega) (Or.inl rfl) (gw S) (fun b j _ _ n1 n2 => ?_) rfl ?_ ?_ ?_ (fun j hj => ?_)) ((((Fi.refl _ _).wi FS_0).wi FS_0).wi FS_0)
  · rw [wi_n (by omega), wi_n (by omega), wi_n (by omega)]
  · (repeat (first | rw [wi_n (Or.inl (by omega))] | rw [wi_n (Or.inr (by omega))] | rw [wi_s]))
  · (repeat (first | rw [wi_n (Or.inl (by omega))] | rw [wi_n (Or.inr (by omega))] | rw [wi_s]))
  · (repeat (first | rw [wi_n (Or.inl (by omega))] | rw [wi_n (Or.inr (by omega))] | rw [wi_s]))
  · (repeat (first | rw [wi_n (Or.inl (by omega))] | rw [wi_n (Or.inr (by omega))] | rw [wi_s])); exact (qb j hj).2.2.2
theorem d86_0 : decode (zB 86) 0 = .ok (.iload_n 1, 1) := by decide +kernel
theorem d86_1 : decode (zB 86) 1 = .ok (.ifCond .lt 9, 3) := by decide +kernel
theorem d86_4 : decode (zB 86) 4 = .ok (.iload_n 1, 1) := by decide +kernel
theorem d86_5 : decode (zB 86) 5 = .ok (.bipush 12, 2) := by decide +kernel
theorem d86_7 : decode (zB 86) 7 = .ok (.if_icmp .lt 4, 3) := by decide +kernel
theorem d86_10 : decode (zB 86) 10 = .ok (.return_, 1) := by decide +kernel
theorem d86_11 : decode (zB 86) 11 = .ok (.aload_n 0, 1) := by decide +kernel
theorem d86_12 : decode (zB 86) 12 = .ok (.iload_n 1, 1) := by decide +kernel
theorem d86_13 : decode (zB 86) 13 = .ok (.invokevirtual 99, 3) := by decide +kernel
theorem d86_16 : decode (zB 86) 16 = .ok (.aload_n 0, 1) := by decide +kernel
theorem d86_17 : decode (zB 86) 17 = .ok (.dup, 1) := by decide +kernel
theorem d86_18 : decode (zB 86) 18 = .ok (.getfield 50, 3) := by decide +kernel
theorem d86_21 : decode (zB 86) 21 = .ok (.iconst 1, 1) := by decide +kernel
theorem d86_22 : decode (zB 86) 22 = .ok (.iload_n 1, 1) := by decide +kernel
theorem d86_23 : decode (zB 86) 23 = .ok (.ishl, 1) := by decide +kernel
theorem d86_24 : decode (zB 86) 24 = .ok (.ior, 1) := by decide +kernel
theorem d86_25 : decode (zB 86) 25 = .ok (.putfield 50, 3) := by decide +kernel
theorem d86_28 : decode (zB 86) 28 = .ok (.aload_n 0, 1) := by decide +kernel
theorem d86_29 : decode (zB 86) 29 = .ok (.getfield 37, 3) := by decide +kernel
theorem d86_32 : decode (zB 86) 32 = .ok (.iload_n 1, 1) := by decide +kernel
theorem d86_33 : decode (zB 86) 33 = .ok (.iload_n 2, 1) := by decide +kernel
theorem d86_34 : decode (zB 86) 34 = .ok (.iastore, 1) := by decide +kernel
theorem d86_35 : decode (zB 86) 35 = .ok (.return_, 1) := by decide +kernel
theorem c86 {d : Nat} {M : zM} {Q : Option Value → zM → Prop} {a : Nat} {T : Nat → yT} {nm : Nat → Int32} {S : yS} {i : Nat} {t : List Nat} {r : Int32} (hs : SSg M a) (hR : RS M a T nm S) (hg : go S = i :: t) (h0 : gd S i = 1) (hi : i < 12) (hl : (go S).length ≤ 12) (k : ∀ M', RS M' a T nm (gwS (goS (gdS S (yu (gd S) i 3)) t) (yu (gw S) i r)) → Fi (FS a) M M' → Q none M') : qC (d + 2) 86 [.ref a, .int (nI i), .int r] M Q := by
  have hR' := hR
  obtain ⟨⟨q0, q1, q2⟩, ⟨q3, q4, q5⟩, ⟨q7, q8⟩, q9, qa, qb⟩ := hR
  refine qC_of (by decide) (Nat.le_of_ble_eq_true rfl) ?_
  refine q_iload_n d86_0 rfl ?_
  refine n0_lt 10 d86_1 (by decide) (by omega) (fun q => absurd q (Nat.not_lt_zero _)) (fun _ => ?_)
  refine q_iload_n d86_4 rfl ?_
  refine q_bipush (x := nI 12) d86_5 rfl ?_
  refine nc_lt 11 d86_7 (by decide) (by omega) (by omega) (fun h7 => ?_) (fun h7 => (False.elim (by omega)))
  refine q_aload_n d86_11 rfl ?_
  refine q_iload_n d86_12 rfl ?_
  refine q_v1 d86_13 rfl rfl hs.1 (Nat.le_of_ble_eq_true rfl) (c85 hs (by omega) q3 (by rw [q7, hg]; rfl) (by rw [hg] at hl; exact hl) ?_)
  refine q_aload_n d86_16 rfl ?_
  refine q_dup d86_17 rfl ?_
  refine q_getv (c := 5) (f := 5) d86_18 ⟨rfl, by decide⟩ hs.1 (Eq.trans (by (repeat (first | rw [wi_n (Or.inl (by omega))] | rw [wi_n (Or.inr (by omega))] | rw [wi_s] | rw [wr_i] | rw [cp_n (by omega)]))) q5) ?_
  refine q_iconstN (z := 1) d86_21 ?_
  refine q_iload_n d86_22 rfl ?_
  refine n_ishl1 d86_23 (by omega) ?_
  refine n_ior d86_24 ?_
  refine q_puti (c := 5) (f := 5) d86_25 ⟨rfl, rfl, by decide⟩ hs.1 ?_
  refine q_aload_n d86_28 rfl ?_
  refine q_getr (c := 5) (f := 13) d86_29 ⟨rfl, rfl⟩ hs.1 (hs.2.2.1 5 (by decide)) ?_
  refine q_iload_n d86_32 rfl ?_
  refine q_iload_n d86_33 rfl ?_
  refine n_iast d86_34 (hs.2.2.2 6 (by decide)) (by omega) (by decide) ?_
  refine q_ret d86_35 rfl ?_
  refine k _ (RS_undo hR' hg h0 (by omega) (Or.inr rfl) (yu (gw S) i r) (fun b j _ _ n1 n2 => ?_) rfl ?_ ?_ ?_ (fun j hj => ?_)) (((((Fi.refl _ _).wi FS_0).wi FS_0).wi FS_0).wi (FS_x (by omega) (by omega)))
  · rw [wi_n (by omega), wi_n (by omega), wi_n (by omega), wi_n (by omega)]
  · (repeat (first | rw [wi_n (Or.inl (by omega))] | rw [wi_n (Or.inr (by omega))] | rw [wi_s]))
  · (repeat (first | rw [wi_n (Or.inl (by omega))] | rw [wi_n (Or.inr (by omega))] | rw [wi_s]))
  · (repeat (first | rw [wi_n (Or.inl (by omega))] | rw [wi_n (Or.inr (by omega))] | rw [wi_s]))
  · by_cases e : j = i
    · subst e; rw [wi_s, yu_s]
    · rw [yu_n e]; (repeat (first | rw [wi_n (Or.inl (by omega))] | rw [wi_n (Or.inr (by omega))] | rw [wi_s])); exact (qb j hj).2.2.2
end
section
/-! ===== contracts: sagas, the rest ===== -/
theorem wr_i {M : zM} {a k b j : Nat} {v : Option Nat} : zi (zwr M a k v) b j = zi M b j := rfl
theorem wi_r {M : zM} {a k b j : Nat} {v : Int32} : zr (zwi M a k v) b j = zr M b j := rfl
theorem cp_r {M : zM} {a0 s a d n b j : Nat} : zr (zcp M a0 s a d n) b j = zr M b j := rfl
theorem wr_n {M : zM} {a k b j : Nat} {v : Option Nat} (h : b ≠ a ∨ j ≠ k) : zr (zwr M a k v) b j = zr M b j := by rw [wr_eq, if_neg (by omega)]
theorem wr_s {M : zM} {a k : Nat} {v : Option Nat} : zr (zwr M a k v) a k = v := by rw [wr_eq, if_pos ⟨rfl, rfl⟩]
theorem cp_n {M : zM} {a0 s a d n b j : Nat} (h : b ≠ a ∨ j < d ∨ d + n ≤ j) : zi (zcp M a0 s a d n) b j = zi M b j := by rw [cp_eq, if_neg (by omega)]
theorem cp_0 {M : zM} {a0 a n j : Nat} (h : j < n) : zi (zcp M a0 0 a 0 n) a j = zi M a0 j := by rw [cp_eq, if_pos ⟨rfl, by omega, by omega⟩, show 0 + (j - 0) = j by omega]
theorem cp_r2 {M : zM} {a0 s a d n : Nat} (h : SC M) (ha : 3 ≤ a) : SC (zcp M a0 s a d n) := SC_cp h ha
theorem Fr.wi' {S : Nat → Nat → Prop} {M M' : zM} {a k : Nat} {v : Int32} (h : Fr S M M') (hs : S a k) : Fr S M (zwi M' a k v) := h.wi hs
theorem zSa.z {a : Nat} (h : zSa a) : zpr a 2 := by unfold zSa at h; unfold zpr; omega
theorem zSa.l {a : Nat} (h : zSa a) : 70 ≤ a ∧ a < 119 := by unfold zSa at h; omega
theorem d76_0 : decode (zB 76) 0 = .ok (.iload_n 1, 1) := by decide +kernel
theorem d76_1 : decode (zB 76) 1 = .ok (.ifCond .lt 9, 3) := by decide +kernel
theorem d76_4 : decode (zB 76) 4 = .ok (.iload_n 1, 1) := by decide +kernel
theorem d76_5 : decode (zB 76) 5 = .ok (.bipush 12, 2) := by decide +kernel
theorem d76_7 : decode (zB 76) 7 = .ok (.if_icmp .lt 4, 3) := by decide +kernel
theorem d76_10 : decode (zB 76) 10 = .ok (.return_, 1) := by decide +kernel
theorem d76_11 : decode (zB 76) 11 = .ok (.aload_n 0, 1) := by decide +kernel
theorem d76_12 : decode (zB 76) 12 = .ok (.getfield 34, 3) := by decide +kernel
theorem d76_15 : decode (zB 76) 15 = .ok (.iload_n 1, 1) := by decide +kernel
theorem d76_16 : decode (zB 76) 16 = .ok (.dup2, 1) := by decide +kernel
theorem d76_17 : decode (zB 76) 17 = .ok (.iaload, 1) := by decide +kernel
theorem d76_18 : decode (zB 76) 18 = .ok (.iconst 1, 1) := by decide +kernel
theorem d76_19 : decode (zB 76) 19 = .ok (.iadd, 1) := by decide +kernel
theorem d76_20 : decode (zB 76) 20 = .ok (.iastore, 1) := by decide +kernel
theorem d76_21 : decode (zB 76) 21 = .ok (.aload_n 0, 1) := by decide +kernel
theorem d76_22 : decode (zB 76) 22 = .ok (.getfield 37, 3) := by decide +kernel
theorem d76_25 : decode (zB 76) 25 = .ok (.iload_n 1, 1) := by decide +kernel
theorem d76_26 : decode (zB 76) 26 = .ok (.iload_n 2, 1) := by decide +kernel
theorem d76_27 : decode (zB 76) 27 = .ok (.iastore, 1) := by decide +kernel
theorem d76_28 : decode (zB 76) 28 = .ok (.aload_n 0, 1) := by decide +kernel
theorem d76_29 : decode (zB 76) 29 = .ok (.getfield 40, 3) := by decide +kernel
theorem d76_32 : decode (zB 76) 32 = .ok (.ifnull 17, 3) := by decide +kernel
theorem d76_35 : decode (zB 76) 35 = .ok (.aload_n 0, 1) := by decide +kernel
theorem d76_36 : decode (zB 76) 36 = .ok (.getfield 40, 3) := by decide +kernel
theorem d76_39 : decode (zB 76) 39 = .ok (.aload_n 0, 1) := by decide +kernel
theorem d76_40 : decode (zB 76) 40 = .ok (.getfield 44, 3) := by decide +kernel
theorem d76_43 : decode (zB 76) 43 = .ok (.invokevirtual 92, 3) := by decide +kernel
theorem d76_46 : decode (zB 76) 46 = .ok (.ifCond .ne 8, 3) := by decide +kernel
theorem d76_49 : decode (zB 76) 49 = .ok (.aload_n 0, 1) := by decide +kernel
theorem d76_50 : decode (zB 76) 50 = .ok (.iconst 2, 1) := by decide +kernel
theorem d76_51 : decode (zB 76) 51 = .ok (.putfield 9, 3) := by decide +kernel
theorem d76_54 : decode (zB 76) 54 = .ok (.return_, 1) := by decide +kernel
theorem c76 {d : Nat} {M : zM} {Q : Option Value → zM → Prop} {a : Nat} {T : Nat → yT} {nm : Nat → Int32} {S : yS} {i : Nat} {r : Int32} (hs : SSg M a) (hR : RS M a T nm S) (hi : i < 12) (hg : ¬ gt S = 0) (hp : SPr M (20 + 7 * gx S)) (hr : RP M (20 + 7 * gx S) (T (gx S))) (hag : 20 + 7 * gx S + 6 ≤ a) (k : ∀ M', RS M' a T nm (yfS S i r (ypa (T (gx S)) (gm S 1))) → Fi (FS a) M M' → Q none M') : qC (d + 2) 76 [.ref a, .int (nI i), .int r] M Q := by
  obtain ⟨⟨q0, q1, q2⟩, ⟨q3, q4, q5⟩, ⟨q7, q8⟩, q9, qa, qb⟩ := hR
  refine qC_of (by decide) (Nat.le_of_ble_eq_true rfl) ?_
  refine q_iload_n d76_0 rfl ?_
  refine n0_lt 10 d76_1 (by decide) (by omega) (fun q => absurd q (Nat.not_lt_zero _)) (fun _ => ?_)
  refine q_iload_n d76_4 rfl ?_
  refine q_bipush (x := nI 12) d76_5 rfl ?_
  refine nc_lt 11 d76_7 (by decide) (by omega) (by omega) (fun h7 => ?_) (fun h7 => (False.elim (by omega)))
  refine q_aload_n d76_11 rfl ?_
  refine q_getr (c := 5) (f := 12) d76_12 ⟨rfl, rfl⟩ hs.1 (hs.2.2.1 4 (by decide)) ?_
  refine q_iload_n d76_15 rfl ?_
  refine q_dup2 d76_16 rfl rfl ?_
  refine n_iald d76_17 (hs.2.2.2 5 (by decide)) (by omega) (by decide) (qb _ (by omega)).2.2.1 ?_
  refine q_iconst (x := (1)) d76_18 rfl ?_
  refine q_iadd d76_19 ?_
  refine n_iast d76_20 (hs.2.2.2 5 (by decide)) (by omega) (by decide) ?_
  refine q_aload_n d76_21 rfl ?_
  refine q_getr (c := 5) (f := 13) d76_22 ⟨rfl, rfl⟩ hs.1 (hs.2.2.1 5 (by decide)) ?_
  refine q_iload_n d76_25 rfl ?_
  refine q_iload_n d76_26 rfl ?_
  refine n_iast d76_27 (hs.2.2.2 6 (by decide)) (by omega) (by decide) ?_
  refine q_aload_n d76_28 rfl ?_
  refine q_getr (c := 5) (f := 2) d76_29 ⟨rfl, rfl⟩ hs.1 (q2.trans (if_neg hg)) ?_
  refine q_ifnull (r := some _) 49 d76_32 (by decide) (fun q => absurd q (Option.some_ne_none _)) (fun _ => ?_)
  refine q_aload_n d76_35 rfl ?_
  refine q_getr (c := 5) (f := 2) d76_36 ⟨rfl, rfl⟩ hs.1 (q2.trans (if_neg hg)) ?_
  refine q_aload_n d76_39 rfl ?_
  refine q_getv (c := 5) (f := 3) d76_40 ⟨rfl, by decide⟩ hs.1 (Eq.trans (by (repeat (first | rw [wi_n (Or.inl (by omega))] | rw [wi_n (Or.inr (by omega))] | rw [wi_s] | rw [wr_i] | rw [cp_n (by omega)]))) q3) ?_
  refine q_v1 d76_43 rfl rfl hp.1 (Nat.le_of_ble_eq_true rfl) (c77 hp (RP_fr hr ((((Fi.refl (FS a) M).wi (FS_x (by omega) (by omega))).wi (FS_x (by omega) (by omega))).fr) (fun b j h1 h2 q => by have := q.1; omega)) ?_)
  refine b0_ne 54 d76_46 (by decide) (fun h46 => ?_) (fun h46 => ?_)
  · refine q_ret d76_54 rfl ?_
    first
    | (
      refine k _ ?_ (((Fi.refl _ _).wi (FS_x (by omega) (by omega))).wi (FS_x (by omega) (by omega)))
      unfold yfS
      rw [h46]
      refine ⟨⟨?_, ?_, ?_⟩, ⟨?_, ?_, ?_⟩, ⟨?_, fun j hj => ?_⟩, fun j hj => ?_, fun j hj he => ?_, fun j hj => ⟨?_, ?_, ?_, ?_⟩⟩
      · (repeat (first | rw [wi_n (Or.inl (by omega))] | rw [wi_n (Or.inr (by omega))] | rw [wi_s] | rw [wr_i] | rw [cp_n (by omega)] | rw [cp_0 (by omega)])); exact q0
      · (repeat (first | rw [wi_n (Or.inl (by omega))] | rw [wi_n (Or.inr (by omega))] | rw [wi_s] | rw [wr_i] | rw [cp_n (by omega)] | rw [cp_0 (by omega)])); exact q1
      · (repeat (first | rw [wi_r])); exact q2
      · (repeat (first | rw [wi_n (Or.inl (by omega))] | rw [wi_n (Or.inr (by omega))] | rw [wi_s] | rw [wr_i] | rw [cp_n (by omega)] | rw [cp_0 (by omega)])); exact q3
      · (repeat (first | rw [wi_n (Or.inl (by omega))] | rw [wi_n (Or.inr (by omega))] | rw [wi_s] | rw [wr_i] | rw [cp_n (by omega)] | rw [cp_0 (by omega)])); exact q4
      · (repeat (first | rw [wi_n (Or.inl (by omega))] | rw [wi_n (Or.inr (by omega))] | rw [wi_s] | rw [wr_i] | rw [cp_n (by omega)] | rw [cp_0 (by omega)])); exact q5
      · (repeat (first | rw [wi_n (Or.inl (by omega))] | rw [wi_n (Or.inr (by omega))] | rw [wi_s] | rw [wr_i] | rw [cp_n (by omega)] | rw [cp_0 (by omega)])); exact q7
      · (repeat (first | rw [wi_n (Or.inl (by omega))] | rw [wi_n (Or.inr (by omega))] | rw [wi_s] | rw [wr_i] | rw [cp_n (by omega)] | rw [cp_0 (by omega)])); exact q8 j hj
      · (repeat (first | rw [wi_n (Or.inl (by omega))] | rw [wi_n (Or.inr (by omega))] | rw [wi_s] | rw [wr_i] | rw [cp_n (by omega)] | rw [cp_0 (by omega)])); exact q9 j (by exact hj)
      · (repeat (first | rw [wi_n (Or.inl (by omega))] | rw [wi_n (Or.inr (by omega))] | rw [wi_s] | rw [wr_i] | rw [cp_n (by omega)] | rw [cp_0 (by omega)])); exact qa j hj he
      · (repeat (first | rw [wi_n (Or.inl (by omega))] | rw [wi_n (Or.inr (by omega))] | rw [wi_s] | rw [wr_i] | rw [cp_n (by omega)] | rw [cp_0 (by omega)])); exact (qb j hj).1
      · (repeat (first | rw [wi_n (Or.inl (by omega))] | rw [wi_n (Or.inr (by omega))] | rw [wi_s] | rw [wr_i] | rw [cp_n (by omega)] | rw [cp_0 (by omega)])); exact (qb j hj).2.1
      · show _ = yu (gf S) i (gf S i + 1) j
        by_cases e : j = i
        · subst e; rw [yu_s]; (repeat (first | rw [wi_n (Or.inl (by omega))] | rw [wi_n (Or.inr (by omega))] | rw [wi_s] | rw [wr_i] | rw [cp_n (by omega)] | rw [cp_0 (by omega)])); try rfl
        · rw [yu_n e]; (repeat (first | rw [wi_n (Or.inl (by omega))] | rw [wi_n (Or.inr (by omega))] | rw [wi_s] | rw [wr_i] | rw [cp_n (by omega)] | rw [cp_0 (by omega)])); exact (qb j hj).2.2.1
      · show _ = yu (gw S) i r j
        by_cases e : j = i
        · subst e; rw [yu_s]; (repeat (first | rw [wi_n (Or.inl (by omega))] | rw [wi_n (Or.inr (by omega))] | rw [wi_s] | rw [wr_i] | rw [cp_n (by omega)] | rw [cp_0 (by omega)])); try rfl
        · rw [yu_n e]; (repeat (first | rw [wi_n (Or.inl (by omega))] | rw [wi_n (Or.inr (by omega))] | rw [wi_s] | rw [wr_i] | rw [cp_n (by omega)] | rw [cp_0 (by omega)])); exact (qb j hj).2.2.2)
    | (
      refine k _ ?_ ((((Fi.refl _ _).wi (FS_x (by omega) (by omega))).wi (FS_x (by omega) (by omega))).wi FS_0)
      unfold yfS
      rw [h46]
      refine ⟨⟨?_, ?_, ?_⟩, ⟨?_, ?_, ?_⟩, ⟨?_, fun j hj => ?_⟩, fun j hj => ?_, fun j hj he => ?_, fun j hj => ⟨?_, ?_, ?_, ?_⟩⟩
      · exact (show _ = nI 2 by (repeat (first | rw [wi_n (Or.inl (by omega))] | rw [wi_n (Or.inr (by omega))] | rw [wi_s] | rw [wr_i] | rw [cp_n (by omega)] | rw [cp_0 (by omega)])))
      · (repeat (first | rw [wi_n (Or.inl (by omega))] | rw [wi_n (Or.inr (by omega))] | rw [wi_s] | rw [wr_i] | rw [cp_n (by omega)] | rw [cp_0 (by omega)])); exact (q1.trans (by show txt S = txt (2, S.2); unfold txt; rw [if_neg hg, if_neg (by exact (by decide : ¬ (2 : Nat) = 0))]; rfl))
      · (repeat (first | rw [wi_r])); exact (q2.trans (by show prg S = prg (2, S.2); unfold prg; rw [if_neg hg, if_neg (by exact (by decide : ¬ (2 : Nat) = 0))]; rfl))
      · (repeat (first | rw [wi_n (Or.inl (by omega))] | rw [wi_n (Or.inr (by omega))] | rw [wi_s] | rw [wr_i] | rw [cp_n (by omega)] | rw [cp_0 (by omega)])); exact q3
      · (repeat (first | rw [wi_n (Or.inl (by omega))] | rw [wi_n (Or.inr (by omega))] | rw [wi_s] | rw [wr_i] | rw [cp_n (by omega)] | rw [cp_0 (by omega)])); exact q4
      · (repeat (first | rw [wi_n (Or.inl (by omega))] | rw [wi_n (Or.inr (by omega))] | rw [wi_s] | rw [wr_i] | rw [cp_n (by omega)] | rw [cp_0 (by omega)])); exact q5
      · (repeat (first | rw [wi_n (Or.inl (by omega))] | rw [wi_n (Or.inr (by omega))] | rw [wi_s] | rw [wr_i] | rw [cp_n (by omega)] | rw [cp_0 (by omega)])); exact q7
      · (repeat (first | rw [wi_n (Or.inl (by omega))] | rw [wi_n (Or.inr (by omega))] | rw [wi_s] | rw [wr_i] | rw [cp_n (by omega)] | rw [cp_0 (by omega)])); exact q8 j hj
      · (repeat (first | rw [wi_n (Or.inl (by omega))] | rw [wi_n (Or.inr (by omega))] | rw [wi_s] | rw [wr_i] | rw [cp_n (by omega)] | rw [cp_0 (by omega)])); exact q9 j (by unfold gz; rw [if_neg hg]; unfold gz at hj; rw [if_neg (by exact (by decide : ¬ (2 : Nat) = 0))] at hj; exact hj)
      · (repeat (first | rw [wi_n (Or.inl (by omega))] | rw [wi_n (Or.inr (by omega))] | rw [wi_s] | rw [wr_i] | rw [cp_n (by omega)] | rw [cp_0 (by omega)])); exact qa j hj he
      · (repeat (first | rw [wi_n (Or.inl (by omega))] | rw [wi_n (Or.inr (by omega))] | rw [wi_s] | rw [wr_i] | rw [cp_n (by omega)] | rw [cp_0 (by omega)])); exact (qb j hj).1
      · (repeat (first | rw [wi_n (Or.inl (by omega))] | rw [wi_n (Or.inr (by omega))] | rw [wi_s] | rw [wr_i] | rw [cp_n (by omega)] | rw [cp_0 (by omega)])); exact (qb j hj).2.1
      · show _ = yu (gf S) i (gf S i + 1) j
        by_cases e : j = i
        · subst e; rw [yu_s]; (repeat (first | rw [wi_n (Or.inl (by omega))] | rw [wi_n (Or.inr (by omega))] | rw [wi_s] | rw [wr_i] | rw [cp_n (by omega)] | rw [cp_0 (by omega)])); try rfl
        · rw [yu_n e]; (repeat (first | rw [wi_n (Or.inl (by omega))] | rw [wi_n (Or.inr (by omega))] | rw [wi_s] | rw [wr_i] | rw [cp_n (by omega)] | rw [cp_0 (by omega)])); exact (qb j hj).2.2.1
      · show _ = yu (gw S) i r j
        by_cases e : j = i
        · subst e; rw [yu_s]; (repeat (first | rw [wi_n (Or.inl (by omega))] | rw [wi_n (Or.inr (by omega))] | rw [wi_s] | rw [wr_i] | rw [cp_n (by omega)] | rw [cp_0 (by omega)])); try rfl
        · rw [yu_n e]; (repeat (first | rw [wi_n (Or.inl (by omega))] | rw [wi_n (Or.inr (by omega))] | rw [wi_s] | rw [wr_i] | rw [cp_n (by omega)] | rw [cp_0 (by omega)])); exact (qb j hj).2.2.2)
  · refine q_aload_n d76_49 rfl ?_
    refine q_iconstN (z := 2) d76_50 ?_
    refine q_puti (c := 5) (f := 0) d76_51 ⟨rfl, rfl, by decide⟩ hs.1 ?_
    refine q_ret d76_54 rfl ?_
    first
    | (
      refine k _ ?_ (((Fi.refl _ _).wi (FS_x (by omega) (by omega))).wi (FS_x (by omega) (by omega)))
      unfold yfS
      rw [h46]
      refine ⟨⟨?_, ?_, ?_⟩, ⟨?_, ?_, ?_⟩, ⟨?_, fun j hj => ?_⟩, fun j hj => ?_, fun j hj he => ?_, fun j hj => ⟨?_, ?_, ?_, ?_⟩⟩
      · (repeat (first | rw [wi_n (Or.inl (by omega))] | rw [wi_n (Or.inr (by omega))] | rw [wi_s] | rw [wr_i] | rw [cp_n (by omega)] | rw [cp_0 (by omega)])); exact q0
      · (repeat (first | rw [wi_n (Or.inl (by omega))] | rw [wi_n (Or.inr (by omega))] | rw [wi_s] | rw [wr_i] | rw [cp_n (by omega)] | rw [cp_0 (by omega)])); exact q1
      · (repeat (first | rw [wi_r])); exact q2
      · (repeat (first | rw [wi_n (Or.inl (by omega))] | rw [wi_n (Or.inr (by omega))] | rw [wi_s] | rw [wr_i] | rw [cp_n (by omega)] | rw [cp_0 (by omega)])); exact q3
      · (repeat (first | rw [wi_n (Or.inl (by omega))] | rw [wi_n (Or.inr (by omega))] | rw [wi_s] | rw [wr_i] | rw [cp_n (by omega)] | rw [cp_0 (by omega)])); exact q4
      · (repeat (first | rw [wi_n (Or.inl (by omega))] | rw [wi_n (Or.inr (by omega))] | rw [wi_s] | rw [wr_i] | rw [cp_n (by omega)] | rw [cp_0 (by omega)])); exact q5
      · (repeat (first | rw [wi_n (Or.inl (by omega))] | rw [wi_n (Or.inr (by omega))] | rw [wi_s] | rw [wr_i] | rw [cp_n (by omega)] | rw [cp_0 (by omega)])); exact q7
      · (repeat (first | rw [wi_n (Or.inl (by omega))] | rw [wi_n (Or.inr (by omega))] | rw [wi_s] | rw [wr_i] | rw [cp_n (by omega)] | rw [cp_0 (by omega)])); exact q8 j hj
      · (repeat (first | rw [wi_n (Or.inl (by omega))] | rw [wi_n (Or.inr (by omega))] | rw [wi_s] | rw [wr_i] | rw [cp_n (by omega)] | rw [cp_0 (by omega)])); exact q9 j (by exact hj)
      · (repeat (first | rw [wi_n (Or.inl (by omega))] | rw [wi_n (Or.inr (by omega))] | rw [wi_s] | rw [wr_i] | rw [cp_n (by omega)] | rw [cp_0 (by omega)])); exact qa j hj he
      · (repeat (first | rw [wi_n (Or.inl (by omega))] | rw [wi_n (Or.inr (by omega))] | rw [wi_s] | rw [wr_i] | rw [cp_n (by omega)] | rw [cp_0 (by omega)])); exact (qb j hj).1
      · (repeat (first | rw [wi_n (Or.inl (by omega))] | rw [wi_n (Or.inr (by omega))] | rw [wi_s] | rw [wr_i] | rw [cp_n (by omega)] | rw [cp_0 (by omega)])); exact (qb j hj).2.1
      · show _ = yu (gf S) i (gf S i + 1) j
        by_cases e : j = i
        · subst e; rw [yu_s]; (repeat (first | rw [wi_n (Or.inl (by omega))] | rw [wi_n (Or.inr (by omega))] | rw [wi_s] | rw [wr_i] | rw [cp_n (by omega)] | rw [cp_0 (by omega)])); try rfl
        · rw [yu_n e]; (repeat (first | rw [wi_n (Or.inl (by omega))] | rw [wi_n (Or.inr (by omega))] | rw [wi_s] | rw [wr_i] | rw [cp_n (by omega)] | rw [cp_0 (by omega)])); exact (qb j hj).2.2.1
      · show _ = yu (gw S) i r j
        by_cases e : j = i
        · subst e; rw [yu_s]; (repeat (first | rw [wi_n (Or.inl (by omega))] | rw [wi_n (Or.inr (by omega))] | rw [wi_s] | rw [wr_i] | rw [cp_n (by omega)] | rw [cp_0 (by omega)])); try rfl
        · rw [yu_n e]; (repeat (first | rw [wi_n (Or.inl (by omega))] | rw [wi_n (Or.inr (by omega))] | rw [wi_s] | rw [wr_i] | rw [cp_n (by omega)] | rw [cp_0 (by omega)])); exact (qb j hj).2.2.2)
    | (
      refine k _ ?_ ((((Fi.refl _ _).wi (FS_x (by omega) (by omega))).wi (FS_x (by omega) (by omega))).wi FS_0)
      unfold yfS
      rw [h46]
      refine ⟨⟨?_, ?_, ?_⟩, ⟨?_, ?_, ?_⟩, ⟨?_, fun j hj => ?_⟩, fun j hj => ?_, fun j hj he => ?_, fun j hj => ⟨?_, ?_, ?_, ?_⟩⟩
      · exact (show _ = nI 2 by (repeat (first | rw [wi_n (Or.inl (by omega))] | rw [wi_n (Or.inr (by omega))] | rw [wi_s] | rw [wr_i] | rw [cp_n (by omega)] | rw [cp_0 (by omega)])))
      · (repeat (first | rw [wi_n (Or.inl (by omega))] | rw [wi_n (Or.inr (by omega))] | rw [wi_s] | rw [wr_i] | rw [cp_n (by omega)] | rw [cp_0 (by omega)])); exact (q1.trans (by show txt S = txt (2, S.2); unfold txt; rw [if_neg hg, if_neg (by exact (by decide : ¬ (2 : Nat) = 0))]; rfl))
      · (repeat (first | rw [wi_r])); exact (q2.trans (by show prg S = prg (2, S.2); unfold prg; rw [if_neg hg, if_neg (by exact (by decide : ¬ (2 : Nat) = 0))]; rfl))
      · (repeat (first | rw [wi_n (Or.inl (by omega))] | rw [wi_n (Or.inr (by omega))] | rw [wi_s] | rw [wr_i] | rw [cp_n (by omega)] | rw [cp_0 (by omega)])); exact q3
      · (repeat (first | rw [wi_n (Or.inl (by omega))] | rw [wi_n (Or.inr (by omega))] | rw [wi_s] | rw [wr_i] | rw [cp_n (by omega)] | rw [cp_0 (by omega)])); exact q4
      · (repeat (first | rw [wi_n (Or.inl (by omega))] | rw [wi_n (Or.inr (by omega))] | rw [wi_s] | rw [wr_i] | rw [cp_n (by omega)] | rw [cp_0 (by omega)])); exact q5
      · (repeat (first | rw [wi_n (Or.inl (by omega))] | rw [wi_n (Or.inr (by omega))] | rw [wi_s] | rw [wr_i] | rw [cp_n (by omega)] | rw [cp_0 (by omega)])); exact q7
      · (repeat (first | rw [wi_n (Or.inl (by omega))] | rw [wi_n (Or.inr (by omega))] | rw [wi_s] | rw [wr_i] | rw [cp_n (by omega)] | rw [cp_0 (by omega)])); exact q8 j hj
      · (repeat (first | rw [wi_n (Or.inl (by omega))] | rw [wi_n (Or.inr (by omega))] | rw [wi_s] | rw [wr_i] | rw [cp_n (by omega)] | rw [cp_0 (by omega)])); exact q9 j (by unfold gz; rw [if_neg hg]; unfold gz at hj; rw [if_neg (by exact (by decide : ¬ (2 : Nat) = 0))] at hj; exact hj)
      · (repeat (first | rw [wi_n (Or.inl (by omega))] | rw [wi_n (Or.inr (by omega))] | rw [wi_s] | rw [wr_i] | rw [cp_n (by omega)] | rw [cp_0 (by omega)])); exact qa j hj he
      · (repeat (first | rw [wi_n (Or.inl (by omega))] | rw [wi_n (Or.inr (by omega))] | rw [wi_s] | rw [wr_i] | rw [cp_n (by omega)] | rw [cp_0 (by omega)])); exact (qb j hj).1
      · (repeat (first | rw [wi_n (Or.inl (by omega))] | rw [wi_n (Or.inr (by omega))] | rw [wi_s] | rw [wr_i] | rw [cp_n (by omega)] | rw [cp_0 (by omega)])); exact (qb j hj).2.1
      · show _ = yu (gf S) i (gf S i + 1) j
        by_cases e : j = i
        · subst e; rw [yu_s]; (repeat (first | rw [wi_n (Or.inl (by omega))] | rw [wi_n (Or.inr (by omega))] | rw [wi_s] | rw [wr_i] | rw [cp_n (by omega)] | rw [cp_0 (by omega)])); try rfl
        · rw [yu_n e]; (repeat (first | rw [wi_n (Or.inl (by omega))] | rw [wi_n (Or.inr (by omega))] | rw [wi_s] | rw [wr_i] | rw [cp_n (by omega)] | rw [cp_0 (by omega)])); exact (qb j hj).2.2.1
      · show _ = yu (gw S) i r j
        by_cases e : j = i
        · subst e; rw [yu_s]; (repeat (first | rw [wi_n (Or.inl (by omega))] | rw [wi_n (Or.inr (by omega))] | rw [wi_s] | rw [wr_i] | rw [cp_n (by omega)] | rw [cp_0 (by omega)])); try rfl
        · rw [yu_n e]; (repeat (first | rw [wi_n (Or.inl (by omega))] | rw [wi_n (Or.inr (by omega))] | rw [wi_s] | rw [wr_i] | rw [cp_n (by omega)] | rw [cp_0 (by omega)])); exact (qb j hj).2.2.2)
theorem d64_0 : decode (zB 64) 0 = .ok (.aload_n 0, 1) := by decide +kernel
theorem d64_1 : decode (zB 64) 1 = .ok (.getfield 28, 3) := by decide +kernel
theorem d64_4 : decode (zB 64) 4 = .ok (.iconst 0, 1) := by decide +kernel
theorem d64_5 : decode (zB 64) 5 = .ok (.invokestatic 56, 3) := by decide +kernel
theorem d64_8 : decode (zB 64) 8 = .ok (.aload_n 0, 1) := by decide +kernel
theorem d64_9 : decode (zB 64) 9 = .ok (.getfield 31, 3) := by decide +kernel
theorem d64_12 : decode (zB 64) 12 = .ok (.iconst 0, 1) := by decide +kernel
theorem d64_13 : decode (zB 64) 13 = .ok (.invokestatic 56, 3) := by decide +kernel
theorem d64_16 : decode (zB 64) 16 = .ok (.return_, 1) := by decide +kernel
theorem c64 {d : Nat} {M : zM} {Q : Option Value → zM → Prop} {a : Nat} (hs : SSg M a) (k : ∀ M', (∀ j, j < 12 → zi M' (a + 4) j = nI 0 ∧ zi M' (a + 5) j = nI 0) → Fi (fun b _ => b = a + 4 ∨ b = a + 5) M M' → Q none M') : qC (d + 2) 64 [.ref a] M Q := by
  refine qC_of (by decide) (Nat.le_of_ble_eq_true rfl) ?_
  refine q_aload_n d64_0 rfl ?_
  refine q_getr (c := 5) (f := 10) d64_1 ⟨rfl, rfl⟩ hs.1 (hs.2.2.1 2 (by decide)) ?_
  refine q_iconstN (z := 0) d64_4 ?_
  refine q_s2 d64_5 (Or.inl rfl) rfl (Nat.le_of_ble_eq_true rfl) (c6 (hs.2.2.2 3 (by decide)) (by decide) (fun M1 v1 f1 => ?_))
  have hs1 := SSg_fi hs f1
  refine q_aload_n d64_8 rfl ?_
  refine q_getr (c := 5) (f := 11) d64_9 ⟨rfl, rfl⟩ hs1.1 (hs1.2.2.1 3 (by decide)) ?_
  refine q_iconstN (z := 0) d64_12 ?_
  refine q_s2 d64_13 (Or.inl rfl) rfl (Nat.le_of_ble_eq_true rfl) (c6 (hs1.2.2.2 4 (by decide)) (by decide) (fun M2 v2 f2 => ?_))
  refine q_ret d64_16 rfl ?_
  exact k _ (fun j hj => ⟨(f2.1 _ _ (by omega)).trans (v1 j hj), v2 j hj⟩) ((f1.mono (fun b _ q => by omega)).trans (f2.mono (fun b _ q => by omega)))
theorem d63_0 : decode (zB 63) 0 = .ok (.aload_n 0, 1) := by decide +kernel
theorem d63_1 : decode (zB 63) 1 = .ok (.iconst 0, 1) := by decide +kernel
theorem d63_2 : decode (zB 63) 2 = .ok (.putfield 9, 3) := by decide +kernel
theorem d63_5 : decode (zB 63) 5 = .ok (.aload_n 0, 1) := by decide +kernel
theorem d63_6 : decode (zB 63) 6 = .ok (.iconst (-1), 1) := by decide +kernel
theorem d63_7 : decode (zB 63) 7 = .ok (.putfield 15, 3) := by decide +kernel
theorem d63_10 : decode (zB 63) 10 = .ok (.aload_n 0, 1) := by decide +kernel
theorem d63_11 : decode (zB 63) 11 = .ok (.aconst_null, 1) := by decide +kernel
theorem d63_12 : decode (zB 63) 12 = .ok (.putfield 40, 3) := by decide +kernel
theorem d63_15 : decode (zB 63) 15 = .ok (.aload_n 0, 1) := by decide +kernel
theorem d63_16 : decode (zB 63) 16 = .ok (.iconst 0, 1) := by decide +kernel
theorem d63_17 : decode (zB 63) 17 = .ok (.putfield 44, 3) := by decide +kernel
theorem d63_20 : decode (zB 63) 20 = .ok (.aload_n 0, 1) := by decide +kernel
theorem d63_21 : decode (zB 63) 21 = .ok (.iconst 0, 1) := by decide +kernel
theorem d63_22 : decode (zB 63) 22 = .ok (.putfield 47, 3) := by decide +kernel
theorem d63_25 : decode (zB 63) 25 = .ok (.aload_n 0, 1) := by decide +kernel
theorem d63_26 : decode (zB 63) 26 = .ok (.iconst 0, 1) := by decide +kernel
theorem d63_27 : decode (zB 63) 27 = .ok (.putfield 50, 3) := by decide +kernel
theorem d63_30 : decode (zB 63) 30 = .ok (.aload_n 0, 1) := by decide +kernel
theorem d63_31 : decode (zB 63) 31 = .ok (.iconst 0, 1) := by decide +kernel
theorem d63_32 : decode (zB 63) 32 = .ok (.putfield 53, 3) := by decide +kernel
theorem d63_35 : decode (zB 63) 35 = .ok (.aload_n 0, 1) := by decide +kernel
theorem d63_36 : decode (zB 63) 36 = .ok (.getfield 34, 3) := by decide +kernel
theorem d63_39 : decode (zB 63) 39 = .ok (.iconst 0, 1) := by decide +kernel
theorem d63_40 : decode (zB 63) 40 = .ok (.invokestatic 56, 3) := by decide +kernel
theorem d63_43 : decode (zB 63) 43 = .ok (.aload_n 0, 1) := by decide +kernel
theorem d63_44 : decode (zB 63) 44 = .ok (.getfield 37, 3) := by decide +kernel
theorem d63_47 : decode (zB 63) 47 = .ok (.iconst 0, 1) := by decide +kernel
theorem d63_48 : decode (zB 63) 48 = .ok (.invokestatic 56, 3) := by decide +kernel
theorem d63_51 : decode (zB 63) 51 = .ok (.aload_n 0, 1) := by decide +kernel
theorem d63_52 : decode (zB 63) 52 = .ok (.invokevirtual 62, 3) := by decide +kernel
theorem d63_55 : decode (zB 63) 55 = .ok (.return_, 1) := by decide +kernel
theorem c63 {d : Nat} {M : zM} {Q : Option Value → zM → Prop} {a : Nat} {T : Nat → yT} {nm : Nat → Int32} (hS : SC M) (ha : zSa a) (k : ∀ M', RS M' a T nm yS0 → Fr (FS a) M M' → SC M' → Q none M') : qC (d + 3) 63 [.ref a] M Q := by
  have hs := hS.sg ha
  have hal := ha.l
  refine qC_of (by decide) (Nat.le_of_ble_eq_true rfl) ?_
  refine q_aload_n d63_0 rfl ?_
  refine q_iconstN (z := 0) d63_1 ?_
  refine q_puti (c := 5) (f := 0) d63_2 ⟨rfl, rfl, by decide⟩ hs.1 ?_
  refine q_aload_n d63_5 rfl ?_
  refine q_iconst (x := (-1)) d63_6 rfl ?_
  refine q_puti (c := 5) (f := 1) d63_7 ⟨rfl, rfl, by decide⟩ hs.1 ?_
  refine q_aload_n d63_10 rfl ?_
  refine q_null d63_11 ?_
  refine q_putr (r := none) (c := 5) (f := 2) d63_12 ⟨rfl, rfl, by decide⟩ hs.1 ?_
  refine q_aload_n d63_15 rfl ?_
  refine q_iconstN (z := 0) d63_16 ?_
  refine q_puti (c := 5) (f := 3) d63_17 ⟨rfl, rfl, by decide⟩ hs.1 ?_
  refine q_aload_n d63_20 rfl ?_
  refine q_iconstN (z := 0) d63_21 ?_
  refine q_puti (c := 5) (f := 4) d63_22 ⟨rfl, rfl, by decide⟩ hs.1 ?_
  refine q_aload_n d63_25 rfl ?_
  refine q_iconstN (z := 0) d63_26 ?_
  refine q_puti (c := 5) (f := 5) d63_27 ⟨rfl, rfl, by decide⟩ hs.1 ?_
  refine q_aload_n d63_30 rfl ?_
  refine q_iconstN (z := 0) d63_31 ?_
  refine q_puti (c := 5) (f := 7) d63_32 ⟨rfl, rfl, by decide⟩ hs.1 ?_
  obtain ⟨M1, hM1⟩ : ∃ M1, M1 = zwi (zwi (zwi (zwi (zwr (zwi (zwi M a 0 (nI 0)) a 1 (-1)) a 2 none) a 3 (nI 0)) a 4 (nI 0)) a 5 (nI 0)) a 7 (nI 0) := ⟨_, rfl⟩
  rw [← hM1]
  have hs1 : SSg M1 a := by subst hM1; exact SSg_wr (M := zwi (zwi M a 0 (nI 0)) a 1 (-1)) hs
  have e0 : zi M1 a 0 = nI 0 := by subst hM1; (repeat (first | rw [wi_n (Or.inl (by omega))] | rw [wi_n (Or.inr (by omega))] | rw [wi_s] | rw [wr_i] | rw [cp_n (by omega)] | rw [cp_0 (by omega)]))
  have e1 : zi M1 a 1 = -1 := by subst hM1; (repeat (first | rw [wi_n (Or.inl (by omega))] | rw [wi_n (Or.inr (by omega))] | rw [wi_s] | rw [wr_i] | rw [cp_n (by omega)] | rw [cp_0 (by omega)]))
  have e2 : zr M1 a 2 = none := by subst hM1; exact wr_s
  have e3 : zi M1 a 3 = nI 0 := by subst hM1; (repeat (first | rw [wi_n (Or.inl (by omega))] | rw [wi_n (Or.inr (by omega))] | rw [wi_s] | rw [wr_i] | rw [cp_n (by omega)] | rw [cp_0 (by omega)]))
  have e4 : zi M1 a 4 = nI 0 := by subst hM1; (repeat (first | rw [wi_n (Or.inl (by omega))] | rw [wi_n (Or.inr (by omega))] | rw [wi_s] | rw [wr_i] | rw [cp_n (by omega)] | rw [cp_0 (by omega)]))
  have e5 : zi M1 a 5 = nI 0 := by subst hM1; (repeat (first | rw [wi_n (Or.inl (by omega))] | rw [wi_n (Or.inr (by omega))] | rw [wi_s] | rw [wr_i] | rw [cp_n (by omega)] | rw [cp_0 (by omega)]))
  have e7 : zi M1 a 7 = nI 0 := by subst hM1; (repeat (first | rw [wi_n (Or.inl (by omega))] | rw [wi_n (Or.inr (by omega))] | rw [wi_s] | rw [wr_i] | rw [cp_n (by omega)] | rw [cp_0 (by omega)]))
  have fr1 : Fr (FS a) M M1 := by subst hM1; exact (((((((Fr.refl _ _).wi FS_0).wi FS_0).wr FS_0).wi FS_0).wi FS_0).wi FS_0).wi FS_0
  have sc1 : SC M1 := by subst hM1; exact SC_wi (SC_wi (SC_wi (SC_wi (SC_wr (SC_wi (SC_wi hS (by omega)) (by omega)) ha.z) (by omega)) (by omega)) (by omega)) (by omega)
  refine q_aload_n d63_35 rfl ?_
  refine q_getr (c := 5) (f := 12) d63_36 ⟨rfl, rfl⟩ hs1.1 (hs1.2.2.1 4 (by decide)) ?_
  refine q_iconstN (z := 0) d63_39 ?_
  refine q_s2 d63_40 (Or.inl rfl) rfl (Nat.le_of_ble_eq_true rfl) (c6 (hs1.2.2.2 5 (by decide)) (by decide) (fun M2 v2 f2 => ?_))
  have hs2 := SSg_fi hs1 f2
  refine q_aload_n d63_43 rfl ?_
  refine q_getr (c := 5) (f := 13) d63_44 ⟨rfl, rfl⟩ hs2.1 (hs2.2.2.1 5 (by decide)) ?_
  refine q_iconstN (z := 0) d63_47 ?_
  refine q_s2 d63_48 (Or.inl rfl) rfl (Nat.le_of_ble_eq_true rfl) (c6 (hs2.2.2.2 6 (by decide)) (by decide) (fun M3 v3 f3 => ?_))
  have hs3 := SSg_fi hs2 f3
  refine q_aload_n d63_51 rfl ?_
  refine q_v0 d63_52 rfl rfl hs3.1 (Nat.le_of_ble_eq_true rfl) (c64 hs3 (fun M4 v4 f4 => ?_))
  refine q_ret d63_55 rfl ?_
  have g : ∀ b j, b ≠ a + 4 → b ≠ a + 5 → b ≠ a + 6 → b ≠ a + 7 → zi M4 b j = zi M1 b j := fun b j n1 n2 n3 n4 => ((f4.1 b j (by omega)).trans (f3.1 b j (by omega))).trans (f2.1 b j (by omega))
  refine k _ ⟨⟨(g _ _ (by omega) (by omega) (by omega) (by omega)).trans e0, (g _ _ (by omega) (by omega) (by omega) (by omega)).trans e1, (((f4.r _ _).trans (f3.r _ _)).trans (f2.r _ _)).trans e2⟩, ⟨(g _ _ (by omega) (by omega) (by omega) (by omega)).trans e3, (g _ _ (by omega) (by omega) (by omega) (by omega)).trans e4, (g _ _ (by omega) (by omega) (by omega) (by omega)).trans e5⟩, ⟨(g _ _ (by omega) (by omega) (by omega) (by omega)).trans e7, fun j hj => absurd hj (Nat.not_lt_zero _)⟩, fun j hj => absurd hj (Nat.not_lt_zero _), fun j hj he => absurd he (show ¬ (0 : Nat) = 1 by decide), fun j hj => ⟨(v4 j hj).1, (v4 j hj).2, ?_, ?_⟩⟩ ?_ ?_
  · rw [f4.1 _ _ (by omega), f3.1 _ _ (by omega)]; exact v2 j hj
  · rw [f4.1 _ _ (by omega)]; exact v3 j hj
  · exact fr1.trans (((f2.mono (fun b _ q => ⟨by omega, by omega⟩)).trans (f3.mono (fun b _ q => ⟨by omega, by omega⟩))).trans (f4.mono (fun b _ q => ⟨by omega, by omega⟩))).fr
  · exact f4.sc (f3.sc (f2.sc sc1 (fun b j hb q => by omega)) (fun b j hb q => by omega)) (fun b j hb q => by omega)
theorem d62_0 : decode (zB 62) 0 = .ok (.aload_n 1, 1) := by decide +kernel
theorem d62_1 : decode (zB 62) 1 = .ok (.ifnonnull 4, 3) := by decide +kernel
theorem d62_4 : decode (zB 62) 4 = .ok (.return_, 1) := by decide +kernel
theorem d62_5 : decode (zB 62) 5 = .ok (.aload_n 0, 1) := by decide +kernel
theorem d62_6 : decode (zB 62) 6 = .ok (.invokevirtual 65, 3) := by decide +kernel
theorem d62_9 : decode (zB 62) 9 = .ok (.aload_n 0, 1) := by decide +kernel
theorem d62_10 : decode (zB 62) 10 = .ok (.iconst 1, 1) := by decide +kernel
theorem d62_11 : decode (zB 62) 11 = .ok (.putfield 9, 3) := by decide +kernel
theorem d62_14 : decode (zB 62) 14 = .ok (.aload_n 0, 1) := by decide +kernel
theorem d62_15 : decode (zB 62) 15 = .ok (.iload_n 2, 1) := by decide +kernel
theorem d62_16 : decode (zB 62) 16 = .ok (.putfield 15, 3) := by decide +kernel
theorem d62_19 : decode (zB 62) 19 = .ok (.aload_n 0, 1) := by decide +kernel
theorem d62_20 : decode (zB 62) 20 = .ok (.aload_n 1, 1) := by decide +kernel
theorem d62_21 : decode (zB 62) 21 = .ok (.putfield 40, 3) := by decide +kernel
theorem d62_24 : decode (zB 62) 24 = .ok (.aload_n 1, 1) := by decide +kernel
theorem d62_25 : decode (zB 62) 25 = .ok (.getfield 68, 3) := by decide +kernel
theorem d62_28 : decode (zB 62) 28 = .ok (.iconst 0, 1) := by decide +kernel
theorem d62_29 : decode (zB 62) 29 = .ok (.aload_n 0, 1) := by decide +kernel
theorem d62_30 : decode (zB 62) 30 = .ok (.getfield 22, 3) := by decide +kernel
theorem d62_33 : decode (zB 62) 33 = .ok (.iconst 0, 1) := by decide +kernel
theorem d62_34 : decode (zB 62) 34 = .ok (.bipush 12, 2) := by decide +kernel
theorem d62_36 : decode (zB 62) 36 = .ok (.invokestatic 71, 3) := by decide +kernel
theorem d62_39 : decode (zB 62) 39 = .ok (.return_, 1) := by decide +kernel
theorem c62 {d : Nat} {M : zM} {Q : Option Value → zM → Prop} {a t : Nat} {T : Nat → yT} {nm : Nat → Int32} (hS : SC M) (ha : zSa a) (ht : t < 6) (hr : RP M (20 + 7 * t) (T t)) (hn : tn (T t) ≤ 12) (hm : ∀ j, j < tn (T t) → nm j = tu (T t) j) (k : ∀ M', RS M' a T nm (ySt t) → Fr (FS a) M M' → SC M' → Q none M') : qC (d + 4) 62 [.ref a, .ref (20 + 7 * t), .int (nI t)] M Q := by
  have hs := hS.sg ha
  have hal := ha.l
  have hp := hS.pr ht
  refine qC_of (by decide) (Nat.le_of_ble_eq_true rfl) ?_
  refine q_aload_n d62_0 rfl ?_
  refine q_ifnonnull (r := some _) 5 d62_1 (by decide) (fun _ => ?_) (fun q => absurd q (Option.some_ne_none _))
  refine q_aload_n d62_5 rfl ?_
  refine q_v0 d62_6 rfl rfl hs.1 (Nat.le_of_ble_eq_true rfl) (c63 (T := T) (nm := nm) hS ha (fun M1 hR f1 hS1 => ?_))
  have hs1 := hS1.sg ha
  have hp1 := hS1.pr ht
  have hr1 := RP_fr hr f1 (fun b j h1 h2 q => by have := q.1; omega)
  obtain ⟨⟨q0, q1, q2⟩, ⟨q3, q4, q5⟩, ⟨q7, q8⟩, q9, qa, qb⟩ := hR
  refine q_aload_n d62_9 rfl ?_
  refine q_iconstN (z := 1) d62_10 ?_
  refine q_puti (c := 5) (f := 0) d62_11 ⟨rfl, rfl, by decide⟩ hs1.1 ?_
  refine q_aload_n d62_14 rfl ?_
  refine q_iload_n d62_15 rfl ?_
  refine q_puti (c := 5) (f := 1) d62_16 ⟨rfl, rfl, by decide⟩ hs1.1 ?_
  refine q_aload_n d62_19 rfl ?_
  refine q_aload_n d62_20 rfl ?_
  refine q_putr (r := some ((20 + 7 * t))) (c := 5) (f := 2) d62_21 ⟨rfl, rfl, by decide⟩ hs1.1 ?_
  refine q_aload_n d62_24 rfl ?_
  refine q_getr (c := 1) (f := 3) d62_25 ⟨rfl, rfl⟩ hp1.1 (Eq.trans (by (repeat (first | rw [wi_r] | rw [cp_r] | rw [wr_n (by omega)]))) (hp1.2 3 (by decide)).1) ?_
  refine q_iconstN (z := 0) d62_28 ?_
  refine q_aload_n d62_29 rfl ?_
  refine q_getr (c := 5) (f := 8) d62_30 ⟨rfl, rfl⟩ hs1.1 (Eq.trans (by (repeat (first | rw [wi_r] | rw [cp_r] | rw [wr_n (by omega)]))) (hs1.2.2.1 0 (by decide))) ?_
  refine q_iconstN (z := 0) d62_33 ?_
  refine q_bipush (x := nI 12) d62_34 rfl ?_
  refine n_copy d62_36 rfl (hp1.2 3 (by decide)).2 (hs1.2.2.2 1 (by decide)) (by decide) (by decide) (by omega) (by omega) (Nat.le_of_ble_eq_true rfl) ?_
  refine q_ret d62_39 rfl ?_
  refine k _ ⟨⟨?_, ?_, ?_⟩, ⟨?_, ?_, ?_⟩, ⟨?_, fun j hj => absurd hj (Nat.not_lt_zero _)⟩, fun j hj => ?_, fun j hj he => absurd he (show ¬ (0 : Nat) = 1 by decide), fun j hj => ⟨?_, ?_, ?_, ?_⟩⟩ (f1.trans ((((Fr.refl _ _).wi FS_0).wi FS_0).wr FS_0 |>.cp (fun j _ _ => FS_x (by omega) (by omega)))) (SC_cp (SC_wr (SC_wi (SC_wi hS1 (by omega)) (by omega)) ha.z) (by omega))
  · (repeat (first | rw [wi_n (Or.inl (by omega))] | rw [wi_n (Or.inr (by omega))] | rw [wi_s] | rw [wr_i] | rw [cp_n (by omega)] | rw [cp_0 (by omega)])); try rfl
  · (repeat (first | rw [wi_n (Or.inl (by omega))] | rw [wi_n (Or.inr (by omega))] | rw [wi_s] | rw [wr_i] | rw [cp_n (by omega)] | rw [cp_0 (by omega)])); try rfl
  · (repeat (first | rw [cp_r])); exact wr_s
  · (repeat (first | rw [wi_n (Or.inl (by omega))] | rw [wi_n (Or.inr (by omega))] | rw [wi_s] | rw [wr_i] | rw [cp_n (by omega)] | rw [cp_0 (by omega)])); exact q3
  · (repeat (first | rw [wi_n (Or.inl (by omega))] | rw [wi_n (Or.inr (by omega))] | rw [wi_s] | rw [wr_i] | rw [cp_n (by omega)] | rw [cp_0 (by omega)])); exact q4
  · (repeat (first | rw [wi_n (Or.inl (by omega))] | rw [wi_n (Or.inr (by omega))] | rw [wi_s] | rw [wr_i] | rw [cp_n (by omega)] | rw [cp_0 (by omega)])); exact q5
  · (repeat (first | rw [wi_n (Or.inl (by omega))] | rw [wi_n (Or.inr (by omega))] | rw [wi_s] | rw [wr_i] | rw [cp_n (by omega)] | rw [cp_0 (by omega)])); exact q7
  · have hj : j < tn (T t) := hj
    rw [hm j hj]; (repeat (first | rw [wi_n (Or.inl (by omega))] | rw [wi_n (Or.inr (by omega))] | rw [wi_s] | rw [wr_i] | rw [cp_n (by omega)] | rw [cp_0 (by omega)])); exact (hr1.2.2 j hj).2.2.2.1
  · (repeat (first | rw [wi_n (Or.inl (by omega))] | rw [wi_n (Or.inr (by omega))] | rw [wi_s] | rw [wr_i] | rw [cp_n (by omega)] | rw [cp_0 (by omega)])); exact (qb j hj).1
  · (repeat (first | rw [wi_n (Or.inl (by omega))] | rw [wi_n (Or.inr (by omega))] | rw [wi_s] | rw [wr_i] | rw [cp_n (by omega)] | rw [cp_0 (by omega)])); exact (qb j hj).2.1
  · (repeat (first | rw [wi_n (Or.inl (by omega))] | rw [wi_n (Or.inr (by omega))] | rw [wi_s] | rw [wr_i] | rw [cp_n (by omega)] | rw [cp_0 (by omega)])); exact (qb j hj).2.2.1
  · (repeat (first | rw [wi_n (Or.inl (by omega))] | rw [wi_n (Or.inr (by omega))] | rw [wi_s] | rw [wr_i] | rw [cp_n (by omega)] | rw [cp_0 (by omega)])); exact (qb j hj).2.2.2
theorem d102_0 : decode (zB 102) 0 = .ok (.aload_n 0, 1) := by decide +kernel
theorem d102_1 : decode (zB 102) 1 = .ok (.aload_n 1, 1) := by decide +kernel
theorem d102_2 : decode (zB 102) 2 = .ok (.getfield 9, 3) := by decide +kernel
theorem d102_5 : decode (zB 102) 5 = .ok (.putfield 9, 3) := by decide +kernel
theorem d102_8 : decode (zB 102) 8 = .ok (.aload_n 0, 1) := by decide +kernel
theorem d102_9 : decode (zB 102) 9 = .ok (.aload_n 1, 1) := by decide +kernel
theorem d102_10 : decode (zB 102) 10 = .ok (.getfield 15, 3) := by decide +kernel
theorem d102_13 : decode (zB 102) 13 = .ok (.putfield 15, 3) := by decide +kernel
theorem d102_16 : decode (zB 102) 16 = .ok (.aload_n 0, 1) := by decide +kernel
theorem d102_17 : decode (zB 102) 17 = .ok (.aload_n 1, 1) := by decide +kernel
theorem d102_18 : decode (zB 102) 18 = .ok (.getfield 40, 3) := by decide +kernel
theorem d102_21 : decode (zB 102) 21 = .ok (.putfield 40, 3) := by decide +kernel
theorem d102_24 : decode (zB 102) 24 = .ok (.aload_n 0, 1) := by decide +kernel
theorem d102_25 : decode (zB 102) 25 = .ok (.aload_n 1, 1) := by decide +kernel
theorem d102_26 : decode (zB 102) 26 = .ok (.getfield 44, 3) := by decide +kernel
theorem d102_29 : decode (zB 102) 29 = .ok (.putfield 44, 3) := by decide +kernel
theorem d102_32 : decode (zB 102) 32 = .ok (.aload_n 0, 1) := by decide +kernel
theorem d102_33 : decode (zB 102) 33 = .ok (.aload_n 1, 1) := by decide +kernel
theorem d102_34 : decode (zB 102) 34 = .ok (.getfield 47, 3) := by decide +kernel
theorem d102_37 : decode (zB 102) 37 = .ok (.putfield 47, 3) := by decide +kernel
theorem d102_40 : decode (zB 102) 40 = .ok (.aload_n 0, 1) := by decide +kernel
theorem d102_41 : decode (zB 102) 41 = .ok (.aload_n 1, 1) := by decide +kernel
theorem d102_42 : decode (zB 102) 42 = .ok (.getfield 50, 3) := by decide +kernel
theorem d102_45 : decode (zB 102) 45 = .ok (.putfield 50, 3) := by decide +kernel
theorem d102_48 : decode (zB 102) 48 = .ok (.aload_n 0, 1) := by decide +kernel
theorem d102_49 : decode (zB 102) 49 = .ok (.aload_n 1, 1) := by decide +kernel
theorem d102_50 : decode (zB 102) 50 = .ok (.getfield 53, 3) := by decide +kernel
theorem d102_53 : decode (zB 102) 53 = .ok (.putfield 53, 3) := by decide +kernel
theorem d102_56 : decode (zB 102) 56 = .ok (.aload_n 1, 1) := by decide +kernel
theorem d102_57 : decode (zB 102) 57 = .ok (.getfield 18, 3) := by decide +kernel
theorem d102_60 : decode (zB 102) 60 = .ok (.iconst 0, 1) := by decide +kernel
theorem d102_61 : decode (zB 102) 61 = .ok (.aload_n 0, 1) := by decide +kernel
theorem d102_62 : decode (zB 102) 62 = .ok (.getfield 18, 3) := by decide +kernel
theorem d102_65 : decode (zB 102) 65 = .ok (.iconst 0, 1) := by decide +kernel
theorem d102_66 : decode (zB 102) 66 = .ok (.bipush 12, 2) := by decide +kernel
theorem d102_68 : decode (zB 102) 68 = .ok (.invokestatic 71, 3) := by decide +kernel
theorem d102_71 : decode (zB 102) 71 = .ok (.aload_n 1, 1) := by decide +kernel
theorem d102_72 : decode (zB 102) 72 = .ok (.getfield 22, 3) := by decide +kernel
theorem d102_75 : decode (zB 102) 75 = .ok (.iconst 0, 1) := by decide +kernel
theorem d102_76 : decode (zB 102) 76 = .ok (.aload_n 0, 1) := by decide +kernel
theorem d102_77 : decode (zB 102) 77 = .ok (.getfield 22, 3) := by decide +kernel
theorem d102_80 : decode (zB 102) 80 = .ok (.iconst 0, 1) := by decide +kernel
theorem d102_81 : decode (zB 102) 81 = .ok (.bipush 12, 2) := by decide +kernel
theorem d102_83 : decode (zB 102) 83 = .ok (.invokestatic 71, 3) := by decide +kernel
theorem d102_86 : decode (zB 102) 86 = .ok (.aload_n 1, 1) := by decide +kernel
theorem d102_87 : decode (zB 102) 87 = .ok (.getfield 25, 3) := by decide +kernel
theorem d102_90 : decode (zB 102) 90 = .ok (.iconst 0, 1) := by decide +kernel
theorem d102_91 : decode (zB 102) 91 = .ok (.aload_n 0, 1) := by decide +kernel
theorem d102_92 : decode (zB 102) 92 = .ok (.getfield 25, 3) := by decide +kernel
theorem d102_95 : decode (zB 102) 95 = .ok (.iconst 0, 1) := by decide +kernel
theorem d102_96 : decode (zB 102) 96 = .ok (.bipush 12, 2) := by decide +kernel
theorem d102_98 : decode (zB 102) 98 = .ok (.invokestatic 71, 3) := by decide +kernel
theorem d102_101 : decode (zB 102) 101 = .ok (.aload_n 1, 1) := by decide +kernel
theorem d102_102 : decode (zB 102) 102 = .ok (.getfield 28, 3) := by decide +kernel
theorem d102_105 : decode (zB 102) 105 = .ok (.iconst 0, 1) := by decide +kernel
theorem d102_106 : decode (zB 102) 106 = .ok (.aload_n 0, 1) := by decide +kernel
theorem d102_107 : decode (zB 102) 107 = .ok (.getfield 28, 3) := by decide +kernel
theorem d102_110 : decode (zB 102) 110 = .ok (.iconst 0, 1) := by decide +kernel
theorem d102_111 : decode (zB 102) 111 = .ok (.bipush 12, 2) := by decide +kernel
theorem d102_113 : decode (zB 102) 113 = .ok (.invokestatic 71, 3) := by decide +kernel
theorem d102_116 : decode (zB 102) 116 = .ok (.aload_n 1, 1) := by decide +kernel
theorem d102_117 : decode (zB 102) 117 = .ok (.getfield 31, 3) := by decide +kernel
theorem d102_120 : decode (zB 102) 120 = .ok (.iconst 0, 1) := by decide +kernel
theorem d102_121 : decode (zB 102) 121 = .ok (.aload_n 0, 1) := by decide +kernel
theorem d102_122 : decode (zB 102) 122 = .ok (.getfield 31, 3) := by decide +kernel
theorem d102_125 : decode (zB 102) 125 = .ok (.iconst 0, 1) := by decide +kernel
theorem d102_126 : decode (zB 102) 126 = .ok (.bipush 12, 2) := by decide +kernel
theorem d102_128 : decode (zB 102) 128 = .ok (.invokestatic 71, 3) := by decide +kernel
theorem d102_131 : decode (zB 102) 131 = .ok (.aload_n 1, 1) := by decide +kernel
theorem d102_132 : decode (zB 102) 132 = .ok (.getfield 34, 3) := by decide +kernel
theorem d102_135 : decode (zB 102) 135 = .ok (.iconst 0, 1) := by decide +kernel
theorem d102_136 : decode (zB 102) 136 = .ok (.aload_n 0, 1) := by decide +kernel
theorem d102_137 : decode (zB 102) 137 = .ok (.getfield 34, 3) := by decide +kernel
theorem d102_140 : decode (zB 102) 140 = .ok (.iconst 0, 1) := by decide +kernel
theorem d102_141 : decode (zB 102) 141 = .ok (.bipush 12, 2) := by decide +kernel
theorem d102_143 : decode (zB 102) 143 = .ok (.invokestatic 71, 3) := by decide +kernel
theorem d102_146 : decode (zB 102) 146 = .ok (.aload_n 1, 1) := by decide +kernel
theorem d102_147 : decode (zB 102) 147 = .ok (.getfield 37, 3) := by decide +kernel
theorem d102_150 : decode (zB 102) 150 = .ok (.iconst 0, 1) := by decide +kernel
theorem d102_151 : decode (zB 102) 151 = .ok (.aload_n 0, 1) := by decide +kernel
theorem d102_152 : decode (zB 102) 152 = .ok (.getfield 37, 3) := by decide +kernel
theorem d102_155 : decode (zB 102) 155 = .ok (.iconst 0, 1) := by decide +kernel
theorem d102_156 : decode (zB 102) 156 = .ok (.bipush 12, 2) := by decide +kernel
theorem d102_158 : decode (zB 102) 158 = .ok (.invokestatic 71, 3) := by decide +kernel
theorem d102_161 : decode (zB 102) 161 = .ok (.return_, 1) := by decide +kernel
theorem c102 {d : Nat} {M : zM} {Q : Option Value → zM → Prop} {a b : Nat} {T : Nat → yT} {nm : Nat → Int32} {S : yS} (hS : SC M) (ha : zSa a) (hb2 : zSa b) (hab : a + 8 ≤ b ∨ b + 8 ≤ a) (hR : RS M b T nm S) (hl : (go S).length ≤ 12) (hz : gz T S ≤ 12) (k : ∀ M', RS M' a T nm S → Fr (FS a) M M' → SC M' → Q none M') : qC (d + 1) 102 [.ref a, .ref b] M Q := by
  have hs := hS.sg ha
  have hb := hS.sg hb2
  have hal := ha.l
  obtain ⟨⟨q0, q1, q2⟩, ⟨q3, q4, q5⟩, ⟨q7, q8⟩, q9, qa, qb⟩ := hR
  refine qC_of (by decide) (Nat.le_of_ble_eq_true rfl) ?_
  refine q_aload_n d102_0 rfl ?_
  refine q_aload_n d102_1 rfl ?_
  refine q_getv (c := 5) (f := 0) d102_2 ⟨rfl, by decide⟩ hb.1 q0 ?_
  refine q_puti (c := 5) (f := 0) d102_5 ⟨rfl, rfl, by decide⟩ hs.1 ?_
  refine q_aload_n d102_8 rfl ?_
  refine q_aload_n d102_9 rfl ?_
  refine q_getv (c := 5) (f := 1) d102_10 ⟨rfl, by decide⟩ hb.1 (Eq.trans (by (repeat (first | rw [wi_n (Or.inl (by omega))] | rw [wi_n (Or.inr (by omega))] | rw [wi_s] | rw [wr_i] | rw [cp_n (by omega)]))) q1) ?_
  refine q_puti (c := 5) (f := 1) d102_13 ⟨rfl, rfl, by decide⟩ hs.1 ?_
  refine q_aload_n d102_16 rfl ?_
  refine q_aload_n d102_17 rfl ?_
  refine q_getr (c := 5) (f := 2) d102_18 ⟨rfl, rfl⟩ hb.1 q2 ?_
  refine q_putr (c := 5) (f := 2) d102_21 ⟨rfl, rfl, by decide⟩ hs.1 ?_
  refine q_aload_n d102_24 rfl ?_
  refine q_aload_n d102_25 rfl ?_
  refine q_getv (c := 5) (f := 3) d102_26 ⟨rfl, by decide⟩ hb.1 (Eq.trans (by (repeat (first | rw [wi_n (Or.inl (by omega))] | rw [wi_n (Or.inr (by omega))] | rw [wi_s] | rw [wr_i] | rw [cp_n (by omega)]))) q3) ?_
  refine q_puti (c := 5) (f := 3) d102_29 ⟨rfl, rfl, by decide⟩ hs.1 ?_
  refine q_aload_n d102_32 rfl ?_
  refine q_aload_n d102_33 rfl ?_
  refine q_getv (c := 5) (f := 4) d102_34 ⟨rfl, by decide⟩ hb.1 (Eq.trans (by (repeat (first | rw [wi_n (Or.inl (by omega))] | rw [wi_n (Or.inr (by omega))] | rw [wi_s] | rw [wr_i] | rw [cp_n (by omega)]))) q4) ?_
  refine q_puti (c := 5) (f := 4) d102_37 ⟨rfl, rfl, by decide⟩ hs.1 ?_
  refine q_aload_n d102_40 rfl ?_
  refine q_aload_n d102_41 rfl ?_
  refine q_getv (c := 5) (f := 5) d102_42 ⟨rfl, by decide⟩ hb.1 (Eq.trans (by (repeat (first | rw [wi_n (Or.inl (by omega))] | rw [wi_n (Or.inr (by omega))] | rw [wi_s] | rw [wr_i] | rw [cp_n (by omega)]))) q5) ?_
  refine q_puti (c := 5) (f := 5) d102_45 ⟨rfl, rfl, by decide⟩ hs.1 ?_
  refine q_aload_n d102_48 rfl ?_
  refine q_aload_n d102_49 rfl ?_
  refine q_getv (c := 5) (f := 7) d102_50 ⟨rfl, by decide⟩ hb.1 (Eq.trans (by (repeat (first | rw [wi_n (Or.inl (by omega))] | rw [wi_n (Or.inr (by omega))] | rw [wi_s] | rw [wr_i] | rw [cp_n (by omega)]))) q7) ?_
  refine q_puti (c := 5) (f := 7) d102_53 ⟨rfl, rfl, by decide⟩ hs.1 ?_
  refine q_aload_n d102_56 rfl ?_
  refine q_getr (c := 5) (f := 6) d102_57 ⟨rfl, rfl⟩ hb.1 (Eq.trans (by (repeat (first | rw [wi_r] | rw [cp_r] | rw [wr_n (by omega)]))) hb.2.1) ?_
  refine q_iconstN (z := 0) d102_60 ?_
  refine q_aload_n d102_61 rfl ?_
  refine q_getr (c := 5) (f := 6) d102_62 ⟨rfl, rfl⟩ hs.1 (Eq.trans (by (repeat (first | rw [wi_r] | rw [cp_r] | rw [wr_n (by omega)]))) hs.2.1) ?_
  refine q_iconstN (z := 0) d102_65 ?_
  refine q_bipush (x := nI 12) d102_66 rfl ?_
  refine n_copy d102_68 rfl (hb.2.2.2 0 (by decide)) (hs.2.2.2 0 (by decide)) (by decide) (by decide) (by omega) (by omega) (Nat.le_of_ble_eq_true rfl) ?_
  refine q_aload_n d102_71 rfl ?_
  refine q_getr (c := 5) (f := 8) d102_72 ⟨rfl, rfl⟩ hb.1 (Eq.trans (by (repeat (first | rw [wi_r] | rw [cp_r] | rw [wr_n (by omega)]))) (hb.2.2.1 0 (by decide))) ?_
  refine q_iconstN (z := 0) d102_75 ?_
  refine q_aload_n d102_76 rfl ?_
  refine q_getr (c := 5) (f := 8) d102_77 ⟨rfl, rfl⟩ hs.1 (Eq.trans (by (repeat (first | rw [wi_r] | rw [cp_r] | rw [wr_n (by omega)]))) (hs.2.2.1 0 (by decide))) ?_
  refine q_iconstN (z := 0) d102_80 ?_
  refine q_bipush (x := nI 12) d102_81 rfl ?_
  refine n_copy d102_83 rfl (hb.2.2.2 1 (by decide)) (hs.2.2.2 1 (by decide)) (by decide) (by decide) (by omega) (by omega) (Nat.le_of_ble_eq_true rfl) ?_
  refine q_aload_n d102_86 rfl ?_
  refine q_getr (c := 5) (f := 9) d102_87 ⟨rfl, rfl⟩ hb.1 (Eq.trans (by (repeat (first | rw [wi_r] | rw [cp_r] | rw [wr_n (by omega)]))) (hb.2.2.1 1 (by decide))) ?_
  refine q_iconstN (z := 0) d102_90 ?_
  refine q_aload_n d102_91 rfl ?_
  refine q_getr (c := 5) (f := 9) d102_92 ⟨rfl, rfl⟩ hs.1 (Eq.trans (by (repeat (first | rw [wi_r] | rw [cp_r] | rw [wr_n (by omega)]))) (hs.2.2.1 1 (by decide))) ?_
  refine q_iconstN (z := 0) d102_95 ?_
  refine q_bipush (x := nI 12) d102_96 rfl ?_
  refine n_copy d102_98 rfl (hb.2.2.2 2 (by decide)) (hs.2.2.2 2 (by decide)) (by decide) (by decide) (by omega) (by omega) (Nat.le_of_ble_eq_true rfl) ?_
  refine q_aload_n d102_101 rfl ?_
  refine q_getr (c := 5) (f := 10) d102_102 ⟨rfl, rfl⟩ hb.1 (Eq.trans (by (repeat (first | rw [wi_r] | rw [cp_r] | rw [wr_n (by omega)]))) (hb.2.2.1 2 (by decide))) ?_
  refine q_iconstN (z := 0) d102_105 ?_
  refine q_aload_n d102_106 rfl ?_
  refine q_getr (c := 5) (f := 10) d102_107 ⟨rfl, rfl⟩ hs.1 (Eq.trans (by (repeat (first | rw [wi_r] | rw [cp_r] | rw [wr_n (by omega)]))) (hs.2.2.1 2 (by decide))) ?_
  refine q_iconstN (z := 0) d102_110 ?_
  refine q_bipush (x := nI 12) d102_111 rfl ?_
  refine n_copy d102_113 rfl (hb.2.2.2 3 (by decide)) (hs.2.2.2 3 (by decide)) (by decide) (by decide) (by omega) (by omega) (Nat.le_of_ble_eq_true rfl) ?_
  refine q_aload_n d102_116 rfl ?_
  refine q_getr (c := 5) (f := 11) d102_117 ⟨rfl, rfl⟩ hb.1 (Eq.trans (by (repeat (first | rw [wi_r] | rw [cp_r] | rw [wr_n (by omega)]))) (hb.2.2.1 3 (by decide))) ?_
  refine q_iconstN (z := 0) d102_120 ?_
  refine q_aload_n d102_121 rfl ?_
  refine q_getr (c := 5) (f := 11) d102_122 ⟨rfl, rfl⟩ hs.1 (Eq.trans (by (repeat (first | rw [wi_r] | rw [cp_r] | rw [wr_n (by omega)]))) (hs.2.2.1 3 (by decide))) ?_
  refine q_iconstN (z := 0) d102_125 ?_
  refine q_bipush (x := nI 12) d102_126 rfl ?_
  refine n_copy d102_128 rfl (hb.2.2.2 4 (by decide)) (hs.2.2.2 4 (by decide)) (by decide) (by decide) (by omega) (by omega) (Nat.le_of_ble_eq_true rfl) ?_
  refine q_aload_n d102_131 rfl ?_
  refine q_getr (c := 5) (f := 12) d102_132 ⟨rfl, rfl⟩ hb.1 (Eq.trans (by (repeat (first | rw [wi_r] | rw [cp_r] | rw [wr_n (by omega)]))) (hb.2.2.1 4 (by decide))) ?_
  refine q_iconstN (z := 0) d102_135 ?_
  refine q_aload_n d102_136 rfl ?_
  refine q_getr (c := 5) (f := 12) d102_137 ⟨rfl, rfl⟩ hs.1 (Eq.trans (by (repeat (first | rw [wi_r] | rw [cp_r] | rw [wr_n (by omega)]))) (hs.2.2.1 4 (by decide))) ?_
  refine q_iconstN (z := 0) d102_140 ?_
  refine q_bipush (x := nI 12) d102_141 rfl ?_
  refine n_copy d102_143 rfl (hb.2.2.2 5 (by decide)) (hs.2.2.2 5 (by decide)) (by decide) (by decide) (by omega) (by omega) (Nat.le_of_ble_eq_true rfl) ?_
  refine q_aload_n d102_146 rfl ?_
  refine q_getr (c := 5) (f := 13) d102_147 ⟨rfl, rfl⟩ hb.1 (Eq.trans (by (repeat (first | rw [wi_r] | rw [cp_r] | rw [wr_n (by omega)]))) (hb.2.2.1 5 (by decide))) ?_
  refine q_iconstN (z := 0) d102_150 ?_
  refine q_aload_n d102_151 rfl ?_
  refine q_getr (c := 5) (f := 13) d102_152 ⟨rfl, rfl⟩ hs.1 (Eq.trans (by (repeat (first | rw [wi_r] | rw [cp_r] | rw [wr_n (by omega)]))) (hs.2.2.1 5 (by decide))) ?_
  refine q_iconstN (z := 0) d102_155 ?_
  refine q_bipush (x := nI 12) d102_156 rfl ?_
  refine n_copy d102_158 rfl (hb.2.2.2 6 (by decide)) (hs.2.2.2 6 (by decide)) (by decide) (by decide) (by omega) (by omega) (Nat.le_of_ble_eq_true rfl) ?_
  refine q_ret d102_161 rfl ?_
  refine k _ ⟨⟨?_, ?_, ?_⟩, ⟨?_, ?_, ?_⟩, ⟨?_, fun j hj => ?_⟩, fun j hj => ?_, fun j hj he => ?_, fun j hj => ⟨?_, ?_, ?_, ?_⟩⟩ (((((((((((((((Fr.refl _ _).wi FS_0).wi FS_0).wr FS_0).wi FS_0).wi FS_0).wi FS_0).wi FS_0).cp (fun j _ _ => FS_x (by omega) (by omega))).cp (fun j _ _ => FS_x (by omega) (by omega))).cp (fun j _ _ => FS_x (by omega) (by omega))).cp (fun j _ _ => FS_x (by omega) (by omega))).cp (fun j _ _ => FS_x (by omega) (by omega))).cp (fun j _ _ => FS_x (by omega) (by omega))).cp (fun j _ _ => FS_x (by omega) (by omega))) (SC_cp (SC_cp (SC_cp (SC_cp (SC_cp (SC_cp (SC_cp (SC_wi (SC_wi (SC_wi (SC_wi (SC_wr (SC_wi (SC_wi (hS) (by omega)) (by omega)) ha.z) (by omega)) (by omega)) (by omega)) (by omega)) (by omega)) (by omega)) (by omega)) (by omega)) (by omega)) (by omega)) (by omega))
  · (repeat (first | rw [wi_n (Or.inl (by omega))] | rw [wi_n (Or.inr (by omega))] | rw [wi_s] | rw [wr_i] | rw [cp_n (by omega)] | rw [cp_0 (by omega)]))
  · (repeat (first | rw [wi_n (Or.inl (by omega))] | rw [wi_n (Or.inr (by omega))] | rw [wi_s] | rw [wr_i] | rw [cp_n (by omega)] | rw [cp_0 (by omega)]))
  · (repeat (first | rw [cp_r] | rw [wi_r])); exact wr_s
  · (repeat (first | rw [wi_n (Or.inl (by omega))] | rw [wi_n (Or.inr (by omega))] | rw [wi_s] | rw [wr_i] | rw [cp_n (by omega)] | rw [cp_0 (by omega)]))
  · (repeat (first | rw [wi_n (Or.inl (by omega))] | rw [wi_n (Or.inr (by omega))] | rw [wi_s] | rw [wr_i] | rw [cp_n (by omega)] | rw [cp_0 (by omega)]))
  · (repeat (first | rw [wi_n (Or.inl (by omega))] | rw [wi_n (Or.inr (by omega))] | rw [wi_s] | rw [wr_i] | rw [cp_n (by omega)] | rw [cp_0 (by omega)]))
  · (repeat (first | rw [wi_n (Or.inl (by omega))] | rw [wi_n (Or.inr (by omega))] | rw [wi_s] | rw [wr_i] | rw [cp_n (by omega)] | rw [cp_0 (by omega)]))
  · (repeat (first | rw [wi_n (Or.inl (by omega))] | rw [wi_n (Or.inr (by omega))] | rw [wi_s] | rw [wr_i] | rw [cp_n (by omega)] | rw [cp_0 (by omega)])); exact q8 j hj
  · (repeat (first | rw [wi_n (Or.inl (by omega))] | rw [wi_n (Or.inr (by omega))] | rw [wi_s] | rw [wr_i] | rw [cp_n (by omega)] | rw [cp_0 (by omega)])); exact q9 j hj
  · (repeat (first | rw [wi_n (Or.inl (by omega))] | rw [wi_n (Or.inr (by omega))] | rw [wi_s] | rw [wr_i] | rw [cp_n (by omega)] | rw [cp_0 (by omega)])); exact qa j hj he
  · (repeat (first | rw [wi_n (Or.inl (by omega))] | rw [wi_n (Or.inr (by omega))] | rw [wi_s] | rw [wr_i] | rw [cp_n (by omega)] | rw [cp_0 (by omega)])); exact (qb j hj).1
  · (repeat (first | rw [wi_n (Or.inl (by omega))] | rw [wi_n (Or.inr (by omega))] | rw [wi_s] | rw [wr_i] | rw [cp_n (by omega)] | rw [cp_0 (by omega)])); exact (qb j hj).2.1
  · (repeat (first | rw [wi_n (Or.inl (by omega))] | rw [wi_n (Or.inr (by omega))] | rw [wi_s] | rw [wr_i] | rw [cp_n (by omega)] | rw [cp_0 (by omega)])); exact (qb j hj).2.2.1
  · (repeat (first | rw [wi_n (Or.inl (by omega))] | rw [wi_n (Or.inr (by omega))] | rw [wi_s] | rw [wr_i] | rw [cp_n (by omega)] | rw [cp_0 (by omega)])); exact (qb j hj).2.2.2
end
section
/-! ===== ticks keep what holds of sagas, purses and the log's length ===== -/
def yln (g : Option (List yL)) : Nat := match g with
  | none => 0
  | some l => l.length
theorem yln_lg (g : Option (List yL)) (x : yL) : yln (ylg g x) ≤ yln g + 1 := by
  cases g with
  | none => exact Nat.zero_le _
  | some l => show (l ++ [x]).length ≤ l.length + 1; rw [List.length_append]; exact Nat.le_refl _
theorem yck_0 {b : Int32} (h : yck b = 0) : 0 ≤ b ∧ b ≤ nI 9999 := by
  unfold yck at h
  by_cases h1 : 0 ≤ b
  · by_cases h2 : b ≤ nI 9999
    · exact ⟨h1, h2⟩
    · rw [if_pos h1, if_neg h2] at h; exact absurd h (by decide)
  · rw [if_neg h1] at h; exact absurd h (by decide)
theorem yck_i {b : Int32} (h : 0 ≤ b ∧ b ≤ nI 9999) : yck b = 0 := by unfold yck; rw [if_pos h.1, if_pos h.2]
theorem zix_m1 (n : Nat) : zix (-1) n = none := by
  unfold zix
  exact if_neg (fun h => absurd h.1 (by decide))
theorem ypu_n {P : yP} {m : Int32} : ypu P (-1) m = P := by unfold ypu; rw [zix_m1]
theorem ypu_a {P : yP} {a : Nat} {m : Int32} (h : a < 6) : ypu P (nI a) m = (yu P.1 a (P.1 a + m), P.2) := by unfold ypu; rw [zix_in h (by omega)]
theorem ybe_n {P : yP} {m : Int32} : ybe P (-1) m = 0 := by unfold ybe; rw [zix_m1]
theorem ybe_a {P : yP} {a : Nat} {m : Int32} (h : a < 6) : ybe P (nI a) m = yck (P.1 a + m) := by unfold ybe; rw [zix_in h (by omega)]
theorem yob_0 {T : yT} {P : yP} {i : Nat} {n w : Int32} (h : yob T P i n w = 0) : ybe P (tf T i) (w * yf1 (tk T i) n) = 0 ∧ ybe P (ts T i) (w * yf2 (tk T i) n) = 0 := by
  unfold yob at h
  by_cases h1 : ybe P (tf T i) (w * yf1 (tk T i) n) = 0
  · rw [if_neg (fun q => q h1)] at h; exact ⟨h1, h⟩
  · rw [if_pos h1] at h; exact absurd h h1
theorem m1_mul (n : Int32) : (-1 : Int32) * n = -n := by rw [Int32.neg_mul, Int32.one_mul]
theorem Int32_c1 (b w n : Int32) : b + w * -n + w * n = b := by rw [Int32.mul_neg, Int32.add_assoc, Int32.add_left_neg, Int32.add_zero]
theorem OKP_u {P : yP} {a : Nat} {v : Int32} (h : OKP P) (hv : 0 ≤ v ∧ v ≤ nI 9999) : OKP (yu P.1 a v, P.2) := by
  intro b hb
  show 0 ≤ yu P.1 a v b ∧ yu P.1 a v b ≤ nI 9999
  by_cases e : b = a
  · rw [e, yu_s]; exact hv
  · rw [yu_n e]; exact h b hb
theorem OKP_ex {P : yP} {a b : Nat} (hp : OKP P) (ha : a < 6) (hb : b < 6) : OKP (yex P (nI a) (nI b)) := by
  unfold yex
  rw [zix_in ha (by omega), zix_in hb (by omega)]
  exact OKP_u (P := (yu P.1 a (P.1 b), P.2)) (OKP_u hp (hp b hb)) (hp a ha)
theorem OKP_ch {T : yT} {P : yP} {i : Nat} {n w : Int32} (hT : OKT T) (hi : i < tn T) (h : OKP P) (h0 : yob T P i n w = 0) : OKP (ych T P i n w) := by
  obtain ⟨o1, o2⟩ := yob_0 h0
  obtain ⟨k6, -, a5, an5, s24, sn, -, -⟩ := hT.2.2.2 i hi
  unfold ych
  by_cases k5 : tk T i = 5
  · rw [if_neg (by omega), if_neg (by omega), a5 k5, sn (by omega) (by omega), ypu_n, ypu_n]
    split <;> exact h
  · obtain ⟨a, ha, ea⟩ := an5 k5
    rw [ea] at o1 ⊢
    rw [ybe_a ha] at o1
    by_cases k24 : tk T i = 2 ∨ tk T i = 4
    · obtain ⟨b, hb, eb⟩ := s24 k24
      rw [eb] at o2 ⊢
      rw [ybe_a hb] at o2
      have hp : OKP (ypu (ypu P (nI a) (w * yf1 (tk T i) n)) (nI b) (w * yf2 (tk T i) n)) := by
        rw [ypu_a ha, ypu_a hb]
        refine OKP_u (OKP_u h (yck_0 o1)) ?_
        show 0 ≤ yu P.1 a _ b + _ ∧ yu P.1 a _ b + _ ≤ nI 9999
        by_cases e : b = a
        · subst e
          rw [yu_s]
          have e2 : P.1 b + w * yf1 (tk T i) n + w * yf2 (tk T i) n = P.1 b := by
            rcases k24 with k | k
            · rw [k]; show P.1 b + w * -n + w * n = _; exact Int32_c1 _ _ _
            · rw [k]; show P.1 b + w * 0 + w * 0 = _; rw [Int32.mul_zero, Int32.add_zero, Int32.add_zero]
          rw [e2]; exact h b hb
        · rw [yu_n e]; exact yck_0 o2
      revert hp
      generalize ypu (ypu P (nI a) (w * yf1 (tk T i) n)) (nI b) (w * yf2 (tk T i) n) = P2
      intro hp
      rcases k24 with k | k
      · rw [if_neg (by omega), if_neg (by omega), if_neg (by omega)]; exact hp
      · rw [if_neg (by omega), if_pos k]
        exact OKP_ex hp ha hb
    · rw [sn (by omega) (by omega), ypu_n, ypu_a ha]
      have hp : OKP (yu P.1 a (P.1 a + w * yf1 (tk T i) n), P.2) := OKP_u h (yck_0 o1)
      by_cases k3 : tk T i = 3
      · rw [if_pos k3]; exact hp
      · rw [if_neg k3, if_neg (by omega), if_neg (by omega)]; exact hp
/-! sagas -/
theorem OKS_done {T : Nat → yT} {c : Nat} {S : yS} {i : Nat} {n : Int32} (h : OKS T c S) (hi : i < gz T S) (h0 : gd S i = 0) : OKS T c (yDn S i n) := by
  obtain ⟨a, b, d, e, f, g⟩ := h
  refine ⟨a, b, List.nodup_cons.mpr ⟨fun q => ?_, d⟩, fun k => ?_, fun k hk => ?_, fun k => ?_⟩
  · have := (e i).mp q; omega
  · show k ∈ i :: go S ↔ yu (gd S) i 1 k = 1
    rw [List.mem_cons, e k]
    by_cases q : k = i
    · subst q; rw [yu_s]; simp
    · rw [yu_n q]; simp [q]
  · have hk : gz T S ≤ k := hk
    show yu (gd S) i 1 k = 0
    rw [yu_n (by omega)]; exact f k hk
  · show yu (gd S) i 1 k ≤ 3
    by_cases q : k = i
    · subst q; rw [yu_s]; omega
    · rw [yu_n q]; exact g k
theorem OKS_undo {T : Nat → yT} {c : Nat} {S : yS} {i v : Nat} {t : List Nat} (h : OKS T c S) (hg : go S = i :: t) (hv : v = 2 ∨ v = 3) : OKS T c (goS (gdS S (yu (gd S) i v)) t) := by
  obtain ⟨a, b, d, e, f, g⟩ := h
  have hd := d
  rw [hg] at hd
  obtain ⟨n1, n2⟩ := List.nodup_cons.mp hd
  have hi : gd S i = 1 := (e i).mp (by rw [hg]; exact List.mem_cons_self)
  have hz : i < gz T S := Nat.lt_of_not_le (fun q => by have := f i q; omega)
  refine ⟨a, b, n2, fun k => ?_, fun k hk => ?_, fun k => ?_⟩
  · show k ∈ t ↔ yu (gd S) i v k = 1
    have h1 := e k
    rw [hg, List.mem_cons] at h1
    by_cases q : k = i
    · subst q; rw [yu_s]; constructor
      · intro q; exact absurd q n1
      · intro q; omega
    · rw [yu_n q, ← h1]; simp [q]
  · have hk : gz T S ≤ k := hk
    show yu (gd S) i v k = 0
    rw [yu_n (by omega)]; exact f k hk
  · show yu (gd S) i v k ≤ 3
    by_cases q : k = i
    · subst q; rw [yu_s]; omega
    · rw [yu_n q]; exact g k
theorem OKS_st {T : Nat → yT} {c v : Nat} {S : yS} (h : OKS T c S) (hg : gt S ≠ 0) (hv : v ≠ 0) (h5 : v ≤ 5) : OKS T c (gtS S v) := by
  obtain ⟨a, b, d, e, f, g⟩ := h
  refine ⟨h5, fun _ => b hg, d, e, fun k hk => ?_, g⟩
  have : gz T (gtS S v) = gz T S := by
    unfold gz; rw [if_neg hg]; show (if v = 0 then 0 else tn (T (gx S))) = _; rw [if_neg hv]
  rw [this] at hk; exact f k hk
theorem nodup_len : ∀ (n : Nat) (l : List Nat), l.Nodup → (∀ x ∈ l, x < n) → l.length ≤ n
  | 0, l, _, h => by
    cases l with
    | nil => exact Nat.le_refl _
    | cons a t => exact absurd (h a List.mem_cons_self) (Nat.not_lt_zero _)
  | n + 1, l, hd, h => by
    have h1 := nodup_len n (l.erase n) (hd.erase n) (fun x hx => by
      have h2 := hd.mem_erase_iff.mp hx
      have := h x h2.2
      omega)
    have h2 := List.length_erase (a := n) (l := l)
    split at h2 <;> omega
theorem OKS_len {T : Nat → yT} {c : Nat} {S : yS} (h : OKS T c S) (hz : gz T S ≤ 12) : (go S).length ≤ gz T S := by
  obtain ⟨a, b, d, e, f, g⟩ := h
  have hsub : ∀ i ∈ go S, i < gz T S := fun i hi => Nat.lt_of_not_le (fun q => by have := f i q; have := (e i).mp hi; omega)
  exact nodup_len _ _ d hsub
theorem OKS_pl {T : Nat → yT} {c : Nat} {S : yS} {p : Nat → Int32} (h : OKS T c S) : OKS T c (gpS S p) := h
theorem OKS_fS {T : Nat → yT} {c i : Nat} {S : yS} {r : Int32} {p : Bool} (h : OKS T c S) (hg : gt S ≠ 0) : OKS T c (yfS S i r p) := by
  unfold yfS
  split
  · exact h
  · exact OKS_st (S := gwS (gfS S (yu (gf S) i (gf S i + 1))) (yu (gw S) i r)) h hg (by omega) (by omega)
/-- the three ends of a try -/
theorem ytr_is (T : yT) (n : Int32) (s i : Nat) (X : yX) : ∃ S1, S1 = gpS (yxs X s) (ysd (gp (yxs X s)) i) ∧
    ((yob T X.1.1 i n 1 = 0 ∧ ypl (gp (yxs X s)) i = false ∧ ytr T n s i X = yno (yss (ysp X (ych T X.1.1 i n 1)) s (yDn S1 i n)) (1, s, i)) ∨
     (∃ r, r ≠ 0 ∧ ¬ (ypa T (gm (yxs X s) 1) = true ∧ ¬ gf (yxs X s) i + 1 < nI 3) ∧ ytr T n s i X = yno (yss X s (yfS S1 i r (ypa T (gm (yxs X s) 1)))) (2, s, i)) ∨
     (∃ r, r ≠ 0 ∧ (ypa T (gm (yxs X s) 1) = true ∧ ¬ gf (yxs X s) i + 1 < nI 3) ∧ ytr T n s i X = yen (yno (yss X s (yfS S1 i r true)) (2, s, i)) s 5)) := by
  refine ⟨_, rfl, ?_⟩
  unfold ytr
  by_cases hr : (if ypl (gp (yxs X s)) i then 1 else yob T X.1.1 i n 1) = 0
  · left
    have hp : ypl (gp (yxs X s)) i = false := by
      cases h : ypl (gp (yxs X s)) i with
      | false => rfl
      | true => rw [h, if_pos rfl] at hr; exact absurd hr (by decide)
    rw [hp] at hr
    refine ⟨hr, hp, ?_⟩
    simp only [hp]
    rw [if_pos hr]
  · right
    by_cases hc : ypa T (gm (yxs X s) 1) = true ∧ ¬ gf (yxs X s) i + 1 < nI 3
    · right
      refine ⟨_, hr, hc, ?_⟩
      simp only []
      rw [if_neg hr, if_pos hc, hc.1]
    · left
      refine ⟨_, hr, hc, ?_⟩
      simp only []
      rw [if_neg hr, if_neg hc]
theorem yss_s (X : yX) (s : Nat) (S : yS) : yxs (yss X s S) s = S := yu_s _ _ _
theorem yss_n {X : yX} {s r : Nat} {S : yS} (h : r ≠ s) : yxs (yss X s S) r = yxs X r := yu_n h
theorem OKW_ss {T : Nat → yT} {c s : Nat} {X : yX} {S : yS} (h : OKW T c X.1) (hS : OKS T c S) : OKW T c (yss X s S).1 := by
  refine ⟨h.1, h.2.1, fun r hr => ?_⟩
  show OKS T c (yu X.1.2 s S r)
  by_cases e : r = s
  · subst e; rw [yu_s]; exact hS
  · rw [yu_n e]; exact h.2.2 r hr
theorem ytr_n {T : yT} {n : Int32} {s i r : Nat} {X : yX} (h : r ≠ s) : yxs (ytr T n s i X) r = yxs X r := by
  obtain ⟨S1, -, ⟨-, -, e⟩ | ⟨w, -, -, e⟩ | ⟨w, -, -, e⟩⟩ := ytr_is T n s i X <;> rw [e]
  · exact yss_n h
  · exact yss_n h
  · exact (yss_n h).trans (yss_n h)
theorem yfS_d (S : yS) (i : Nat) (r : Int32) (p : Bool) : gd (yfS S i r p) = gd S ∧ gx (yfS S i r p) = gx S ∧ gt (yfS S i r p) = if p then gt S else 2 := by
  unfold yfS; cases p <;> exact ⟨rfl, rfl, rfl⟩
theorem ytr_d {T : yT} {n : Int32} {s i : Nat} {X : yX} (hg : gt (yxs X s) = 1) : (∀ k, k ≠ i → gd (yxs (ytr T n s i X) s) k = gd (yxs X s) k) ∧ gx (yxs (ytr T n s i X) s) = gx (yxs X s) ∧
    yln (ytr T n s i X).2 ≤ yln X.2 + (if gt (yxs (ytr T n s i X) s) = 1 then 1 else 2) ∧ (gt (yxs (ytr T n s i X) s) = 1 ∨ gt (yxs (ytr T n s i X) s) = 2 ∨ gt (yxs (ytr T n s i X) s) = 5) := by
  obtain ⟨S1, h1, ⟨-, -, e⟩ | ⟨w, -, -, e⟩ | ⟨w, -, -, e⟩⟩ := ytr_is T n s i X <;> rw [e]
  · have e2 : yxs (yno (yss (ysp X (ych T X.1.1 i n 1)) s (yDn S1 i n)) (1, s, i)) s = yDn S1 i n := yss_s _ _ _
    rw [e2]; subst h1
    refine ⟨fun k hk => yu_n hk, rfl, ?_, Or.inl hg⟩
    have : gt (yDn (gpS (yxs X s) (ysd (gp (yxs X s)) i)) i n) = 1 := hg
    rw [if_pos this]; exact yln_lg _ _
  · have e2 : yxs (yno (yss X s (yfS S1 i w (ypa T (gm (yxs X s) 1)))) (2, s, i)) s = yfS S1 i w (ypa T (gm (yxs X s) 1)) := yss_s _ _ _
    rw [e2]; subst h1
    obtain ⟨d1, d2, d3⟩ := yfS_d (gpS (yxs X s) (ysd (gp (yxs X s)) i)) i w (ypa T (gm (yxs X s) 1))
    refine ⟨fun k hk => by rw [d1]; rfl, by rw [d2]; rfl, ?_, ?_⟩
    · have := yln_lg X.2 (2, s, i)
      show yln (ylg X.2 (2, s, i)) ≤ _
      split <;> omega
    · rw [d3]; split
      · exact Or.inl hg
      · exact Or.inr (Or.inl rfl)
  · have e2 : yxs (yen (yno (yss X s (yfS S1 i w true)) (2, s, i)) s 5) s = gtS (yfS S1 i w true) 5 := by
      show yxs (yss _ s _) s = _
      rw [yss_s]; exact congrArg (fun S => gtS S 5) (yss_s X s _)
    rw [e2]; subst h1
    refine ⟨fun k hk => rfl, rfl, ?_, Or.inr (Or.inr rfl)⟩
    have a := yln_lg X.2 (2, s, i)
    have b := yln_lg (ylg X.2 (2, s, i)) (5, s, 5)
    show yln (ylg (ylg X.2 (2, s, i)) (5, s, 5)) ≤ yln X.2 + 2
    omega
theorem ytr_ok {T : Nat → yT} {c s i : Nat} {n : Int32} {X : yX} (h : OKW T c X.1) (hs : s < 3) (hg : gt (yxs X s) = 1) (hi : i < tn (T (gx (yxs X s)))) (h0 : gd (yxs X s) i = 0) : OKW T c (ytr (T (gx (yxs X s))) n s i X).1 := by
  have hS := h.2.2 s hs
  have hS : OKS T c (yxs X s) := hS
  have hz : gz T (yxs X s) = tn (T (gx (yxs X s))) := by unfold gz; rw [if_neg (by omega)]
  obtain ⟨S1, h1, ⟨o, -, e⟩ | ⟨w, -, -, e⟩ | ⟨w, -, -, e⟩⟩ := ytr_is (T (gx (yxs X s))) n s i X <;> rw [e] <;> subst h1
  · exact OKW_ss (X := ysp X _) ⟨h.1, OKP_ch (h.1.2 _ (hS.2.1 (by omega))) hi h.2.1 o, h.2.2⟩ (OKS_done (S := gpS (yxs X s) (ysd (gp (yxs X s)) i)) (i := i) hS (show i < gz T (yxs X s) by rw [hz]; exact hi) h0)
  · exact OKW_ss h (OKS_fS (S := gpS (yxs X s) (ysd (gp (yxs X s)) i)) hS (by show gt (yxs X s) ≠ 0; omega))
  · refine OKW_ss (OKW_ss h (OKS_fS (S := gpS (yxs X s) (ysd (gp (yxs X s)) i)) hS (by show gt (yxs X s) ≠ 0; omega))) ?_
    refine OKS_st ?_ ?_ (by omega) (by omega)
    · show OKS T c (yxs (yss X s _) s)
      rw [yss_s]; exact OKS_fS (S := gpS (yxs X s) (ysd (gp (yxs X s)) i)) hS (by show gt (yxs X s) ≠ 0; omega)
    · show gt (yxs (yss X s _) s) ≠ 0
      rw [yss_s]; show gt (yxs X s) ≠ 0; omega
end
section
/-! ===== turns and ticks keep it ===== -/
def ym1 (X : yX) (s : Nat) : Nat := yln X.2 + (if gt (yxs X s) = 1 then 1 else 0)
theorem ytr_m {T : yT} {n : Int32} {s i : Nat} {X : yX} (hg : gt (yxs X s) = 1) : ym1 (ytr T n s i X) s ≤ ym1 X s + 1 := by
  have h := (ytr_d (T := T) (n := n) (i := i) hg).2.2.1
  unfold ym1
  rw [if_pos hg]
  split at h <;> rename_i h2
  · rw [if_pos h2]; omega
  · rw [if_neg h2]; omega
theorem yfl_ok {T : Nat → yT} {c s g0 fr : Nat} {nm : Nat → Int32} (hs : s < 3) : ∀ (k i : Nat) (X : yX), OKW T c X.1 → gx (yxs X s) = g0 → (∀ j, i ≤ j → fr.testBit j = true → j < tn (T g0) ∧ gd (yxs X s) j = 0) → (gt (yxs X s) = 1 ∨ gt (yxs X s) = 2 ∨ gt (yxs X s) = 5) →
    OKW T c (yfl (T g0) nm s fr k i X).1 ∧ gx (yxs (yfl (T g0) nm s fr k i X) s) = g0 ∧ (gt (yxs (yfl (T g0) nm s fr k i X) s) = 1 ∨ gt (yxs (yfl (T g0) nm s fr k i X) s) = 2 ∨ gt (yxs (yfl (T g0) nm s fr k i X) s) = 5) ∧
    (∀ r, r ≠ s → yxs (yfl (T g0) nm s fr k i X) r = yxs X r) ∧ ym1 (yfl (T g0) nm s fr k i X) s ≤ ym1 X s + k
  | 0, i, X, h, hx, hf, hg => ⟨h, hx, hg, fun _ _ => rfl, Nat.le_refl _⟩
  | k + 1, i, X, h, hx, hf, hg => by
    rw [yfl]
    by_cases h1 : gt (yxs X s) = 1
    · rw [if_pos h1]
      by_cases hb : fr.testBit i = true
      · rw [if_pos hb]
        have hi := hf i (Nat.le_refl _) hb
        have hd := ytr_d (T := T g0) (n := nm i) (i := i) h1
        have ho : OKW T c (ytr (T g0) (nm i) s i X).1 := by
          have := ytr_ok (n := nm i) (i := i) h hs h1 (by rw [hx]; exact hi.1) hi.2
          rw [hx] at this; exact this
        obtain ⟨a1, a2, a3, a4, a5⟩ := yfl_ok (nm := nm) hs k (i + 1) (ytr (T g0) (nm i) s i X) ho (hd.2.1.trans hx) (fun j hj hjb => ⟨(hf j (by omega) hjb).1, by rw [hd.1 j (by omega)]; exact (hf j (by omega) hjb).2⟩) hd.2.2.2
        have hm := ytr_m (T := T g0) (n := nm i) (i := i) h1
        exact ⟨a1, a2, a3, fun r hr => (a4 r hr).trans (ytr_n hr), by omega⟩
      · rw [if_neg hb]
        obtain ⟨a1, a2, a3, a4, a5⟩ := yfl_ok (nm := nm) hs k (i + 1) X h hx (fun j hj hjb => hf j (by omega) hjb) hg
        exact ⟨a1, a2, a3, a4, by omega⟩
    · rw [if_neg h1]; exact ⟨h, hx, hg, fun _ _ => rfl, by omega⟩
theorem yen_ok {T : Nat → yT} {c s v : Nat} {X : yX} (h : OKW T c X.1) (hs : s < 3) (hg : gt (yxs X s) ≠ 0) (hv : v ≠ 0) (h5 : v ≤ 5) : OKW T c (yen X s v).1 := OKW_ss h (OKS_st (h.2.2 s hs) hg hv h5)
theorem yen_s {X : yX} {s v : Nat} : yxs (yen X s v) s = gtS (yxs X s) v := yss_s _ _ _
theorem yen_n {X : yX} {s v r : Nat} (h : r ≠ s) : yxs (yen X s v) r = yxs X r := yss_n h
theorem yen_l {X : yX} {s v : Nat} : yln (yen X s v).2 ≤ yln X.2 + 1 := yln_lg _ _
theorem front_bit {T : yT} {S : yS} {j : Nat} (h : (yfr T S).testBit j = true) : j < tn T ∧ gd S j = 0 := by
  unfold yfr at h
  rw [ymk_bit] at h
  simp only [Bool.and_eq_true, decide_eq_true_eq, beq_iff_eq] at h
  exact ⟨h.1, h.2.1⟩
theorem yfo_ok {T : Nat → yT} {c s : Nat} {nm : Nat → Int32} {X : yX} (h : OKW T c X.1) (hs : s < 3) (hg : gt (yxs X s) = 1) :
    OKW T c (yfo (T (gx (yxs X s))) nm s X).1 ∧ gx (yxs (yfo (T (gx (yxs X s))) nm s X) s) = gx (yxs X s) ∧ gt (yxs (yfo (T (gx (yxs X s))) nm s X) s) ≠ 0 ∧ (∀ r, r ≠ s → yxs (yfo (T (gx (yxs X s))) nm s X) r = yxs X r) ∧ yln (yfo (T (gx (yxs X s))) nm s X).2 ≤ yln X.2 + 13 := by
  obtain ⟨a1, a2, a3, a4, a5⟩ := yfl_ok (fr := yfr (T (gx (yxs X s))) (yxs X s)) (nm := nm) hs 12 0 X h rfl (fun j _ hj => front_bit hj) (Or.inl hg)
  unfold yfo
  simp only []
  generalize yfl (T (gx (yxs X s))) nm s (yfr (T (gx (yxs X s))) (yxs X s)) 12 0 X = X1 at a1 a2 a3 a4 a5 ⊢
  have hm : ym1 X s = yln X.2 + 1 := by unfold ym1; rw [if_pos hg]
  by_cases hc : gt (yxs X1 s) = 1 ∧ gm (yxs X1 s) 1 = 2 ^ tn (T (gx (yxs X s))) - 1
  · rw [if_pos hc]
    have h1 : ym1 X1 s = yln X1.2 + 1 := by unfold ym1; rw [if_pos hc.1]
    have h2 := yen_l (X := X1) (s := s) (v := 3)
    refine ⟨yen_ok a1 hs (by omega) (by omega) (by omega), by rw [yen_s]; exact a2, by rw [yen_s]; exact (by decide : (3 : Nat) ≠ 0), fun r hr => (yen_n hr).trans (a4 r hr), by omega⟩
  · rw [if_neg hc]
    have h1 : yln X1.2 ≤ ym1 X1 s := by unfold ym1; omega
    refine ⟨a1, a2, by omega, a4, by omega⟩
theorem yun_ok {T : Nat → yT} {c s : Nat} {X : yX} (h : OKW T c X.1) (hs : s < 3) (hg : gt (yxs X s) ≠ 0) :
    OKW T c (yun (T (gx (yxs X s))) s X).1 ∧ gx (yxs (yun (T (gx (yxs X s))) s X) s) = gx (yxs X s) ∧ gt (yxs (yun (T (gx (yxs X s))) s X) s) = gt (yxs X s) ∧ (∀ r, r ≠ s → yxs (yun (T (gx (yxs X s))) s X) r = yxs X r) ∧ yln (yun (T (gx (yxs X s))) s X).2 ≤ yln X.2 + 1 := by
  have hS : OKS T c (yxs X s) := h.2.2 s hs
  unfold yun
  simp only []
  cases ho : go (yxs X s) with
  | nil => exact ⟨h, rfl, rfl, fun _ _ => rfl, Nat.le_succ _⟩
  | cons i t =>
    have hi : gd (yxs X s) i = 1 := (hS.2.2.2.1 i).mp (by rw [ho]; exact List.mem_cons_self)
    have hz : i < gz T (yxs X s) := Nat.lt_of_not_le (fun q => by have := hS.2.2.2.2.1 i q; omega)
    have hz2 : gz T (yxs X s) = tn (T (gx (yxs X s))) := by unfold gz; rw [if_neg hg]
    simp only []
    by_cases hr : (if ypl (gq (yxs X s)) i = true then 1 else yob (T (gx (yxs X s))) X.1.1 i (gb (yxs X s) i) (-1)) = 0
    · rw [if_pos hr]
      have hp : ypl (gq (yxs X s)) i = false := by
        cases hq : ypl (gq (yxs X s)) i with
        | false => rfl
        | true => rw [hq, if_pos rfl] at hr; exact absurd hr (by decide)
      rw [hp, if_neg (by decide)] at hr
      refine ⟨OKW_ss (X := ysp X _) ⟨h.1, OKP_ch (h.1.2 _ (hS.2.1 hg)) (by omega) h.2.1 hr, h.2.2⟩ (OKS_undo (S := gqS (yxs X s) _) hS ho (Or.inl rfl)), ?_, ?_, fun r hr2 => yss_n (X := ysp X _) hr2, yln_lg _ _⟩
      · show gx (yxs (yss (ysp X _) s _) s) = _; rw [yss_s]; rfl
      · show gt (yxs (yss (ysp X _) s _) s) = _; rw [yss_s]; rfl
    · rw [if_neg hr]
      refine ⟨OKW_ss h (OKS_undo (S := gqS (yxs X s) _) hS ho (Or.inr rfl)), ?_, ?_, fun r hr2 => yss_n hr2, yln_lg _ _⟩
      · show gx (yxs (yss X s _) s) = _; rw [yss_s]; rfl
      · show gt (yxs (yss X s _) s) = _; rw [yss_s]; rfl
theorem yba_ok {T : Nat → yT} {c s : Nat} {X : yX} (h : OKW T c X.1) (hs : s < 3) (hg : gt (yxs X s) ≠ 0) :
    OKW T c (yba (T (gx (yxs X s))) s X).1 ∧ gx (yxs (yba (T (gx (yxs X s))) s X) s) = gx (yxs X s) ∧ gt (yxs (yba (T (gx (yxs X s))) s X) s) ≠ 0 ∧ (∀ r, r ≠ s → yxs (yba (T (gx (yxs X s))) s X) r = yxs X r) ∧ yln (yba (T (gx (yxs X s))) s X).2 ≤ yln X.2 + 2 := by
  obtain ⟨a1, a2, a3, a4, a5⟩ := yun_ok h hs hg
  unfold yba
  simp only []
  generalize yun (T (gx (yxs X s))) s X = X1 at a1 a2 a3 a4 a5 ⊢
  by_cases hc : gm (yxs X1 s) 1 = 0
  · rw [if_pos hc]
    have h2 := yen_l (X := X1) (s := s) (v := 4)
    exact ⟨yen_ok a1 hs (by omega) (by omega) (by omega), by rw [yen_s]; exact a2, by rw [yen_s]; exact (by decide : (4 : Nat) ≠ 0), fun r hr => (yen_n hr).trans (a4 r hr), by omega⟩
  · rw [if_neg hc]; exact ⟨a1, a2, by omega, a4, by omega⟩
theorem ytu_ok {T : Nat → yT} {nm : Nat → Nat → Int32} {c s : Nat} {X : yX} (h : OKW T c X.1) (hs : s < 3) :
    OKW T c (ytu T nm s X).1 ∧ (∀ r, gx (yxs (ytu T nm s X) r) = gx (yxs X r) ∧ (gt (yxs (ytu T nm s X) r) = 0 ↔ gt (yxs X r) = 0)) ∧ yln (ytu T nm s X).2 ≤ yln X.2 + 13 := by
  unfold ytu
  by_cases h1 : gt (yxs X s) = 1
  · rw [if_pos h1]
    obtain ⟨a1, a2, a3, a4, a5⟩ := yfo_ok (nm := nm s) h hs h1
    refine ⟨a1, fun r => ?_, a5⟩
    by_cases e : r = s
    · subst e; exact ⟨a2, by omega⟩
    · rw [a4 r e]; exact ⟨rfl, Iff.rfl⟩
  · rw [if_neg h1]
    by_cases h2 : gt (yxs X s) = 2
    · rw [if_pos h2]
      obtain ⟨a1, a2, a3, a4, a5⟩ := yba_ok h hs (by omega)
      refine ⟨a1, fun r => ?_, by omega⟩
      by_cases e : r = s
      · subst e; exact ⟨a2, by omega⟩
      · rw [a4 r e]; exact ⟨rfl, Iff.rfl⟩
    · rw [if_neg h2]; exact ⟨h, fun r => ⟨rfl, Iff.rfl⟩, by omega⟩
theorem yti_ok {T : Nat → yT} {nm : Nat → Nat → Int32} {c : Nat} {X : yX} (h : OKW T c X.1) :
    OKW T c (yti T nm X).1 ∧ (∀ r, gx (yxs (yti T nm X) r) = gx (yxs X r) ∧ (gt (yxs (yti T nm X) r) = 0 ↔ gt (yxs X r) = 0)) ∧ yln (yti T nm X).2 ≤ yln X.2 + 39 := by
  obtain ⟨a1, a2, a3⟩ := ytu_ok (nm := nm) h (show 0 < 3 by omega)
  obtain ⟨b1, b2, b3⟩ := ytu_ok (nm := nm) a1 (show 1 < 3 by omega)
  obtain ⟨c1, c2, c3⟩ := ytu_ok (nm := nm) b1 (show 2 < 3 by omega)
  exact ⟨c1, fun r => ⟨(c2 r).1.trans ((b2 r).1.trans (a2 r).1), (c2 r).2.trans ((b2 r).2.trans (a2 r).2)⟩, by unfold yti; omega⟩
theorem ytn_ok {T : Nat → yT} {nm : Nat → Nat → Int32} {c : Nat} : ∀ (k : Nat) (X : yX), OKW T c X.1 → OKW T c (ytn T nm k X).1 ∧ ∀ r, gx (yxs (ytn T nm k X) r) = gx (yxs X r) ∧ (gt (yxs (ytn T nm k X) r) = 0 ↔ gt (yxs X r) = 0)
  | 0, X, h => ⟨h, fun r => ⟨rfl, Iff.rfl⟩⟩
  | k + 1, X, h => by
    obtain ⟨a1, a2, -⟩ := yti_ok (nm := nm) h
    obtain ⟨b1, b2⟩ := ytn_ok (nm := nm) k _ a1
    exact ⟨b1, fun r => ⟨(b2 r).1.trans (a2 r).1, (b2 r).2.trans (a2 r).2⟩⟩
end
section
/-! ===== contracts: worlds ===== -/
/-- a world with what stands around it -/
def CW (M : zM) (lo w u j : Nat) (T : Nat → yT) (c : Nat) (nm : Nat → Nat → Int32) (X : yX) : Prop := SC M ∧ Wd lo w u j ∧ RTx M T c ∧ OKW T c X.1 ∧ RW M u j T nm X
def FW (lo : Nat) : Nat → Nat → Prop := Fb lo (lo + 32)
theorem Wd.sg {lo w u j s : Nat} (h : Wd lo w u j) (hs : s < 3) : zSa (u + 3 + 8 * s) := by unfold zSa; rcases h with h | h <;> omega
theorem Wd.d {lo w u j : Nat} (h : Wd lo w u j) : 62 ≤ lo ∧ lo ≤ j ∧ j + 4 ≤ lo + 32 ∧ lo ≤ u ∧ u + 27 ≤ lo + 32 ∧ (j + 4 ≤ u) ∧ lo + 32 ≤ 126 := by rcases h with h | h <;> omega
theorem SC.wo {M : zM} (h : SC M) {lo w u j : Nat} (hw : Wd lo w u j) : SWo M w u j := by
  obtain ⟨_, _, _, _, _, h1, h2, _⟩ := h
  rcases hw with ⟨-, rfl, rfl, rfl⟩ | ⟨-, rfl, rfl, rfl⟩
  · exact h1
  · exact h2
theorem SC.pu {M : zM} (h : SC M) {lo w u j : Nat} (hw : Wd lo w u j) : SPu M u := by
  obtain ⟨_, _, _, _, _, _, _, h1, h2, _⟩ := h
  rcases hw with ⟨-, rfl, rfl, rfl⟩ | ⟨-, rfl, rfl, rfl⟩
  · exact h1
  · exact h2
theorem RW_sg {M M' : zM} {lo w u j s : Nat} {T : Nat → yT} {nm : Nat → Nat → Int32} {X : yX} {S : yS} (hw : Wd lo w u j) (h : RW M u j T nm X) (hs : s < 3) (hR : RS M' (u + 3 + 8 * s) T (nm s) S) (f : Fr (FS (u + 3 + 8 * s)) M M') : RW M' u j T nm (yss X s S) := by
  have d := hw.d
  refine ⟨RPu_fr h.1 f (fun b k h1 h2 q => by have := q.1; omega), fun r hr => ?_, RJ_fr h.2.2 f (fun b k h1 h2 q => by have := q.1; rcases hw with e | e <;> omega)⟩
  show RS M' (u + 3 + 8 * r) T (nm r) (yu X.1.2 s S r)
  by_cases e : r = s
  · subst e; rw [yu_s]; exact hR
  · rw [yu_n e]; exact RS_fr (h.2.1 r hr) f (fun b k h1 h2 q => by have := q.1; have := q.2; omega)
theorem RW_pu {M M' : zM} {lo w u j : Nat} {T : Nat → yT} {nm : Nat → Nat → Int32} {X : yX} {P : yP} (hw : Wd lo w u j) (h : RW M u j T nm X) (hR : RPu M' u P) (f : Fr (FU u) M M') : RW M' u j T nm (ysp X P) := by
  have d := hw.d
  exact ⟨hR, fun r hr => RS_fr (h.2.1 r hr) f (fun b k h1 h2 q => by have := q.2; omega), RJ_fr h.2.2 f (fun b k h1 h2 q => by have := q.1; rcases hw with e | e <;> omega)⟩
theorem RW_lg {M M' : zM} {lo w u j : Nat} {T : Nat → yT} {nm : Nat → Nat → Int32} {X : yX} {x : yL} (hw : Wd lo w u j) (h : RW M u j T nm X) (hR : RJ M' j (ylg X.2 x)) (f : Fr (Fb j (j + 4)) M M') : RW M' u j T nm (yno X x) := by
  have d := hw.d
  exact ⟨RPu_fr h.1 f (fun b k h1 h2 q => by have := q.2; omega), fun r hr => RS_fr (h.2.1 r hr) f (fun b k h1 h2 q => by have := q.2; omega), hR⟩
theorem CW.up {M M' : zM} {lo w u j : Nat} {T : Nat → yT} {c : Nat} {nm : Nat → Nat → Int32} {X X' : yX} (h : CW M lo w u j T c nm X) (hR : RW M' u j T nm X') (hO : OKW T c X'.1) (f : Fi (FW lo) M M') : CW M' lo w u j T c nm X' :=
  ⟨f.sc h.1 (fun a k ha q => by have := q.1; have := h.2.1.d; omega), h.2.1, RTx_fr h.2.2.1 h.2.2.2.1.1.1 f.fr (fun b k h1 h2 q => by have := q.1; have := h.2.1.d; omega), hO, hR⟩
theorem RS_gp {M M' : zM} {a : Nat} {T : Nat → yT} {nm p : Nat → Int32} {S : yS} (h : RS M a T nm S) (hp : ∀ j, j < 12 → zi M' (a + 4) j = p j) (f : Fi (fun b _ => b = a + 4) M M') : RS M' a T nm (gpS S p) := by
  have g : ∀ b k, b ≠ a + 4 → zi M' b k = zi M b k := fun b k n => f.1 b k n
  obtain ⟨⟨h1, h2, h3⟩, ⟨h4, h5, h6⟩, ⟨h7, h8⟩, h9, ha, hb⟩ := h
  exact ⟨⟨(g _ _ (by omega)).trans h1, (g _ _ (by omega)).trans h2, (f.r _ _).trans h3⟩, ⟨(g _ _ (by omega)).trans h4, (g _ _ (by omega)).trans h5, (g _ _ (by omega)).trans h6⟩,
    ⟨(g _ _ (by omega)).trans h7, fun k hk => (g _ _ (by omega)).trans (h8 k hk)⟩, fun k hk => (g _ _ (by omega)).trans (h9 k hk), fun k hk he => (g _ _ (by omega)).trans (ha k hk he),
    fun k hk => ⟨hp k hk, (g _ _ (by omega)).trans (hb k hk).2.1, (g _ _ (by omega)).trans (hb k hk).2.2.1, (g _ _ (by omega)).trans (hb k hk).2.2.2⟩⟩
theorem RS_gq {M M' : zM} {a : Nat} {T : Nat → yT} {nm p : Nat → Int32} {S : yS} (h : RS M a T nm S) (hp : ∀ j, j < 12 → zi M' (a + 5) j = p j) (f : Fi (fun b _ => b = a + 5) M M') : RS M' a T nm (gqS S p) := by
  have g : ∀ b k, b ≠ a + 5 → zi M' b k = zi M b k := fun b k n => f.1 b k n
  obtain ⟨⟨h1, h2, h3⟩, ⟨h4, h5, h6⟩, ⟨h7, h8⟩, h9, ha, hb⟩ := h
  exact ⟨⟨(g _ _ (by omega)).trans h1, (g _ _ (by omega)).trans h2, (f.r _ _).trans h3⟩, ⟨(g _ _ (by omega)).trans h4, (g _ _ (by omega)).trans h5, (g _ _ (by omega)).trans h6⟩,
    ⟨(g _ _ (by omega)).trans h7, fun k hk => (g _ _ (by omega)).trans (h8 k hk)⟩, fun k hk => (g _ _ (by omega)).trans (h9 k hk), fun k hk he => (g _ _ (by omega)).trans (ha k hk he),
    fun k hk => ⟨(g _ _ (by omega)).trans (hb k hk).1, hp k hk, (g _ _ (by omega)).trans (hb k hk).2.2.1, (g _ _ (by omega)).trans (hb k hk).2.2.2⟩⟩
theorem RS_gt {M : zM} {a v : Nat} {T : Nat → yT} {nm : Nat → Int32} {S : yS} (h : RS M a T nm S) (hg : gt S ≠ 0) (hv : v ≠ 0) : RS (zwi M a 0 (nI v)) a T nm (gtS S v) := by
  have g : ∀ b k, b ≠ a ∨ k ≠ 0 → zi (zwi M a 0 (nI v)) b k = zi M b k := fun b k n => wi_n n
  obtain ⟨⟨h1, h2, h3⟩, ⟨h4, h5, h6⟩, ⟨h7, h8⟩, h9, ha, hb⟩ := h
  have e1 : txt (gtS S v) = txt S := by show (if v = 0 then (-1 : Int32) else nI (gx S)) = if gt S = 0 then -1 else nI (gx S); rw [if_neg hg, if_neg hv]
  have e2 : prg (gtS S v) = prg S := by show (if v = 0 then none else some (20 + 7 * gx S)) = if gt S = 0 then none else some (20 + 7 * gx S); rw [if_neg hg, if_neg hv]
  have e3 : gz T (gtS S v) = gz T S := by show (if v = 0 then 0 else tn (T (gx S))) = if gt S = 0 then 0 else tn (T (gx S)); rw [if_neg hg, if_neg hv]
  refine ⟨⟨wi_s _ _ _ _, ?_, ?_⟩, ⟨(g _ _ (by omega)).trans h4, (g _ _ (by omega)).trans h5, (g _ _ (by omega)).trans h6⟩,
    ⟨(g _ _ (by omega)).trans h7, fun k hk => (g _ _ (by omega)).trans (h8 k hk)⟩, fun k hk => (g _ _ (by omega)).trans (h9 k (by rw [e3] at hk; exact hk)), fun k hk he => (g _ _ (by omega)).trans (ha k hk he),
    fun k hk => ⟨(g _ _ (by omega)).trans (hb k hk).1, (g _ _ (by omega)).trans (hb k hk).2.1, (g _ _ (by omega)).trans (hb k hk).2.2.1, (g _ _ (by omega)).trans (hb k hk).2.2.2⟩⟩
  · rw [e1, g _ _ (by omega)]; exact h2
  · rw [e2]; exact h3
theorem getD_app {l : List yL} {x : yL} {k : Nat} : (l ++ [x]).getD k (0, 0, 0) = if k = l.length then x else l.getD k (0, 0, 0) := by
  by_cases e : k = l.length
  · subst e; rw [if_pos rfl]; simp [List.getD]
  · rw [if_neg e]
    simp only [List.getD]
    by_cases h : k < l.length
    · rw [List.getElem?_append_left h]
    · rw [List.getElem?_eq_none (by rw [List.length_append]; show l.length + 1 ≤ k; omega), List.getElem?_eq_none (by omega)]
theorem c74t {d b i : Nat} {M : zM} {Q : Option Value → zM → Prop} {p : Nat → Int32} (hk : zk M b = (20, 12)) (hi : i < 12) (hp : ∀ j, j < 12 → zi M b j = p j) (h : ypl p i = true) (k : ∀ M', (∀ j, j < 12 → zi M' b j = ysd p i j) → Fi (fun a _ => a = b) M M' → Q (some (.int (nI 1))) M') : qC (d + 1) 74 [.ref b, .int (nI i)] M Q :=
  c74 hk hi hp (by rw [h]; exact k)
theorem c74f {d b i : Nat} {M : zM} {Q : Option Value → zM → Prop} {p : Nat → Int32} (hk : zk M b = (20, 12)) (hi : i < 12) (hp : ∀ j, j < 12 → zi M b j = p j) (h : ypl p i = false) (k : ∀ M', (∀ j, j < 12 → zi M' b j = ysd p i j) → Fi (fun a _ => a = b) M M' → Q (some (.int (nI 0))) M') : qC (d + 1) 74 [.ref b, .int (nI i)] M Q :=
  c74 hk hi hp (by rw [h]; exact k)
theorem d65_0 : decode (zB 65) 0 = .ok (.aload_n 0, 1) := by decide +kernel
theorem d65_1 : decode (zB 65) 1 = .ok (.getfield 25, 3) := by decide +kernel
theorem d65_4 : decode (zB 65) 4 = .ok (.ifCond .lt 55, 3) := by decide +kernel
theorem d65_7 : decode (zB 65) 7 = .ok (.aload_n 0, 1) := by decide +kernel
theorem d65_8 : decode (zB 65) 8 = .ok (.getfield 25, 3) := by decide +kernel
theorem d65_11 : decode (zB 65) 11 = .ok (.aload_n 0, 1) := by decide +kernel
theorem d65_12 : decode (zB 65) 12 = .ok (.getfield 13, 3) := by decide +kernel
theorem d65_15 : decode (zB 65) 15 = .ok (.arraylength, 1) := by decide +kernel
theorem d65_16 : decode (zB 65) 16 = .ok (.if_icmp .ge 43, 3) := by decide +kernel
theorem d65_19 : decode (zB 65) 19 = .ok (.aload_n 0, 1) := by decide +kernel
theorem d65_20 : decode (zB 65) 20 = .ok (.getfield 13, 3) := by decide +kernel
theorem d65_23 : decode (zB 65) 23 = .ok (.aload_n 0, 1) := by decide +kernel
theorem d65_24 : decode (zB 65) 24 = .ok (.getfield 25, 3) := by decide +kernel
theorem d65_27 : decode (zB 65) 27 = .ok (.iload_n 1, 1) := by decide +kernel
theorem d65_28 : decode (zB 65) 28 = .ok (.iastore, 1) := by decide +kernel
theorem d65_29 : decode (zB 65) 29 = .ok (.aload_n 0, 1) := by decide +kernel
theorem d65_30 : decode (zB 65) 30 = .ok (.getfield 19, 3) := by decide +kernel
theorem d65_33 : decode (zB 65) 33 = .ok (.aload_n 0, 1) := by decide +kernel
theorem d65_34 : decode (zB 65) 34 = .ok (.getfield 25, 3) := by decide +kernel
theorem d65_37 : decode (zB 65) 37 = .ok (.iload_n 2, 1) := by decide +kernel
theorem d65_38 : decode (zB 65) 38 = .ok (.iastore, 1) := by decide +kernel
theorem d65_39 : decode (zB 65) 39 = .ok (.aload_n 0, 1) := by decide +kernel
theorem d65_40 : decode (zB 65) 40 = .ok (.getfield 22, 3) := by decide +kernel
theorem d65_43 : decode (zB 65) 43 = .ok (.aload_n 0, 1) := by decide +kernel
theorem d65_44 : decode (zB 65) 44 = .ok (.getfield 25, 3) := by decide +kernel
theorem d65_47 : decode (zB 65) 47 = .ok (.iload_n 3, 1) := by decide +kernel
theorem d65_48 : decode (zB 65) 48 = .ok (.iastore, 1) := by decide +kernel
theorem d65_49 : decode (zB 65) 49 = .ok (.aload_n 0, 1) := by decide +kernel
theorem d65_50 : decode (zB 65) 50 = .ok (.dup, 1) := by decide +kernel
theorem d65_51 : decode (zB 65) 51 = .ok (.getfield 25, 3) := by decide +kernel
theorem d65_54 : decode (zB 65) 54 = .ok (.iconst 1, 1) := by decide +kernel
theorem d65_55 : decode (zB 65) 55 = .ok (.iadd, 1) := by decide +kernel
theorem d65_56 : decode (zB 65) 56 = .ok (.putfield 25, 3) := by decide +kernel
theorem d65_59 : decode (zB 65) 59 = .ok (.return_, 1) := by decide +kernel
theorem c65 {d : Nat} {M : zM} {Q : Option Value → zM → Prop} {j e o v : Nat} {g : Option (List yL)} (hS : SC M) (hJ : RJ M j g) (hl : yln g + 1 ≤ 240) (k : ∀ M', RJ M' j (ylg g (e, o, v)) → Fi (Fb j (j + 4)) M M' → Q none M') : qC (d + 1) 65 [.ref j, .int (nI e), .int (nI o), .int (nI v)] M Q := by
  refine qC_of (by decide) (Nat.le_of_ble_eq_true rfl) ?_
  cases g with
  | none =>
    have hs := hS.2.2.2.2.1
    have hj : j = 95 := hJ
    subst hj
    refine q_aload_n d65_0 rfl ?_
    refine q_getv (c := 0) (f := 3) d65_1 ⟨rfl, by decide⟩ hs.1 rfl ?_
    refine i0_lt 59 d65_4 (by decide) (fun h4 => ?_) (fun h4 => ?_)
    · refine q_ret d65_59 rfl ?_
      exact k _ rfl (Fi.refl _ _)
    · refine q_aload_n d65_7 rfl ?_
      refine q_getv (c := 0) (f := 3) d65_8 ⟨rfl, by decide⟩ hs.1 rfl ?_
      refine q_aload_n d65_11 rfl ?_
      refine q_getr (c := 0) (f := 0) d65_12 ⟨rfl, rfl⟩ hs.1 (hs.2 0 (by decide)).1 ?_
      refine n_alen d65_15 (Or.inl (hs.2 0 (by decide)).2) ?_
      refine ic_ge 59 d65_16 (by decide) (fun h16 => ?_) (fun h16 => (False.elim (h16 (show nI 0 ≤ zi M 95 3 from Int32.not_lt.mp h4))))
      refine q_ret d65_59 rfl ?_
      exact k _ rfl (Fi.refl _ _)
  | some L =>
    have hs := hS.2.2.2.1
    obtain ⟨hj, hJ⟩ := hJ
    subst hj
    have hl : L.length + 1 ≤ 240 := hl
    refine q_aload_n d65_0 rfl ?_
    refine q_getv (c := 0) (f := 3) d65_1 ⟨rfl, by decide⟩ hs.1 hJ.1 ?_
    refine n0_lt 59 d65_4 (by decide) (by omega) (fun q => absurd q (Nat.not_lt_zero _)) (fun _ => ?_)
    refine q_aload_n d65_7 rfl ?_
    refine q_getv (c := 0) (f := 3) d65_8 ⟨rfl, by decide⟩ hs.1 hJ.1 ?_
    refine q_aload_n d65_11 rfl ?_
    refine q_getr (c := 0) (f := 0) d65_12 ⟨rfl, rfl⟩ hs.1 (hs.2 0 (by decide)).1 ?_
    refine n_alen d65_15 (Or.inl (hs.2 0 (by decide)).2) ?_
    refine nc_ge 59 d65_16 (by decide) (by omega) (by omega) (fun h16 => (False.elim (by omega))) (fun h16 => ?_)
    refine q_aload_n d65_19 rfl ?_
    refine q_getr (c := 0) (f := 0) d65_20 ⟨rfl, rfl⟩ hs.1 (hs.2 0 (by decide)).1 ?_
    refine q_aload_n d65_23 rfl ?_
    refine q_getv (c := 0) (f := 3) d65_24 ⟨rfl, by decide⟩ hs.1 hJ.1 ?_
    refine q_iload_n d65_27 rfl ?_
    refine n_iast d65_28 (hs.2 0 (by decide)).2 (by omega) (by decide) ?_
    refine q_aload_n d65_29 rfl ?_
    refine q_getr (c := 0) (f := 1) d65_30 ⟨rfl, rfl⟩ hs.1 (hs.2 1 (by decide)).1 ?_
    refine q_aload_n d65_33 rfl ?_
    refine q_getv (c := 0) (f := 3) d65_34 ⟨rfl, by decide⟩ hs.1 (Eq.trans (by (repeat (first | rw [wi_n (Or.inl (by omega))] | rw [wi_n (Or.inr (by omega))] | rw [wi_s] | rw [wr_i] | rw [cp_n (by omega)]))) hJ.1) ?_
    refine q_iload_n d65_37 rfl ?_
    refine n_iast d65_38 (hs.2 1 (by decide)).2 (by omega) (by decide) ?_
    refine q_aload_n d65_39 rfl ?_
    refine q_getr (c := 0) (f := 2) d65_40 ⟨rfl, rfl⟩ hs.1 (hs.2 2 (by decide)).1 ?_
    refine q_aload_n d65_43 rfl ?_
    refine q_getv (c := 0) (f := 3) d65_44 ⟨rfl, by decide⟩ hs.1 (Eq.trans (by (repeat (first | rw [wi_n (Or.inl (by omega))] | rw [wi_n (Or.inr (by omega))] | rw [wi_s] | rw [wr_i] | rw [cp_n (by omega)]))) hJ.1) ?_
    refine q_iload_n d65_47 rfl ?_
    refine n_iast d65_48 (hs.2 2 (by decide)).2 (by omega) (by decide) ?_
    refine q_aload_n d65_49 rfl ?_
    refine q_dup d65_50 rfl ?_
    refine q_getv (c := 0) (f := 3) d65_51 ⟨rfl, by decide⟩ hs.1 (Eq.trans (by (repeat (first | rw [wi_n (Or.inl (by omega))] | rw [wi_n (Or.inr (by omega))] | rw [wi_s] | rw [wr_i] | rw [cp_n (by omega)]))) hJ.1) ?_
    refine q_iconstN (z := 1) d65_54 ?_
    refine n_iadd d65_55 ?_
    refine q_puti (c := 0) (f := 3) d65_56 ⟨rfl, rfl, by decide⟩ hs.1 ?_
    refine q_ret d65_59 rfl ?_
    refine k _ ⟨rfl, ?_, fun i hi => ?_⟩ (((((Fi.refl _ _).wi ⟨by omega, by omega⟩).wi ⟨by omega, by omega⟩).wi ⟨by omega, by omega⟩).wi ⟨by omega, by omega⟩)
    · rw [List.length_append]; exact wi_s _ _ _ _
    · rw [List.length_append] at hi
      have hi : i < L.length + 1 := hi
      rw [getD_app]
      by_cases q : i = L.length
      · subst q; rw [if_pos rfl]
        refine ⟨?_, ?_, ?_⟩
        · (repeat (first | rw [wi_n (Or.inl (by omega))] | rw [wi_n (Or.inr (by omega))] | rw [wi_s] | rw [wr_i] | rw [cp_n (by omega)] | rw [cp_0 (by omega)]))
        · (repeat (first | rw [wi_n (Or.inl (by omega))] | rw [wi_n (Or.inr (by omega))] | rw [wi_s] | rw [wr_i] | rw [cp_n (by omega)] | rw [cp_0 (by omega)]))
        · (repeat (first | rw [wi_n (Or.inl (by omega))] | rw [wi_n (Or.inr (by omega))] | rw [wi_s] | rw [wr_i] | rw [cp_n (by omega)] | rw [cp_0 (by omega)]))
      · rw [if_neg q]
        obtain ⟨a1, a2, a3⟩ := hJ.2 i (by omega)
        refine ⟨?_, ?_, ?_⟩
        · (repeat (first | rw [wi_n (Or.inl (by omega))] | rw [wi_n (Or.inr (by omega))] | rw [wi_s] | rw [wr_i] | rw [cp_n (by omega)] | rw [cp_0 (by omega)])); exact a1
        · (repeat (first | rw [wi_n (Or.inl (by omega))] | rw [wi_n (Or.inr (by omega))] | rw [wi_s] | rw [wr_i] | rw [cp_n (by omega)] | rw [cp_0 (by omega)])); exact a2
        · (repeat (first | rw [wi_n (Or.inl (by omega))] | rw [wi_n (Or.inr (by omega))] | rw [wi_s] | rw [wr_i] | rw [cp_n (by omega)] | rw [cp_0 (by omega)])); exact a3
theorem d79_0 : decode (zB 79) 0 = .ok (.aload_n 2, 1) := by decide +kernel
theorem d79_1 : decode (zB 79) 1 = .ok (.iload_n 3, 1) := by decide +kernel
theorem d79_2 : decode (zB 79) 2 = .ok (.putfield 65, 3) := by decide +kernel
theorem d79_5 : decode (zB 79) 5 = .ok (.aload_n 0, 1) := by decide +kernel
theorem d79_6 : decode (zB 79) 6 = .ok (.getfield 28, 3) := by decide +kernel
theorem d79_9 : decode (zB 79) 9 = .ok (.iconst 5, 1) := by decide +kernel
theorem d79_10 : decode (zB 79) 10 = .ok (.iload_n 1, 1) := by decide +kernel
theorem d79_11 : decode (zB 79) 11 = .ok (.iload_n 3, 1) := by decide +kernel
theorem d79_12 : decode (zB 79) 12 = .ok (.invokevirtual 129, 3) := by decide +kernel
theorem d79_15 : decode (zB 79) 15 = .ok (.return_, 1) := by decide +kernel
theorem c79 {d : Nat} {M : zM} {Q : Option Value → zM → Prop} {lo w u j c : Nat} {T : Nat → yT} {nm : Nat → Nat → Int32} {X : yX} {s : Nat} {v : Nat} (hC : CW M lo w u j T c nm X) (hs3 : s < 3) (hg : gt (yxs X s) ≠ 0) (hv : v ≠ 0) (h5 : v ≤ 5) (hl : yln X.2 + 1 ≤ 240) (k : ∀ M', CW M' lo w u j T c nm (yen X s v) → Fi (FW lo) M M' → Q none M') : qC (d + 2) 79 [.ref w, .int (nI s), .ref (u + 3 + 8 * s), .int (nI v)] M Q := by
  have hC0 := hC
  obtain ⟨hS, hw, hT, hO, hR⟩ := hC
  have hwo := hS.wo hw
  have hsa := hw.sg hs3
  have hs := hS.sg hsa
  have hd := hw.d
  have hjk : zk M j = (0, 0) := by
    obtain ⟨_, _, _, h1, h2, _⟩ := hS
    rcases hw with ⟨-, -, -, rfl⟩ | ⟨-, -, -, rfl⟩
    · exact h1.1
    · exact h2.1
  refine qC_of (by decide) (Nat.le_of_ble_eq_true rfl) ?_
  refine q_aload_n d79_0 rfl ?_
  refine q_iload_n d79_1 rfl ?_
  refine q_puti (c := 5) (f := 0) d79_2 ⟨rfl, rfl, by decide⟩ hs.1 ?_
  refine q_aload_n d79_5 rfl ?_
  refine q_getr (c := 6) (f := 1) d79_6 ⟨rfl, rfl⟩ hwo.1 hwo.2.2.1 ?_
  refine q_iconstN (z := 5) d79_9 ?_
  refine q_iload_n d79_10 rfl ?_
  refine q_iload_n d79_11 rfl ?_
  have hJ1 : RJ (zwi M (u + 3 + 8 * s) 0 (nI v)) j X.2 := RJ_fr hR.2.2 ((Fi.refl (FS (u + 3 + 8 * s)) M).wi FS_0).fr (fun b q h1 h2 e => by have := e.1; rcases hw with h | h <;> omega)
  refine q_v3 d79_12 rfl rfl hjk (Nat.le_of_ble_eq_true rfl) (c65 (SC_wi hS (by omega)) hJ1 hl (fun M2 hJ2 f2 => ?_))
  refine q_ret d79_15 rfl ?_
  have f1 : Fi (FS (u + 3 + 8 * s)) M (zwi M (u + 3 + 8 * s) 0 (nI v)) := (Fi.refl _ _).wi FS_0
  have hR1 := RW_sg hw hR hs3 (RS_gt (hR.2.1 s hs3) hg hv) f1.fr
  exact k _ (hC0.up (RW_lg hw hR1 hJ2 f2.fr) (yen_ok hO hs3 hg hv h5) ((f1.mono (Fb_m (by omega) (by omega))).trans (f2.mono (Fb_m (by omega) (by omega))))) ((f1.mono (Fb_m (by omega) (by omega))).trans (f2.mono (Fb_m (by omega) (by omega))))
end
section
/-! ===== contracts: a try ===== -/
theorem yss_yss (X : yX) (s : Nat) (A B : yS) : yss (yss X s A) s B = yss X s B := by
  unfold yss
  have : yu (yu X.1.2 s A) s B = yu X.1.2 s B := by
    funext k; by_cases e : k = s
    · subst e; rw [yu_s, yu_s]
    · rw [yu_n e, yu_n e, yu_n e]
  show ((X.1.1, yu (yu X.1.2 s A) s B), X.2) = _
  rw [this]
theorem yss_p (X : yX) (s : Nat) (A B : yS) (P : yP) : yss (ysp (yss X s A) P) s B = yss (ysp X P) s B := yss_yss (ysp X P) s A B
theorem ytr_A {T : yT} {n : Int32} {s i : Nat} {X : yX} (hp : ypl (gp (yxs X s)) i = false) (h : yob T X.1.1 i n 1 = 0) : ytr T n s i X = yno (yss (ysp X (ych T X.1.1 i n 1)) s (yDn (gpS (yxs X s) (ysd (gp (yxs X s)) i)) i n)) (1, s, i) := by
  unfold ytr
  simp only [hp, Bool.false_eq_true, if_false]
  rw [if_pos h]
theorem ytr_B {T : yT} {n r : Int32} {s i : Nat} {X : yX} (hr : (if ypl (gp (yxs X s)) i then 1 else yob T X.1.1 i n 1) = r) (h0 : ¬ r = 0) : ytr T n s i X =
    if ypa T (gm (yxs X s) 1) = true ∧ ¬ gf (yxs X s) i + 1 < nI 3 then yen (yno (yss X s (yfS (gpS (yxs X s) (ysd (gp (yxs X s)) i)) i r (ypa T (gm (yxs X s) 1)))) (2, s, i)) s 5
    else yno (yss X s (yfS (gpS (yxs X s) (ysd (gp (yxs X s)) i)) i r (ypa T (gm (yxs X s) 1)))) (2, s, i) := by
  subst hr
  unfold ytr
  simp only []
  rw [if_neg h0]
theorem yfS_f (S : yS) (i : Nat) (r : Int32) (p : Bool) : gf (yfS S i r p) = yu (gf S) i (gf S i + 1) := by
  unfold yfS; cases p <;> rfl
theorem yun_A {T : yT} {s i : Nat} {t : List Nat} {X : yX} (hg : go (yxs X s) = i :: t) (hp : ypl (gq (yxs X s)) i = false) (h : yob T X.1.1 i (gb (yxs X s) i) (-1) = 0) : yun T s X = yno (yss (ysp X (ych T X.1.1 i (gb (yxs X s) i) (-1))) s (goS (gdS (gqS (yxs X s) (ysd (gq (yxs X s)) i)) (yu (gd (yxs X s)) i 2)) t)) (3, s, i) := by
  unfold yun
  simp only [hg, hp, Bool.false_eq_true, if_false]
  rw [if_pos h]
  rfl
theorem yun_B {T : yT} {s i : Nat} {r : Int32} {t : List Nat} {X : yX} (hg : go (yxs X s) = i :: t) (hr : (if ypl (gq (yxs X s)) i then 1 else yob T X.1.1 i (gb (yxs X s) i) (-1)) = r) (h0 : ¬ r = 0) : yun T s X = yno (yss X s (gwS (goS (gdS (gqS (yxs X s) (ysd (gq (yxs X s)) i)) (yu (gd (yxs X s)) i 3)) t) (yu (gw (yxs X s)) i r))) (4, s, i) := by
  subst hr
  unfold yun
  simp only [hg]
  rw [if_neg h0]
  rfl
theorem d72_0 : decode (zB 72) 0 = .ok (.aload_n 2, 1) := by decide +kernel
theorem d72_1 : decode (zB 72) 1 = .ok (.iload_n 3, 1) := by decide +kernel
theorem d72_2 : decode (zB 72) 2 = .ok (.iconst 1, 1) := by decide +kernel
theorem d72_3 : decode (zB 72) 3 = .ok (.invokevirtual 102, 3) := by decide +kernel
theorem d72_6 : decode (zB 72) 6 = .ok (.istore 4, 2) := by decide +kernel
theorem d72_8 : decode (zB 72) 8 = .ok (.aload_n 2, 1) := by decide +kernel
theorem d72_9 : decode (zB 72) 9 = .ok (.getfield 106, 3) := by decide +kernel
theorem d72_12 : decode (zB 72) 12 = .ok (.iload_n 3, 1) := by decide +kernel
theorem d72_13 : decode (zB 72) 13 = .ok (.invokestatic 109, 3) := by decide +kernel
theorem d72_16 : decode (zB 72) 16 = .ok (.istore 5, 2) := by decide +kernel
theorem d72_18 : decode (zB 72) 18 = .ok (.iload 5, 2) := by decide +kernel
theorem d72_20 : decode (zB 72) 20 = .ok (.ifCond .ne 20, 3) := by decide +kernel
theorem d72_23 : decode (zB 72) 23 = .ok (.aload_n 0, 1) := by decide +kernel
theorem d72_24 : decode (zB 72) 24 = .ok (.getfield 12, 3) := by decide +kernel
theorem d72_27 : decode (zB 72) 27 = .ok (.aload_n 2, 1) := by decide +kernel
theorem d72_28 : decode (zB 72) 28 = .ok (.getfield 113, 3) := by decide +kernel
theorem d72_31 : decode (zB 72) 31 = .ok (.iload_n 3, 1) := by decide +kernel
theorem d72_32 : decode (zB 72) 32 = .ok (.iload 4, 2) := by decide +kernel
theorem d72_34 : decode (zB 72) 34 = .ok (.iconst 1, 1) := by decide +kernel
theorem d72_35 : decode (zB 72) 35 = .ok (.invokevirtual 117, 3) := by decide +kernel
theorem d72_38 : decode (zB 72) 38 = .ok (.istore 5, 2) := by decide +kernel
theorem d72_40 : decode (zB 72) 40 = .ok (.iload 5, 2) := by decide +kernel
theorem d72_42 : decode (zB 72) 42 = .ok (.ifCond .ne 34, 3) := by decide +kernel
theorem d72_45 : decode (zB 72) 45 = .ok (.aload_n 0, 1) := by decide +kernel
theorem d72_46 : decode (zB 72) 46 = .ok (.getfield 12, 3) := by decide +kernel
theorem d72_49 : decode (zB 72) 49 = .ok (.aload_n 2, 1) := by decide +kernel
theorem d72_50 : decode (zB 72) 50 = .ok (.getfield 113, 3) := by decide +kernel
theorem d72_53 : decode (zB 72) 53 = .ok (.iload_n 3, 1) := by decide +kernel
theorem d72_54 : decode (zB 72) 54 = .ok (.iload 4, 2) := by decide +kernel
theorem d72_56 : decode (zB 72) 56 = .ok (.iconst 1, 1) := by decide +kernel
theorem d72_57 : decode (zB 72) 57 = .ok (.invokevirtual 121, 3) := by decide +kernel
theorem d72_60 : decode (zB 72) 60 = .ok (.aload_n 2, 1) := by decide +kernel
theorem d72_61 : decode (zB 72) 61 = .ok (.iload_n 3, 1) := by decide +kernel
theorem d72_62 : decode (zB 72) 62 = .ok (.invokevirtual 125, 3) := by decide +kernel
theorem d72_65 : decode (zB 72) 65 = .ok (.aload_n 0, 1) := by decide +kernel
theorem d72_66 : decode (zB 72) 66 = .ok (.getfield 28, 3) := by decide +kernel
theorem d72_69 : decode (zB 72) 69 = .ok (.iconst 1, 1) := by decide +kernel
theorem d72_70 : decode (zB 72) 70 = .ok (.iload_n 1, 1) := by decide +kernel
theorem d72_71 : decode (zB 72) 71 = .ok (.iload_n 3, 1) := by decide +kernel
theorem d72_72 : decode (zB 72) 72 = .ok (.invokevirtual 129, 3) := by decide +kernel
theorem d72_75 : decode (zB 72) 75 = .ok (.return_, 1) := by decide +kernel
theorem d72_76 : decode (zB 72) 76 = .ok (.aload_n 2, 1) := by decide +kernel
theorem d72_77 : decode (zB 72) 77 = .ok (.iload_n 3, 1) := by decide +kernel
theorem d72_78 : decode (zB 72) 78 = .ok (.iload 5, 2) := by decide +kernel
theorem d72_80 : decode (zB 72) 80 = .ok (.invokevirtual 135, 3) := by decide +kernel
theorem d72_83 : decode (zB 72) 83 = .ok (.aload_n 0, 1) := by decide +kernel
theorem d72_84 : decode (zB 72) 84 = .ok (.getfield 28, 3) := by decide +kernel
theorem d72_87 : decode (zB 72) 87 = .ok (.iconst 2, 1) := by decide +kernel
theorem d72_88 : decode (zB 72) 88 = .ok (.iload_n 1, 1) := by decide +kernel
theorem d72_89 : decode (zB 72) 89 = .ok (.iload_n 3, 1) := by decide +kernel
theorem d72_90 : decode (zB 72) 90 = .ok (.invokevirtual 129, 3) := by decide +kernel
theorem d72_93 : decode (zB 72) 93 = .ok (.aload_n 2, 1) := by decide +kernel
theorem d72_94 : decode (zB 72) 94 = .ok (.getfield 65, 3) := by decide +kernel
theorem d72_97 : decode (zB 72) 97 = .ok (.iconst 1, 1) := by decide +kernel
theorem d72_98 : decode (zB 72) 98 = .ok (.if_icmp .ne 18, 3) := by decide +kernel
theorem d72_101 : decode (zB 72) 101 = .ok (.aload_n 2, 1) := by decide +kernel
theorem d72_102 : decode (zB 72) 102 = .ok (.iload_n 3, 1) := by decide +kernel
theorem d72_103 : decode (zB 72) 103 = .ok (.invokevirtual 139, 3) := by decide +kernel
theorem d72_106 : decode (zB 72) 106 = .ok (.ifCond .eq 10, 3) := by decide +kernel
theorem d72_109 : decode (zB 72) 109 = .ok (.aload_n 0, 1) := by decide +kernel
theorem d72_110 : decode (zB 72) 110 = .ok (.iload_n 1, 1) := by decide +kernel
theorem d72_111 : decode (zB 72) 111 = .ok (.aload_n 2, 1) := by decide +kernel
theorem d72_112 : decode (zB 72) 112 = .ok (.iconst 5, 1) := by decide +kernel
theorem d72_113 : decode (zB 72) 113 = .ok (.invokevirtual 99, 3) := by decide +kernel
theorem d72_116 : decode (zB 72) 116 = .ok (.return_, 1) := by decide +kernel
theorem c72 {d : Nat} {M : zM} {Q : Option Value → zM → Prop} {lo w u j c : Nat} {T : Nat → yT} {nm : Nat → Nat → Int32} {X : yX} {s : Nat} {i : Nat} (hC : CW M lo w u j T c nm X) (hs3 : s < 3) (h1 : gt (yxs X s) = 1) (hi : i < tn (T (gx (yxs X s)))) (h0 : gd (yxs X s) i = 0) (hl : yln X.2 + 2 ≤ 240) (k : ∀ M', CW M' lo w u j T c nm (ytr (T (gx (yxs X s))) (nm s i) s i X) → Fi (FW lo) M M' → Q none M') : qC (d + 3) 72 [.ref w, .int (nI s), .ref (u + 3 + 8 * s), .int (nI i)] M Q := by
  refine qC_of (by decide) (Nat.le_of_ble_eq_true rfl) ?_
  have hC0 := hC
  obtain ⟨hS, hw, hT, hO, hR⟩ := hC
  have hwo := hS.wo hw
  have hsa := hw.sg hs3
  have hs := hS.sg hsa
  have hd := hw.d
  have hRs : RS M (u + 3 + 8 * s) T (nm s) (yxs X s) := hR.2.1 s hs3
  have hRs' := hRs
  have hOs : OKS T c (yxs X s) := hO.2.2 s hs3
  have hx : gx (yxs X s) < c := hOs.2.1 (by show gt (yxs X s) ≠ 0; omega)
  have hc6 := hO.1.1
  have ho := hO.1.2 _ hx
  have hn := ho.n
  have hz : gz T (yxs X s) = tn (T (gx (yxs X s))) := by unfold gz; rw [if_neg (by omega)]
  obtain ⟨⟨q0, q1, q2⟩, ⟨q3, q4, q5⟩, ⟨q7, q8⟩, q9, qa, qb⟩ := hRs
  have e2 : zr M (u + 3 + 8 * s) 2 = some (20 + 7 * gx (yxs X s)) := q2.trans (if_neg (by show ¬ gt (yxs X s) = 0; omega))
  have hlen : (go (yxs X s)).length < 12 := by
    have h2 := OKS_len (OKS_done (S := yxs X s) (n := 0) hOs (show i < gz T (yxs X s) by omega) h0) (show gz T (yxs X s) ≤ 12 by omega)
    have h3 : (go (yxs X s)).length + 1 ≤ gz T (yxs X s) := h2
    omega
  cases hpl : ypl (gp (yxs X s)) i with
  | true =>
    refine q_aload_n d72_0 rfl ?_
    refine q_iload_n d72_1 rfl ?_
    refine q_iconstN (z := 1) d72_2 ?_
    refine q_v2 d72_3 rfl rfl hs.1 (Nat.le_of_ble_eq_true rfl) (c73 hs (by omega) (q9 i (by omega)) ?_)
    refine q_istore d72_6 (by decide) rfl ?_
    refine q_aload_n d72_8 rfl ?_
    refine q_getr (c := 5) (f := 10) d72_9 ⟨rfl, rfl⟩ hs.1 (hs.2.2.1 2 (by decide)) ?_
    refine q_iload_n d72_12 rfl ?_
    refine q_s2 d72_13 (Or.inl rfl) rfl (Nat.le_of_ble_eq_true rfl) (c74t (hs.2.2.2 3 (by decide)) (by omega) (fun j hj => (qb j hj).1) hpl (fun M1 hp1 f1 => ?_))
    have g1 : Fi (FW lo) M M1 := f1.mono (fun b _ q => ⟨by omega, by omega⟩)
    have hRs1 : RS M1 (u + 3 + 8 * s) T (nm s) (gpS (yxs X s) (ysd (gp (yxs X s)) i)) := RS_gp hRs' hp1 f1
    have hC1 := hC0.up (X' := yss X s (gpS (yxs X s) (ysd (gp (yxs X s)) i))) (RW_sg hw hR hs3 hRs1 (f1.mono (fun b _ q => FS_x (by omega) (by omega))).fr) (OKW_ss hO (OKS_pl (S := yxs X s) hOs)) g1
    have hC1' := hC1
    obtain ⟨hS1, -, hT1, hO1, hR1⟩ := hC1
    have hwo1 := hS1.wo hw
    have hs1 := hS1.sg hsa
    have e21 : zr M1 (u + 3 + 8 * s) 2 = some (20 + 7 * gx (yxs X s)) := (f1.r _ _).trans e2
    refine q_istore d72_16 (by decide) rfl ?_
    refine q_iload d72_18 rfl ?_
    refine n0_ne 40 d72_20 (by decide) (by decide) (fun _ => ?_) (fun q => absurd q (by decide))
    refine q_iload d72_40 rfl ?_
    refine n0_ne 76 d72_42 (by decide) (by decide) (fun _ => ?_) (fun q => absurd q (by decide))
    refine q_aload_n d72_76 rfl ?_
    refine q_iload_n d72_77 rfl ?_
    refine q_iload d72_78 rfl ?_
    refine q_v2 d72_80 rfl rfl hs1.1 (Nat.le_of_ble_eq_true rfl) (c76 hs1 hRs1 (by omega) (show ¬ gt (yxs X s) = 0 by omega) (hS1.pr (show gx (yxs X s) < 6 by omega)) (hT1 _ hx) (show 20 + 7 * gx (yxs X s) + 6 ≤ u + 3 + 8 * s by omega) (fun M2 hR2s f2 => ?_))
    have g2 : Fi (FW lo) M1 M2 := f2.mono (Fb_m (by omega) (by omega))
    have hR2 := RW_sg hw hR1 hs3 hR2s f2.fr
    rw [yss_yss] at hR2
    have hC2 := hC1'.up (X' := yss X s (yfS (gpS (yxs X s) (ysd (gp (yxs X s)) i)) i (nI 1) (ypa (T (gx (yxs X s))) (gm (yxs X s) 1)))) hR2 (OKW_ss hO (OKS_fS (S := (gpS (yxs X s) (ysd (gp (yxs X s)) i))) hOs (show gt (yxs X s) ≠ 0 by omega))) g2
    have hC2' := hC2
    obtain ⟨hS2, -, hT2, hO2, hR2⟩ := hC2
    have hwo2 := hS2.wo hw
    have hs2 := hS2.sg hsa
    have e22 : zr M2 (u + 3 + 8 * s) 2 = some (20 + 7 * gx (yxs X s)) := (f2.r _ _).trans e21
    have hjk2 : zk M2 j = (0, 0) := by
      obtain ⟨_, _, _, h1, h2, _⟩ := hS2
      rcases hw with ⟨-, -, -, rfl⟩ | ⟨-, -, -, rfl⟩
      · exact h1.1
      · exact h2.1
    refine q_aload_n d72_83 rfl ?_
    refine q_getr (c := 6) (f := 1) d72_84 ⟨rfl, rfl⟩ hwo2.1 hwo2.2.2.1 ?_
    refine q_iconstN (z := 2) d72_87 ?_
    refine q_iload_n d72_88 rfl ?_
    refine q_iload_n d72_89 rfl ?_
    refine q_v3 d72_90 rfl rfl hjk2 (Nat.le_of_ble_eq_true rfl) (c65 hS2 hR2.2.2 (by show yln X.2 + 1 ≤ 240; omega) (fun M3 hJ3 f3 => ?_))
    have g3 : Fi (FW lo) M2 M3 := f3.mono (Fb_m (by omega) (by omega))
    have hC3 := hC2'.up (X' := yno (yss X s (yfS (gpS (yxs X s) (ysd (gp (yxs X s)) i)) i (nI 1) (ypa (T (gx (yxs X s))) (gm (yxs X s) 1)))) (2, s, i)) (RW_lg hw hR2 hJ3 f3.fr) hO2 g3
    have hs3' := hC3.1.sg hsa
    have hR3s : RS M3 (u + 3 + 8 * s) T (nm s) (yfS (gpS (yxs X s) (ysd (gp (yxs X s)) i)) i (nI 1) (ypa (T (gx (yxs X s))) (gm (yxs X s) 1))) := RS_fr hR2s f3.fr (fun b k h1 h2 q => by have := q.2; omega)
    have qg : zi M3 (u + 3 + 8 * s) 0 = nI (gt (yfS (gpS (yxs X s) (ysd (gp (yxs X s)) i)) i (nI 1) (ypa (T (gx (yxs X s))) (gm (yxs X s) 1)))) := hR3s.1.1
    have qf : zi M3 (u + 3 + 8 * s + 6) i = gf (yxs X s) i + 1 := ((hR3s.2.2.2.2.2 i (by omega)).2.2.1).trans (by rw [yfS_f, yu_s]; rfl)
    have hgt := (yfS_d (gpS (yxs X s) (ysd (gp (yxs X s)) i)) i (nI 1) (ypa (T (gx (yxs X s))) (gm (yxs X s) 1))).2.2
    have hgs : gt (gpS (yxs X s) (ysd (gp (yxs X s)) i)) = 1 := h1
    rw [hgs] at hgt
    have hg3 : gt (yxs (yno (yss X s (yfS (gpS (yxs X s) (ysd (gp (yxs X s)) i)) i (nI 1) (ypa (T (gx (yxs X s))) (gm (yxs X s) 1)))) (2, s, i)) s) ≠ 0 := by
      show gt (yu X.1.2 s (yfS (gpS (yxs X s) (ysd (gp (yxs X s)) i)) i (nI 1) (ypa (T (gx (yxs X s))) (gm (yxs X s) 1))) s) ≠ 0
      rw [yu_s, hgt]; split <;> omega
    have hb5 : gt (yfS (gpS (yxs X s) (ysd (gp (yxs X s)) i)) i (nI 1) (ypa (T (gx (yxs X s))) (gm (yxs X s) 1))) < 2147483648 := by rw [hgt]; split <;> omega
    have hl3 : yln (yno (yss X s (yfS (gpS (yxs X s) (ysd (gp (yxs X s)) i)) i (nI 1) (ypa (T (gx (yxs X s))) (gm (yxs X s) 1)))) (2, s, i)).2 + 1 ≤ 240 := by have := yln_lg X.2 (2, s, i); show yln (ylg X.2 (2, s, i)) + 1 ≤ 240; omega
    rw [ytr_B (r := (nI 1)) (by rw [hpl]; rfl) (by decide)] at k
    refine q_aload_n d72_93 rfl ?_
    refine q_getv (c := 5) (f := 0) d72_94 ⟨rfl, by decide⟩ hs3'.1 qg ?_
    refine q_iconstN (z := 1) d72_97 ?_
    refine nc_ne 116 d72_98 (by decide) (by omega) (by omega) (fun h98 => ?_) (fun h98 => ?_)
    · refine q_ret d72_116 rfl ?_
      first
      | (rw [if_pos ⟨by by_cases e : ypa (T (gx (yxs X s))) (gm (yxs X s) 1) = true; exact e; (rw [if_neg e] at hgt; omega), of_decide_eq_true h106⟩] at k; exact k _ hC4 (((g1.trans g2).trans g3).trans f4))
      | (rw [if_neg (fun q => absurd q.2 (of_decide_eq_false h106))] at k; exact k _ hC3 ((g1.trans g2).trans g3))
      | (rw [if_neg (fun q => by rw [if_pos q.1] at hgt; exact h98 hgt)] at k; exact k _ hC3 ((g1.trans g2).trans g3))
    · refine q_aload_n d72_101 rfl ?_
      refine q_iload_n d72_102 rfl ?_
      refine q_v1 d72_103 rfl rfl hs3'.1 (Nat.le_of_ble_eq_true rfl) (c78 hs3' (by omega) qf ?_)
      refine b0_eq 116 d72_106 (by decide) (fun h106 => ?_) (fun h106 => ?_)
      · refine q_ret d72_116 rfl ?_
        first
        | (rw [if_pos ⟨by by_cases e : ypa (T (gx (yxs X s))) (gm (yxs X s) 1) = true; exact e; (rw [if_neg e] at hgt; omega), of_decide_eq_true h106⟩] at k; exact k _ hC4 (((g1.trans g2).trans g3).trans f4))
        | (rw [if_neg (fun q => absurd q.2 (of_decide_eq_false h106))] at k; exact k _ hC3 ((g1.trans g2).trans g3))
        | (rw [if_neg (fun q => by rw [if_pos q.1] at hgt; exact h98 hgt)] at k; exact k _ hC3 ((g1.trans g2).trans g3))
      · refine q_aload_n d72_109 rfl ?_
        refine q_iload_n d72_110 rfl ?_
        refine q_aload_n d72_111 rfl ?_
        refine q_iconstN (z := 5) d72_112 ?_
        refine q_v3 d72_113 rfl rfl (hC3.1.wo hw).1 (Nat.le_of_ble_eq_true rfl) (c79 hC3 hs3 hg3 (by decide) (by decide) hl3 (fun M4 hC4 f4 => ?_))
        refine q_ret d72_116 rfl ?_
        first
        | (rw [if_pos ⟨by by_cases e : ypa (T (gx (yxs X s))) (gm (yxs X s) 1) = true; exact e; (rw [if_neg e] at hgt; omega), of_decide_eq_true h106⟩] at k; exact k _ hC4 (((g1.trans g2).trans g3).trans f4))
        | (rw [if_neg (fun q => absurd q.2 (of_decide_eq_false h106))] at k; exact k _ hC3 ((g1.trans g2).trans g3))
        | (rw [if_neg (fun q => by rw [if_pos q.1] at hgt; exact h98 hgt)] at k; exact k _ hC3 ((g1.trans g2).trans g3))
  | false =>
    refine q_aload_n d72_0 rfl ?_
    refine q_iload_n d72_1 rfl ?_
    refine q_iconstN (z := 1) d72_2 ?_
    refine q_v2 d72_3 rfl rfl hs.1 (Nat.le_of_ble_eq_true rfl) (c73 hs (by omega) (q9 i (by omega)) ?_)
    refine q_istore d72_6 (by decide) rfl ?_
    refine q_aload_n d72_8 rfl ?_
    refine q_getr (c := 5) (f := 10) d72_9 ⟨rfl, rfl⟩ hs.1 (hs.2.2.1 2 (by decide)) ?_
    refine q_iload_n d72_12 rfl ?_
    refine q_s2 d72_13 (Or.inl rfl) rfl (Nat.le_of_ble_eq_true rfl) (c74f (hs.2.2.2 3 (by decide)) (by omega) (fun j hj => (qb j hj).1) hpl (fun M1 hp1 f1 => ?_))
    have g1 : Fi (FW lo) M M1 := f1.mono (fun b _ q => ⟨by omega, by omega⟩)
    have hRs1 : RS M1 (u + 3 + 8 * s) T (nm s) (gpS (yxs X s) (ysd (gp (yxs X s)) i)) := RS_gp hRs' hp1 f1
    have hC1 := hC0.up (X' := yss X s (gpS (yxs X s) (ysd (gp (yxs X s)) i))) (RW_sg hw hR hs3 hRs1 (f1.mono (fun b _ q => FS_x (by omega) (by omega))).fr) (OKW_ss hO (OKS_pl (S := yxs X s) hOs)) g1
    have hC1' := hC1
    obtain ⟨hS1, -, hT1, hO1, hR1⟩ := hC1
    have hwo1 := hS1.wo hw
    have hs1 := hS1.sg hsa
    have e21 : zr M1 (u + 3 + 8 * s) 2 = some (20 + 7 * gx (yxs X s)) := (f1.r _ _).trans e2
    refine q_istore d72_16 (by decide) rfl ?_
    refine q_iload d72_18 rfl ?_
    refine n0_ne 40 d72_20 (by decide) (by decide) (fun q => absurd q (by decide)) (fun _ => ?_)
    refine q_aload_n d72_23 rfl ?_
    refine q_getr (c := 6) (f := 2) d72_24 ⟨rfl, rfl⟩ hwo1.1 hwo1.2.2.2.1 ?_
    refine q_aload_n d72_27 rfl ?_
    refine q_getr (c := 5) (f := 2) d72_28 ⟨rfl, rfl⟩ hs1.1 e21 ?_
    refine q_iload_n d72_31 rfl ?_
    refine q_iload d72_32 rfl ?_
    refine q_iconstN (z := 1) d72_34 ?_
    refine q_v4 d72_35 rfl rfl (hS1.pu hw).1 (Nat.le_of_ble_eq_true rfl) (c46 (P := X.1.1) (hS1.pu hw) hR1.1 (hS1.pr (by omega)) (hT1 _ hx) ho hi ?_)
    refine q_istore d72_38 (by decide) rfl ?_
    refine q_iload d72_40 rfl ?_
    refine i0_ne 76 d72_42 (by decide) (fun h42 => ?_) (fun h42 => ?_)
    · refine q_aload_n d72_76 rfl ?_
      refine q_iload_n d72_77 rfl ?_
      refine q_iload d72_78 rfl ?_
      refine q_v2 d72_80 rfl rfl hs1.1 (Nat.le_of_ble_eq_true rfl) (c76 hs1 hRs1 (by omega) (show ¬ gt (yxs X s) = 0 by omega) (hS1.pr (show gx (yxs X s) < 6 by omega)) (hT1 _ hx) (show 20 + 7 * gx (yxs X s) + 6 ≤ u + 3 + 8 * s by omega) (fun M2 hR2s f2 => ?_))
      have g2 : Fi (FW lo) M1 M2 := f2.mono (Fb_m (by omega) (by omega))
      have hR2 := RW_sg hw hR1 hs3 hR2s f2.fr
      rw [yss_yss] at hR2
      have hC2 := hC1'.up (X' := yss X s (yfS (gpS (yxs X s) (ysd (gp (yxs X s)) i)) i (yob (T (gx (yxs X s))) X.1.1 i (nm s i) 1) (ypa (T (gx (yxs X s))) (gm (yxs X s) 1)))) hR2 (OKW_ss hO (OKS_fS (S := (gpS (yxs X s) (ysd (gp (yxs X s)) i))) hOs (show gt (yxs X s) ≠ 0 by omega))) g2
      have hC2' := hC2
      obtain ⟨hS2, -, hT2, hO2, hR2⟩ := hC2
      have hwo2 := hS2.wo hw
      have hs2 := hS2.sg hsa
      have e22 : zr M2 (u + 3 + 8 * s) 2 = some (20 + 7 * gx (yxs X s)) := (f2.r _ _).trans e21
      have hjk2 : zk M2 j = (0, 0) := by
        obtain ⟨_, _, _, h1, h2, _⟩ := hS2
        rcases hw with ⟨-, -, -, rfl⟩ | ⟨-, -, -, rfl⟩
        · exact h1.1
        · exact h2.1
      refine q_aload_n d72_83 rfl ?_
      refine q_getr (c := 6) (f := 1) d72_84 ⟨rfl, rfl⟩ hwo2.1 hwo2.2.2.1 ?_
      refine q_iconstN (z := 2) d72_87 ?_
      refine q_iload_n d72_88 rfl ?_
      refine q_iload_n d72_89 rfl ?_
      refine q_v3 d72_90 rfl rfl hjk2 (Nat.le_of_ble_eq_true rfl) (c65 hS2 hR2.2.2 (by show yln X.2 + 1 ≤ 240; omega) (fun M3 hJ3 f3 => ?_))
      have g3 : Fi (FW lo) M2 M3 := f3.mono (Fb_m (by omega) (by omega))
      have hC3 := hC2'.up (X' := yno (yss X s (yfS (gpS (yxs X s) (ysd (gp (yxs X s)) i)) i (yob (T (gx (yxs X s))) X.1.1 i (nm s i) 1) (ypa (T (gx (yxs X s))) (gm (yxs X s) 1)))) (2, s, i)) (RW_lg hw hR2 hJ3 f3.fr) hO2 g3
      have hs3' := hC3.1.sg hsa
      have hR3s : RS M3 (u + 3 + 8 * s) T (nm s) (yfS (gpS (yxs X s) (ysd (gp (yxs X s)) i)) i (yob (T (gx (yxs X s))) X.1.1 i (nm s i) 1) (ypa (T (gx (yxs X s))) (gm (yxs X s) 1))) := RS_fr hR2s f3.fr (fun b k h1 h2 q => by have := q.2; omega)
      have qg : zi M3 (u + 3 + 8 * s) 0 = nI (gt (yfS (gpS (yxs X s) (ysd (gp (yxs X s)) i)) i (yob (T (gx (yxs X s))) X.1.1 i (nm s i) 1) (ypa (T (gx (yxs X s))) (gm (yxs X s) 1)))) := hR3s.1.1
      have qf : zi M3 (u + 3 + 8 * s + 6) i = gf (yxs X s) i + 1 := ((hR3s.2.2.2.2.2 i (by omega)).2.2.1).trans (by rw [yfS_f, yu_s]; rfl)
      have hgt := (yfS_d (gpS (yxs X s) (ysd (gp (yxs X s)) i)) i (yob (T (gx (yxs X s))) X.1.1 i (nm s i) 1) (ypa (T (gx (yxs X s))) (gm (yxs X s) 1))).2.2
      have hgs : gt (gpS (yxs X s) (ysd (gp (yxs X s)) i)) = 1 := h1
      rw [hgs] at hgt
      have hg3 : gt (yxs (yno (yss X s (yfS (gpS (yxs X s) (ysd (gp (yxs X s)) i)) i (yob (T (gx (yxs X s))) X.1.1 i (nm s i) 1) (ypa (T (gx (yxs X s))) (gm (yxs X s) 1)))) (2, s, i)) s) ≠ 0 := by
        show gt (yu X.1.2 s (yfS (gpS (yxs X s) (ysd (gp (yxs X s)) i)) i (yob (T (gx (yxs X s))) X.1.1 i (nm s i) 1) (ypa (T (gx (yxs X s))) (gm (yxs X s) 1))) s) ≠ 0
        rw [yu_s, hgt]; split <;> omega
      have hb5 : gt (yfS (gpS (yxs X s) (ysd (gp (yxs X s)) i)) i (yob (T (gx (yxs X s))) X.1.1 i (nm s i) 1) (ypa (T (gx (yxs X s))) (gm (yxs X s) 1))) < 2147483648 := by rw [hgt]; split <;> omega
      have hl3 : yln (yno (yss X s (yfS (gpS (yxs X s) (ysd (gp (yxs X s)) i)) i (yob (T (gx (yxs X s))) X.1.1 i (nm s i) 1) (ypa (T (gx (yxs X s))) (gm (yxs X s) 1)))) (2, s, i)).2 + 1 ≤ 240 := by have := yln_lg X.2 (2, s, i); show yln (ylg X.2 (2, s, i)) + 1 ≤ 240; omega
      rw [ytr_B (r := (yob (T (gx (yxs X s))) X.1.1 i (nm s i) 1)) (by rw [hpl]; rfl) h42] at k
      refine q_aload_n d72_93 rfl ?_
      refine q_getv (c := 5) (f := 0) d72_94 ⟨rfl, by decide⟩ hs3'.1 qg ?_
      refine q_iconstN (z := 1) d72_97 ?_
      refine nc_ne 116 d72_98 (by decide) (by omega) (by omega) (fun h98 => ?_) (fun h98 => ?_)
      · refine q_ret d72_116 rfl ?_
        first
        | (rw [if_pos ⟨by by_cases e : ypa (T (gx (yxs X s))) (gm (yxs X s) 1) = true; exact e; (rw [if_neg e] at hgt; omega), of_decide_eq_true h106⟩] at k; exact k _ hC4 (((g1.trans g2).trans g3).trans f4))
        | (rw [if_neg (fun q => absurd q.2 (of_decide_eq_false h106))] at k; exact k _ hC3 ((g1.trans g2).trans g3))
        | (rw [if_neg (fun q => by rw [if_pos q.1] at hgt; exact h98 hgt)] at k; exact k _ hC3 ((g1.trans g2).trans g3))
      · refine q_aload_n d72_101 rfl ?_
        refine q_iload_n d72_102 rfl ?_
        refine q_v1 d72_103 rfl rfl hs3'.1 (Nat.le_of_ble_eq_true rfl) (c78 hs3' (by omega) qf ?_)
        refine b0_eq 116 d72_106 (by decide) (fun h106 => ?_) (fun h106 => ?_)
        · refine q_ret d72_116 rfl ?_
          first
          | (rw [if_pos ⟨by by_cases e : ypa (T (gx (yxs X s))) (gm (yxs X s) 1) = true; exact e; (rw [if_neg e] at hgt; omega), of_decide_eq_true h106⟩] at k; exact k _ hC4 (((g1.trans g2).trans g3).trans f4))
          | (rw [if_neg (fun q => absurd q.2 (of_decide_eq_false h106))] at k; exact k _ hC3 ((g1.trans g2).trans g3))
          | (rw [if_neg (fun q => by rw [if_pos q.1] at hgt; exact h98 hgt)] at k; exact k _ hC3 ((g1.trans g2).trans g3))
        · refine q_aload_n d72_109 rfl ?_
          refine q_iload_n d72_110 rfl ?_
          refine q_aload_n d72_111 rfl ?_
          refine q_iconstN (z := 5) d72_112 ?_
          refine q_v3 d72_113 rfl rfl (hC3.1.wo hw).1 (Nat.le_of_ble_eq_true rfl) (c79 hC3 hs3 hg3 (by decide) (by decide) hl3 (fun M4 hC4 f4 => ?_))
          refine q_ret d72_116 rfl ?_
          first
          | (rw [if_pos ⟨by by_cases e : ypa (T (gx (yxs X s))) (gm (yxs X s) 1) = true; exact e; (rw [if_neg e] at hgt; omega), of_decide_eq_true h106⟩] at k; exact k _ hC4 (((g1.trans g2).trans g3).trans f4))
          | (rw [if_neg (fun q => absurd q.2 (of_decide_eq_false h106))] at k; exact k _ hC3 ((g1.trans g2).trans g3))
          | (rw [if_neg (fun q => by rw [if_pos q.1] at hgt; exact h98 hgt)] at k; exact k _ hC3 ((g1.trans g2).trans g3))
    · refine q_aload_n d72_45 rfl ?_
      refine q_getr (c := 6) (f := 2) d72_46 ⟨rfl, rfl⟩ hwo1.1 hwo1.2.2.2.1 ?_
      refine q_aload_n d72_49 rfl ?_
      refine q_getr (c := 5) (f := 2) d72_50 ⟨rfl, rfl⟩ hs1.1 e21 ?_
      refine q_iload_n d72_53 rfl ?_
      refine q_iload d72_54 rfl ?_
      refine q_iconstN (z := 1) d72_56 ?_
      refine q_v4 d72_57 rfl rfl (hS1.pu hw).1 (Nat.le_of_ble_eq_true rfl) (c51 (P := X.1.1) (hS1.pu hw) hR1.1 (hS1.pr (by omega)) (hT1 _ hx) ho hi (by omega) (fun M2 hP2 f2 => ?_))
      have g2 : Fi (FW lo) M1 M2 := f2.mono (Fb_m (by omega) (by omega))
      have hC2 := hC1'.up (RW_pu hw hR1 hP2 f2.fr) ⟨hO1.1, OKP_ch ho hi hO1.2.1 h42, hO1.2.2⟩ g2
      have hC2' := hC2
      obtain ⟨hS2, -, hT2, hO2, hR2⟩ := hC2
      have hwo2 := hS2.wo hw
      have hs2 := hS2.sg hsa
      have hR2s := RS_fr hRs1 f2.fr (fun b k h1 h2 q => by have := q.2; omega)
      have e22 : zr M2 (u + 3 + 8 * s) 2 = some (20 + 7 * gx (yxs X s)) := (f2.r _ _).trans e21
      refine q_aload_n d72_60 rfl ?_
      refine q_iload_n d72_61 rfl ?_
      refine q_v1 d72_62 rfl rfl hs2.1 (Nat.le_of_ble_eq_true rfl) (c75 hs2 hR2s h0 (show i < gz T (yxs X s) by omega) (show gz T (yxs X s) ≤ 12 by omega) hlen (fun M3 hR3s f3 => ?_))
      have g3 : Fi (FW lo) M2 M3 := f3.mono (Fb_m (by omega) (by omega))
      have hR3 := RW_sg hw hR2 hs3 hR3s f3.fr
      rw [yss_p] at hR3
      have hC3 := hC2'.up hR3 (OKW_ss (X := ysp X _) ⟨hO1.1, hO2.2.1, hO.2.2⟩ (OKS_done (S := (gpS (yxs X s) (ysd (gp (yxs X s)) i))) hOs (show i < gz T (yxs X s) by omega) h0)) g3
      have hC3' := hC3
      obtain ⟨hS3, -, hT3, hO3, hR3⟩ := hC3
      have hwo3 := hS3.wo hw
      have hs3 := hS3.sg hsa
      have e23 : zr M3 (u + 3 + 8 * s) 2 = some (20 + 7 * gx (yxs X s)) := (f3.r _ _).trans e22
      have hjk3 : zk M3 j = (0, 0) := by
        obtain ⟨_, _, _, h1, h2, _⟩ := hS3
        rcases hw with ⟨-, -, -, rfl⟩ | ⟨-, -, -, rfl⟩
        · exact h1.1
        · exact h2.1
      refine q_aload_n d72_65 rfl ?_
      refine q_getr (c := 6) (f := 1) d72_66 ⟨rfl, rfl⟩ hwo3.1 hwo3.2.2.1 ?_
      refine q_iconstN (z := 1) d72_69 ?_
      refine q_iload_n d72_70 rfl ?_
      refine q_iload_n d72_71 rfl ?_
      refine q_v3 d72_72 rfl rfl hjk3 (Nat.le_of_ble_eq_true rfl) (c65 hS3 hR3.2.2 (by show yln X.2 + 1 ≤ 240; omega) (fun M4 hJ4 f4 => ?_))
      have g4 : Fi (FW lo) M3 M4 := f4.mono (Fb_m (by omega) (by omega))
      have hC4 := hC3'.up (RW_lg hw hR3 hJ4 f4.fr) hO3 g4
      rw [ytr_A hpl h42] at k
      refine q_ret d72_75 rfl ?_
      exact k _ hC4 (((g1.trans g2).trans g3).trans g4)
end
section
/-! ===== contracts: the way back ===== -/
theorem nI_m1 {i : Nat} (h : i < 2147483648) : ¬ nI i = -1 := by
  intro e
  have h1 := congrArg Int32.toInt e
  rw [nI_toInt h, show (-1 : Int32).toInt = -1 from rfl] at h1
  omega
theorem yun_N {T : yT} {s : Nat} {X : yX} (hg : go (yxs X s) = []) : yun T s X = X := by
  unfold yun
  simp only [hg]
theorem d83_0 : decode (zB 83) 0 = .ok (.aload_n 2, 1) := by decide +kernel
theorem d83_1 : decode (zB 83) 1 = .ok (.iload_n 3, 1) := by decide +kernel
theorem d83_2 : decode (zB 83) 2 = .ok (.iconst (-1), 1) := by decide +kernel
theorem d83_3 : decode (zB 83) 3 = .ok (.invokevirtual 102, 3) := by decide +kernel
theorem d83_6 : decode (zB 83) 6 = .ok (.istore 4, 2) := by decide +kernel
theorem d83_8 : decode (zB 83) 8 = .ok (.aload_n 2, 1) := by decide +kernel
theorem d83_9 : decode (zB 83) 9 = .ok (.getfield 148, 3) := by decide +kernel
theorem d83_12 : decode (zB 83) 12 = .ok (.iload_n 3, 1) := by decide +kernel
theorem d83_13 : decode (zB 83) 13 = .ok (.invokestatic 109, 3) := by decide +kernel
theorem d83_16 : decode (zB 83) 16 = .ok (.istore 5, 2) := by decide +kernel
theorem d83_18 : decode (zB 83) 18 = .ok (.iload 5, 2) := by decide +kernel
theorem d83_20 : decode (zB 83) 20 = .ok (.ifCond .ne 20, 3) := by decide +kernel
theorem d83_23 : decode (zB 83) 23 = .ok (.aload_n 0, 1) := by decide +kernel
theorem d83_24 : decode (zB 83) 24 = .ok (.getfield 12, 3) := by decide +kernel
theorem d83_27 : decode (zB 83) 27 = .ok (.aload_n 2, 1) := by decide +kernel
theorem d83_28 : decode (zB 83) 28 = .ok (.getfield 113, 3) := by decide +kernel
theorem d83_31 : decode (zB 83) 31 = .ok (.iload_n 3, 1) := by decide +kernel
theorem d83_32 : decode (zB 83) 32 = .ok (.iload 4, 2) := by decide +kernel
theorem d83_34 : decode (zB 83) 34 = .ok (.iconst (-1), 1) := by decide +kernel
theorem d83_35 : decode (zB 83) 35 = .ok (.invokevirtual 117, 3) := by decide +kernel
theorem d83_38 : decode (zB 83) 38 = .ok (.istore 5, 2) := by decide +kernel
theorem d83_40 : decode (zB 83) 40 = .ok (.iload 5, 2) := by decide +kernel
theorem d83_42 : decode (zB 83) 42 = .ok (.ifCond .ne 34, 3) := by decide +kernel
theorem d83_45 : decode (zB 83) 45 = .ok (.aload_n 0, 1) := by decide +kernel
theorem d83_46 : decode (zB 83) 46 = .ok (.getfield 12, 3) := by decide +kernel
theorem d83_49 : decode (zB 83) 49 = .ok (.aload_n 2, 1) := by decide +kernel
theorem d83_50 : decode (zB 83) 50 = .ok (.getfield 113, 3) := by decide +kernel
theorem d83_53 : decode (zB 83) 53 = .ok (.iload_n 3, 1) := by decide +kernel
theorem d83_54 : decode (zB 83) 54 = .ok (.iload 4, 2) := by decide +kernel
theorem d83_56 : decode (zB 83) 56 = .ok (.iconst (-1), 1) := by decide +kernel
theorem d83_57 : decode (zB 83) 57 = .ok (.invokevirtual 121, 3) := by decide +kernel
theorem d83_60 : decode (zB 83) 60 = .ok (.aload_n 2, 1) := by decide +kernel
theorem d83_61 : decode (zB 83) 61 = .ok (.iload_n 3, 1) := by decide +kernel
theorem d83_62 : decode (zB 83) 62 = .ok (.invokevirtual 151, 3) := by decide +kernel
theorem d83_65 : decode (zB 83) 65 = .ok (.aload_n 0, 1) := by decide +kernel
theorem d83_66 : decode (zB 83) 66 = .ok (.getfield 28, 3) := by decide +kernel
theorem d83_69 : decode (zB 83) 69 = .ok (.iconst 3, 1) := by decide +kernel
theorem d83_70 : decode (zB 83) 70 = .ok (.iload_n 1, 1) := by decide +kernel
theorem d83_71 : decode (zB 83) 71 = .ok (.iload_n 3, 1) := by decide +kernel
theorem d83_72 : decode (zB 83) 72 = .ok (.invokevirtual 129, 3) := by decide +kernel
theorem d83_75 : decode (zB 83) 75 = .ok (.return_, 1) := by decide +kernel
theorem d83_76 : decode (zB 83) 76 = .ok (.aload_n 2, 1) := by decide +kernel
theorem d83_77 : decode (zB 83) 77 = .ok (.iload_n 3, 1) := by decide +kernel
theorem d83_78 : decode (zB 83) 78 = .ok (.iload 5, 2) := by decide +kernel
theorem d83_80 : decode (zB 83) 80 = .ok (.invokevirtual 154, 3) := by decide +kernel
theorem d83_83 : decode (zB 83) 83 = .ok (.aload_n 0, 1) := by decide +kernel
theorem d83_84 : decode (zB 83) 84 = .ok (.getfield 28, 3) := by decide +kernel
theorem d83_87 : decode (zB 83) 87 = .ok (.iconst 4, 1) := by decide +kernel
theorem d83_88 : decode (zB 83) 88 = .ok (.iload_n 1, 1) := by decide +kernel
theorem d83_89 : decode (zB 83) 89 = .ok (.iload_n 3, 1) := by decide +kernel
theorem d83_90 : decode (zB 83) 90 = .ok (.invokevirtual 129, 3) := by decide +kernel
theorem d83_93 : decode (zB 83) 93 = .ok (.return_, 1) := by decide +kernel
theorem c83 {d : Nat} {M : zM} {Q : Option Value → zM → Prop} {lo w u j c : Nat} {T : Nat → yT} {nm : Nat → Nat → Int32} {X : yX} {s : Nat} {i : Nat} {t : List Nat} (hC : CW M lo w u j T c nm X) (hs3 : s < 3) (h1 : gt (yxs X s) = 2) (hgo : go (yxs X s) = i :: t) (hl : yln X.2 + 1 ≤ 240) (k : ∀ M', CW M' lo w u j T c nm (yun (T (gx (yxs X s))) s X) → Fi (FW lo) M M' → Q none M') : qC (d + 3) 83 [.ref w, .int (nI s), .ref (u + 3 + 8 * s), .int (nI i)] M Q := by
  refine qC_of (by decide) (Nat.le_of_ble_eq_true rfl) ?_
  have hC0 := hC
  obtain ⟨hS, hw, hT, hO, hR⟩ := hC
  have hwo := hS.wo hw
  have hsa := hw.sg hs3
  have hs := hS.sg hsa
  have hd := hw.d
  have hRs : RS M (u + 3 + 8 * s) T (nm s) (yxs X s) := hR.2.1 s hs3
  have hRs' := hRs
  have hOs : OKS T c (yxs X s) := hO.2.2 s hs3
  have hx : gx (yxs X s) < c := hOs.2.1 (by show gt (yxs X s) ≠ 0; omega)
  have hc6 := hO.1.1
  have ho := hO.1.2 _ hx
  have hn := ho.n
  have hz : gz T (yxs X s) = tn (T (gx (yxs X s))) := by unfold gz; rw [if_neg (by omega)]
  obtain ⟨⟨q0, q1, q2⟩, ⟨q3, q4, q5⟩, ⟨q7, q8⟩, q9, qa, qb⟩ := hRs
  have e2 : zr M (u + 3 + 8 * s) 2 = some (20 + 7 * gx (yxs X s)) := q2.trans (if_neg (by show ¬ gt (yxs X s) = 0; omega))
  have hgd : gd (yxs X s) i = 1 := (hOs.2.2.2.1 i).mp (by rw [hgo]; exact List.mem_cons_self)
  have hi : i < tn (T (gx (yxs X s))) := Nat.lt_of_not_le (fun q => by have := hOs.2.2.2.2.1 i (by omega); omega)
  have hlen : (go (yxs X s)).length ≤ 12 := Nat.le_trans (OKS_len hOs (by omega)) (by omega)
  cases hpl : ypl (gq (yxs X s)) i with
  | true =>
    refine q_aload_n d83_0 rfl ?_
    refine q_iload_n d83_1 rfl ?_
    refine q_iconst (x := (-1)) d83_2 rfl ?_
    refine q_v2 d83_3 rfl rfl hs.1 (Nat.le_of_ble_eq_true rfl) (c73b hs (by omega) (qa i (by omega) hgd) ?_)
    refine q_istore d83_6 (by decide) rfl ?_
    refine q_aload_n d83_8 rfl ?_
    refine q_getr (c := 5) (f := 11) d83_9 ⟨rfl, rfl⟩ hs.1 (hs.2.2.1 3 (by decide)) ?_
    refine q_iload_n d83_12 rfl ?_
    refine q_s2 d83_13 (Or.inl rfl) rfl (Nat.le_of_ble_eq_true rfl) (c74t (hs.2.2.2 4 (by decide)) (by omega) (fun j hj => (qb j hj).2.1) hpl (fun M1 hp1 f1 => ?_))
    have g1 : Fi (FW lo) M M1 := f1.mono (fun b _ q => ⟨by omega, by omega⟩)
    have hRs1 : RS M1 (u + 3 + 8 * s) T (nm s) (gqS (yxs X s) (ysd (gq (yxs X s)) i)) := RS_gq hRs' hp1 f1
    have hC1 := hC0.up (X' := yss X s (gqS (yxs X s) (ysd (gq (yxs X s)) i))) (RW_sg hw hR hs3 hRs1 (f1.mono (fun b _ q => FS_x (by omega) (by omega))).fr) (OKW_ss hO hOs) g1
    have hC1' := hC1
    obtain ⟨hS1, -, hT1, hO1, hR1⟩ := hC1
    have hwo1 := hS1.wo hw
    have hs1 := hS1.sg hsa
    have e21 : zr M1 (u + 3 + 8 * s) 2 = some (20 + 7 * gx (yxs X s)) := (f1.r _ _).trans e2
    refine q_istore d83_16 (by decide) rfl ?_
    refine q_iload d83_18 rfl ?_
    refine n0_ne 40 d83_20 (by decide) (by decide) (fun _ => ?_) (fun q => absurd q (by decide))
    refine q_iload d83_40 rfl ?_
    refine n0_ne 76 d83_42 (by decide) (by decide) (fun _ => ?_) (fun q => absurd q (by decide))
    refine q_aload_n d83_76 rfl ?_
    refine q_iload_n d83_77 rfl ?_
    refine q_iload d83_78 rfl ?_
    refine q_v2 d83_80 rfl rfl hs1.1 (Nat.le_of_ble_eq_true rfl) (c86 hs1 hRs1 hgo hgd (by omega) hlen (fun M2 hR2s f2 => ?_))
    have g2 : Fi (FW lo) M1 M2 := f2.mono (Fb_m (by omega) (by omega))
    have hR2 := RW_sg hw hR1 hs3 hR2s f2.fr
    rw [yss_yss] at hR2
    have hC2 := hC1'.up (X' := yss X s (gwS (goS (gdS (gqS (yxs X s) (ysd (gq (yxs X s)) i)) (yu (gd (yxs X s)) i 3)) t) (yu (gw (yxs X s)) i (nI 1)))) hR2 (OKW_ss hO (OKS_undo (S := (gqS (yxs X s) (ysd (gq (yxs X s)) i))) hOs hgo (Or.inr rfl))) g2
    have hC2' := hC2
    obtain ⟨hS2, -, hT2, hO2, hR2⟩ := hC2
    have hwo2 := hS2.wo hw
    have hs2 := hS2.sg hsa
    have e22 : zr M2 (u + 3 + 8 * s) 2 = some (20 + 7 * gx (yxs X s)) := (f2.r _ _).trans e21
    have hjk2 : zk M2 j = (0, 0) := by
      obtain ⟨_, _, _, h1, h2, _⟩ := hS2
      rcases hw with ⟨-, -, -, rfl⟩ | ⟨-, -, -, rfl⟩
      · exact h1.1
      · exact h2.1
    refine q_aload_n d83_83 rfl ?_
    refine q_getr (c := 6) (f := 1) d83_84 ⟨rfl, rfl⟩ hwo2.1 hwo2.2.2.1 ?_
    refine q_iconstN (z := 4) d83_87 ?_
    refine q_iload_n d83_88 rfl ?_
    refine q_iload_n d83_89 rfl ?_
    refine q_v3 d83_90 rfl rfl hjk2 (Nat.le_of_ble_eq_true rfl) (c65 hS2 hR2.2.2 (by show yln X.2 + 1 ≤ 240; omega) (fun M3 hJ3 f3 => ?_))
    have g3 : Fi (FW lo) M2 M3 := f3.mono (Fb_m (by omega) (by omega))
    have hC3 := hC2'.up (RW_lg hw hR2 hJ3 f3.fr) hO2 g3
    rw [yun_B (r := (nI 1)) hgo (by rw [hpl]; rfl) (by decide)] at k
    refine q_ret d83_93 rfl ?_
    exact k _ hC3 ((g1.trans g2).trans g3)
  | false =>
    refine q_aload_n d83_0 rfl ?_
    refine q_iload_n d83_1 rfl ?_
    refine q_iconst (x := (-1)) d83_2 rfl ?_
    refine q_v2 d83_3 rfl rfl hs.1 (Nat.le_of_ble_eq_true rfl) (c73b hs (by omega) (qa i (by omega) hgd) ?_)
    refine q_istore d83_6 (by decide) rfl ?_
    refine q_aload_n d83_8 rfl ?_
    refine q_getr (c := 5) (f := 11) d83_9 ⟨rfl, rfl⟩ hs.1 (hs.2.2.1 3 (by decide)) ?_
    refine q_iload_n d83_12 rfl ?_
    refine q_s2 d83_13 (Or.inl rfl) rfl (Nat.le_of_ble_eq_true rfl) (c74f (hs.2.2.2 4 (by decide)) (by omega) (fun j hj => (qb j hj).2.1) hpl (fun M1 hp1 f1 => ?_))
    have g1 : Fi (FW lo) M M1 := f1.mono (fun b _ q => ⟨by omega, by omega⟩)
    have hRs1 : RS M1 (u + 3 + 8 * s) T (nm s) (gqS (yxs X s) (ysd (gq (yxs X s)) i)) := RS_gq hRs' hp1 f1
    have hC1 := hC0.up (X' := yss X s (gqS (yxs X s) (ysd (gq (yxs X s)) i))) (RW_sg hw hR hs3 hRs1 (f1.mono (fun b _ q => FS_x (by omega) (by omega))).fr) (OKW_ss hO hOs) g1
    have hC1' := hC1
    obtain ⟨hS1, -, hT1, hO1, hR1⟩ := hC1
    have hwo1 := hS1.wo hw
    have hs1 := hS1.sg hsa
    have e21 : zr M1 (u + 3 + 8 * s) 2 = some (20 + 7 * gx (yxs X s)) := (f1.r _ _).trans e2
    refine q_istore d83_16 (by decide) rfl ?_
    refine q_iload d83_18 rfl ?_
    refine n0_ne 40 d83_20 (by decide) (by decide) (fun q => absurd q (by decide)) (fun _ => ?_)
    refine q_aload_n d83_23 rfl ?_
    refine q_getr (c := 6) (f := 2) d83_24 ⟨rfl, rfl⟩ hwo1.1 hwo1.2.2.2.1 ?_
    refine q_aload_n d83_27 rfl ?_
    refine q_getr (c := 5) (f := 2) d83_28 ⟨rfl, rfl⟩ hs1.1 e21 ?_
    refine q_iload_n d83_31 rfl ?_
    refine q_iload d83_32 rfl ?_
    refine q_iconst (x := (-1)) d83_34 rfl ?_
    refine q_v4 d83_35 rfl rfl (hS1.pu hw).1 (Nat.le_of_ble_eq_true rfl) (c46 (P := X.1.1) (hS1.pu hw) hR1.1 (hS1.pr (by omega)) (hT1 _ hx) ho hi ?_)
    refine q_istore d83_38 (by decide) rfl ?_
    refine q_iload d83_40 rfl ?_
    refine i0_ne 76 d83_42 (by decide) (fun h42 => ?_) (fun h42 => ?_)
    · refine q_aload_n d83_76 rfl ?_
      refine q_iload_n d83_77 rfl ?_
      refine q_iload d83_78 rfl ?_
      refine q_v2 d83_80 rfl rfl hs1.1 (Nat.le_of_ble_eq_true rfl) (c86 hs1 hRs1 hgo hgd (by omega) hlen (fun M2 hR2s f2 => ?_))
      have g2 : Fi (FW lo) M1 M2 := f2.mono (Fb_m (by omega) (by omega))
      have hR2 := RW_sg hw hR1 hs3 hR2s f2.fr
      rw [yss_yss] at hR2
      have hC2 := hC1'.up (X' := yss X s (gwS (goS (gdS (gqS (yxs X s) (ysd (gq (yxs X s)) i)) (yu (gd (yxs X s)) i 3)) t) (yu (gw (yxs X s)) i (yob (T (gx (yxs X s))) X.1.1 i (gb (yxs X s) i) (-1))))) hR2 (OKW_ss hO (OKS_undo (S := (gqS (yxs X s) (ysd (gq (yxs X s)) i))) hOs hgo (Or.inr rfl))) g2
      have hC2' := hC2
      obtain ⟨hS2, -, hT2, hO2, hR2⟩ := hC2
      have hwo2 := hS2.wo hw
      have hs2 := hS2.sg hsa
      have e22 : zr M2 (u + 3 + 8 * s) 2 = some (20 + 7 * gx (yxs X s)) := (f2.r _ _).trans e21
      have hjk2 : zk M2 j = (0, 0) := by
        obtain ⟨_, _, _, h1, h2, _⟩ := hS2
        rcases hw with ⟨-, -, -, rfl⟩ | ⟨-, -, -, rfl⟩
        · exact h1.1
        · exact h2.1
      refine q_aload_n d83_83 rfl ?_
      refine q_getr (c := 6) (f := 1) d83_84 ⟨rfl, rfl⟩ hwo2.1 hwo2.2.2.1 ?_
      refine q_iconstN (z := 4) d83_87 ?_
      refine q_iload_n d83_88 rfl ?_
      refine q_iload_n d83_89 rfl ?_
      refine q_v3 d83_90 rfl rfl hjk2 (Nat.le_of_ble_eq_true rfl) (c65 hS2 hR2.2.2 (by show yln X.2 + 1 ≤ 240; omega) (fun M3 hJ3 f3 => ?_))
      have g3 : Fi (FW lo) M2 M3 := f3.mono (Fb_m (by omega) (by omega))
      have hC3 := hC2'.up (RW_lg hw hR2 hJ3 f3.fr) hO2 g3
      rw [yun_B (r := (yob (T (gx (yxs X s))) X.1.1 i (gb (yxs X s) i) (-1))) hgo (by rw [hpl]; rfl) h42] at k
      refine q_ret d83_93 rfl ?_
      exact k _ hC3 ((g1.trans g2).trans g3)
    · refine q_aload_n d83_45 rfl ?_
      refine q_getr (c := 6) (f := 2) d83_46 ⟨rfl, rfl⟩ hwo1.1 hwo1.2.2.2.1 ?_
      refine q_aload_n d83_49 rfl ?_
      refine q_getr (c := 5) (f := 2) d83_50 ⟨rfl, rfl⟩ hs1.1 e21 ?_
      refine q_iload_n d83_53 rfl ?_
      refine q_iload d83_54 rfl ?_
      refine q_iconst (x := (-1)) d83_56 rfl ?_
      refine q_v4 d83_57 rfl rfl (hS1.pu hw).1 (Nat.le_of_ble_eq_true rfl) (c51 (P := X.1.1) (hS1.pu hw) hR1.1 (hS1.pr (by omega)) (hT1 _ hx) ho hi (by omega) (fun M2 hP2 f2 => ?_))
      have g2 : Fi (FW lo) M1 M2 := f2.mono (Fb_m (by omega) (by omega))
      have hC2 := hC1'.up (RW_pu hw hR1 hP2 f2.fr) ⟨hO1.1, OKP_ch ho hi hO1.2.1 h42, hO1.2.2⟩ g2
      have hC2' := hC2
      obtain ⟨hS2, -, hT2, hO2, hR2⟩ := hC2
      have hwo2 := hS2.wo hw
      have hs2 := hS2.sg hsa
      have hR2s := RS_fr hRs1 f2.fr (fun b k h1 h2 q => by have := q.2; omega)
      have e22 : zr M2 (u + 3 + 8 * s) 2 = some (20 + 7 * gx (yxs X s)) := (f2.r _ _).trans e21
      refine q_aload_n d83_60 rfl ?_
      refine q_iload_n d83_61 rfl ?_
      refine q_v1 d83_62 rfl rfl hs2.1 (Nat.le_of_ble_eq_true rfl) (c84 hs2 hR2s hgo hgd (by omega) hlen (fun M3 hR3s f3 => ?_))
      have g3 : Fi (FW lo) M2 M3 := f3.mono (Fb_m (by omega) (by omega))
      have hR3 := RW_sg hw hR2 hs3 hR3s f3.fr
      rw [yss_p] at hR3
      have hC3 := hC2'.up (X' := yss (ysp X (ych (T (gx (yxs X s))) X.1.1 i (gb (yxs X s) i) (-1))) s (goS (gdS (gqS (yxs X s) (ysd (gq (yxs X s)) i)) (yu (gd (yxs X s)) i 2)) t)) hR3 (OKW_ss (X := ysp X _) ⟨hO1.1, hO2.2.1, hO.2.2⟩ (OKS_undo (S := (gqS (yxs X s) (ysd (gq (yxs X s)) i))) hOs hgo (Or.inl rfl))) g3
      have hC3' := hC3
      obtain ⟨hS3, -, hT3, hO3, hR3⟩ := hC3
      have hwo3 := hS3.wo hw
      have hs3 := hS3.sg hsa
      have e23 : zr M3 (u + 3 + 8 * s) 2 = some (20 + 7 * gx (yxs X s)) := (f3.r _ _).trans e22
      have hjk3 : zk M3 j = (0, 0) := by
        obtain ⟨_, _, _, h1, h2, _⟩ := hS3
        rcases hw with ⟨-, -, -, rfl⟩ | ⟨-, -, -, rfl⟩
        · exact h1.1
        · exact h2.1
      refine q_aload_n d83_65 rfl ?_
      refine q_getr (c := 6) (f := 1) d83_66 ⟨rfl, rfl⟩ hwo3.1 hwo3.2.2.1 ?_
      refine q_iconstN (z := 3) d83_69 ?_
      refine q_iload_n d83_70 rfl ?_
      refine q_iload_n d83_71 rfl ?_
      refine q_v3 d83_72 rfl rfl hjk3 (Nat.le_of_ble_eq_true rfl) (c65 hS3 hR3.2.2 (by show yln X.2 + 1 ≤ 240; omega) (fun M4 hJ4 f4 => ?_))
      have g4 : Fi (FW lo) M3 M4 := f4.mono (Fb_m (by omega) (by omega))
      have hC4 := hC3'.up (RW_lg hw hR3 hJ4 f4.fr) hO3 g4
      rw [yun_A hgo hpl h42] at k
      refine q_ret d83_75 rfl ?_
      exact k _ hC4 (((g1.trans g2).trans g3).trans g4)
theorem d81_0 : decode (zB 81) 0 = .ok (.aload_n 2, 1) := by decide +kernel
theorem d81_1 : decode (zB 81) 1 = .ok (.invokevirtual 142, 3) := by decide +kernel
theorem d81_4 : decode (zB 81) 4 = .ok (.istore_n 3, 1) := by decide +kernel
theorem d81_5 : decode (zB 81) 5 = .ok (.iload_n 3, 1) := by decide +kernel
theorem d81_6 : decode (zB 81) 6 = .ok (.iconst (-1), 1) := by decide +kernel
theorem d81_7 : decode (zB 81) 7 = .ok (.if_icmp .eq 10, 3) := by decide +kernel
theorem d81_10 : decode (zB 81) 10 = .ok (.aload_n 0, 1) := by decide +kernel
theorem d81_11 : decode (zB 81) 11 = .ok (.iload_n 1, 1) := by decide +kernel
theorem d81_12 : decode (zB 81) 12 = .ok (.aload_n 2, 1) := by decide +kernel
theorem d81_13 : decode (zB 81) 13 = .ok (.iload_n 3, 1) := by decide +kernel
theorem d81_14 : decode (zB 81) 14 = .ok (.invokevirtual 145, 3) := by decide +kernel
theorem d81_17 : decode (zB 81) 17 = .ok (.aload_n 2, 1) := by decide +kernel
theorem d81_18 : decode (zB 81) 18 = .ok (.getfield 68, 3) := by decide +kernel
theorem d81_21 : decode (zB 81) 21 = .ok (.ifCond .ne 10, 3) := by decide +kernel
theorem d81_24 : decode (zB 81) 24 = .ok (.aload_n 0, 1) := by decide +kernel
theorem d81_25 : decode (zB 81) 25 = .ok (.iload_n 1, 1) := by decide +kernel
theorem d81_26 : decode (zB 81) 26 = .ok (.aload_n 2, 1) := by decide +kernel
theorem d81_27 : decode (zB 81) 27 = .ok (.iconst 4, 1) := by decide +kernel
theorem d81_28 : decode (zB 81) 28 = .ok (.invokevirtual 99, 3) := by decide +kernel
theorem d81_31 : decode (zB 81) 31 = .ok (.return_, 1) := by decide +kernel
theorem yba_eq {T : yT} {s : Nat} {X : yX} : yba T s X = if gm (yxs (yun T s X) s) 1 = 0 then yen (yun T s X) s 4 else yun T s X := rfl
theorem c81 {d : Nat} {M : zM} {Q : Option Value → zM → Prop} {lo w u j c : Nat} {T : Nat → yT} {nm : Nat → Nat → Int32} {X : yX} {s : Nat} (hC : CW M lo w u j T c nm X) (hs3 : s < 3) (h1 : gt (yxs X s) = 2) (hl : yln X.2 + 2 ≤ 240) (k : ∀ M', CW M' lo w u j T c nm (yba (T (gx (yxs X s))) s X) → Fi (FW lo) M M' → Q none M') : qC (d + 4) 81 [.ref w, .int (nI s), .ref (u + 3 + 8 * s)] M Q := by
  refine qC_of (by decide) (Nat.le_of_ble_eq_true rfl) ?_
  have hC0 := hC
  obtain ⟨hS, hw, hT, hO, hR⟩ := hC
  have hwo := hS.wo hw
  have hsa := hw.sg hs3
  have hs := hS.sg hsa
  have hd := hw.d
  have hRs : RS M (u + 3 + 8 * s) T (nm s) (yxs X s) := hR.2.1 s hs3
  have hRs' := hRs
  have hOs : OKS T c (yxs X s) := hO.2.2 s hs3
  have hx : gx (yxs X s) < c := hOs.2.1 (by show gt (yxs X s) ≠ 0; omega)
  have hc6 := hO.1.1
  have ho := hO.1.2 _ hx
  have hn := ho.n
  have hz : gz T (yxs X s) = tn (T (gx (yxs X s))) := by unfold gz; rw [if_neg (by omega)]
  obtain ⟨⟨q0, q1, q2⟩, ⟨q3, q4, q5⟩, ⟨q7, q8⟩, q9, qa, qb⟩ := hRs
  have e2 : zr M (u + 3 + 8 * s) 2 = some (20 + 7 * gx (yxs X s)) := q2.trans (if_neg (by show ¬ gt (yxs X s) = 0; omega))
  have hb0 := gm_lt (yxs X s) 1
  cases hgo : go (yxs X s) with
  | nil =>
    refine q_aload_n d81_0 rfl ?_
    refine q_v0 d81_1 rfl rfl hs.1 (Nat.le_of_ble_eq_true rfl) (c82 (l := []) hs (by rw [q7, hgo]) (by decide) (fun j hj => absurd hj (Nat.not_lt_zero _)) ?_)
    refine q_istore_n d81_4 (by decide) rfl ?_
    refine q_iload_n d81_5 rfl ?_
    refine q_iconst (x := (-1)) d81_6 rfl ?_
    refine ic_eq 17 d81_7 (by decide) (fun h7 => ?_) (fun h7 => (False.elim (h7 rfl)))
    refine q_aload_n d81_17 rfl ?_
    refine q_getv (c := 5) (f := 3) d81_18 ⟨rfl, by decide⟩ hs.1 q3 ?_
    refine n0_ne 31 d81_21 (by decide) (by omega) (fun h21 => ?_) (fun h21 => ?_)
    · refine q_ret d81_31 rfl ?_
      rw [yba_eq, yun_N hgo] at k
      first
      | (rw [if_pos h21] at k; exact k _ hC2 f2)
      | (rw [if_neg h21] at k; exact k _ hC0 (Fi.refl _ _))
    · refine q_aload_n d81_24 rfl ?_
      refine q_iload_n d81_25 rfl ?_
      refine q_aload_n d81_26 rfl ?_
      refine q_iconstN (z := 4) d81_27 ?_
      refine q_v3 d81_28 rfl rfl hwo.1 (Nat.le_of_ble_eq_true rfl) (c79 hC0 hs3 (by omega) (by decide) (by decide) (by omega) (fun M2 hC2 f2 => ?_))
      refine q_ret d81_31 rfl ?_
      rw [yba_eq, yun_N hgo] at k
      first
      | (rw [if_pos h21] at k; exact k _ hC2 f2)
      | (rw [if_neg h21] at k; exact k _ hC0 (Fi.refl _ _))
  | cons i t =>
    have hlen : (go (yxs X s)).length ≤ 12 := Nat.le_trans (OKS_len hOs (by omega)) (by omega)
    have hgd : gd (yxs X s) i = 1 := (hOs.2.2.2.1 i).mp (by rw [hgo]; exact List.mem_cons_self)
    have hi : i < tn (T (gx (yxs X s))) := Nat.lt_of_not_le (fun q => by have := hOs.2.2.2.2.1 i (by omega); omega)
    refine q_aload_n d81_0 rfl ?_
    refine q_v0 d81_1 rfl rfl hs.1 (Nat.le_of_ble_eq_true rfl) (c82 (l := i :: t) hs (by rw [q7, hgo]) (by rw [← hgo]; exact hlen) (fun j hj => by rw [hgo] at q8; exact q8 j hj) ?_)
    refine q_istore_n d81_4 (by decide) rfl ?_
    refine q_iload_n d81_5 rfl ?_
    refine q_iconst (x := (-1)) d81_6 rfl ?_
    refine ic_eq 17 d81_7 (by decide) (fun h7 => (False.elim (nI_m1 (by omega) h7))) (fun h7 => ?_)
    refine q_aload_n d81_10 rfl ?_
    refine q_iload_n d81_11 rfl ?_
    refine q_aload_n d81_12 rfl ?_
    refine q_iload_n d81_13 rfl ?_
    refine q_v3 d81_14 rfl rfl hwo.1 (Nat.le_of_ble_eq_true rfl) (c83 hC0 hs3 h1 hgo (by omega) (fun M1 hC1 f1 => ?_))
    have hy := yun_ok hO hs3 (show gt (yxs X s) ≠ 0 by omega)
    have hR1 : RS M1 (u + 3 + 8 * s) T (nm s) (yxs (yun (T (gx (yxs X s))) s X) s) := hC1.2.2.2.2.2.1 s hs3
    have hs1 := hC1.1.sg hsa
    have hwo1 := hC1.1.wo hw
    have hq3 := hR1.2.1.1
    have hb := gm_lt (yxs (yun (T (gx (yxs X s))) s X) s) 1
    refine q_aload_n d81_17 rfl ?_
    refine q_getv (c := 5) (f := 3) d81_18 ⟨rfl, by decide⟩ hs1.1 hq3 ?_
    refine n0_ne 31 d81_21 (by decide) (by omega) (fun h21 => ?_) (fun h21 => ?_)
    · refine q_ret d81_31 rfl ?_
      rw [yba_eq] at k
      first
      | (rw [if_pos h21] at k; exact k _ hC2 (f1.trans f2))
      | (rw [if_neg h21] at k; exact k _ hC1 f1)
    · refine q_aload_n d81_24 rfl ?_
      refine q_iload_n d81_25 rfl ?_
      refine q_aload_n d81_26 rfl ?_
      refine q_iconstN (z := 4) d81_27 ?_
      refine q_v3 d81_28 rfl rfl hwo1.1 (Nat.le_of_ble_eq_true rfl) (c79 hC1 hs3 (by omega) (by decide) (by decide) (by omega) (fun M2 hC2 f2 => ?_))
      refine q_ret d81_31 rfl ?_
      rw [yba_eq] at k
      first
      | (rw [if_pos h21] at k; exact k _ hC2 (f1.trans f2))
      | (rw [if_neg h21] at k; exact k _ hC1 f1)
end
section
/-! ===== contracts: turns and ticks ===== -/
theorem yfo_eq {T : yT} {nm : Nat → Int32} {s : Nat} {X : yX} : yfo T nm s X = if gt (yxs (yfl T nm s (yfr T (yxs X s)) 12 0 X) s) = 1 ∧ gm (yxs (yfl T nm s (yfr T (yxs X s)) 12 0 X) s) 1 = 2 ^ tn T - 1 then yen (yfl T nm s (yfr T (yxs X s)) 12 0 X) s 3 else yfl T nm s (yfr T (yxs X s)) 12 0 X := rfl
theorem c71r {d : Nat} {M : zM} {Q : Option Value → zM → Prop} {a b : Nat} {T : yT} {S : yS} (hs : SSg M a) (q2 : zr M a 2 = some b) (hp : SPr M b) (hr : RP M b T) (ho : OKT T) (h3 : ∀ i, gd S i ≤ 3) (q0 : zi M a 0 = nI (gt S)) (hg : gt S = 1) (q3 : zi M a 3 = nI (gm S 1)) (q4 : zi M a 4 = nI (gm S 2)) (q5 : zi M a 5 = nI (gm S 3)) (k : Q (some (.int (nI (yfr T S)))) M) : qC (d + 3) 71 [.ref a] M Q :=
  c71 hs q2 hp hr ho h3 q0 (by omega) q3 q4 q5 (by rw [if_pos hg]; exact k)
theorem yfr_lt (T : yT) (S : yS) (h : tn T ≤ 12) : yfr T S < 4096 := ymk_lt12 _ h
theorem d70_0 : decode (zB 70) 0 = .ok (.aload_n 2, 1) := by decide +kernel
theorem d70_1 : decode (zB 70) 1 = .ok (.invokevirtual 84, 3) := by decide +kernel
theorem d70_4 : decode (zB 70) 4 = .ok (.istore_n 3, 1) := by decide +kernel
theorem d70_5 : decode (zB 70) 5 = .ok (.iconst 0, 1) := by decide +kernel
theorem d70_6 : decode (zB 70) 6 = .ok (.istore 4, 2) := by decide +kernel
theorem d70_8 : decode (zB 70) 8 = .ok (.iload 4, 2) := by decide +kernel
theorem d70_10 : decode (zB 70) 10 = .ok (.bipush 12, 2) := by decide +kernel
theorem d70_12 : decode (zB 70) 12 = .ok (.if_icmp .ge 34, 3) := by decide +kernel
theorem d70_15 : decode (zB 70) 15 = .ok (.aload_n 2, 1) := by decide +kernel
theorem d70_16 : decode (zB 70) 16 = .ok (.getfield 65, 3) := by decide +kernel
theorem d70_19 : decode (zB 70) 19 = .ok (.iconst 1, 1) := by decide +kernel
theorem d70_20 : decode (zB 70) 20 = .ok (.if_icmp .ne 26, 3) := by decide +kernel
theorem d70_23 : decode (zB 70) 23 = .ok (.iload_n 3, 1) := by decide +kernel
theorem d70_24 : decode (zB 70) 24 = .ok (.iload 4, 2) := by decide +kernel
theorem d70_26 : decode (zB 70) 26 = .ok (.invokestatic 88, 3) := by decide +kernel
theorem d70_29 : decode (zB 70) 29 = .ok (.ifCond .eq 11, 3) := by decide +kernel
theorem d70_32 : decode (zB 70) 32 = .ok (.aload_n 0, 1) := by decide +kernel
theorem d70_33 : decode (zB 70) 33 = .ok (.iload_n 1, 1) := by decide +kernel
theorem d70_34 : decode (zB 70) 34 = .ok (.aload_n 2, 1) := by decide +kernel
theorem d70_35 : decode (zB 70) 35 = .ok (.iload 4, 2) := by decide +kernel
theorem d70_37 : decode (zB 70) 37 = .ok (.invokevirtual 92, 3) := by decide +kernel
theorem d70_40 : decode (zB 70) 40 = .ok (.iinc 4 1, 3) := by decide +kernel
theorem d70_43 : decode (zB 70) 43 = .ok (.goto (-35), 3) := by decide +kernel
theorem d70_46 : decode (zB 70) 46 = .ok (.aload_n 2, 1) := by decide +kernel
theorem d70_47 : decode (zB 70) 47 = .ok (.getfield 65, 3) := by decide +kernel
theorem d70_50 : decode (zB 70) 50 = .ok (.iconst 1, 1) := by decide +kernel
theorem d70_51 : decode (zB 70) 51 = .ok (.if_icmp .ne 17, 3) := by decide +kernel
theorem d70_54 : decode (zB 70) 54 = .ok (.aload_n 2, 1) := by decide +kernel
theorem d70_55 : decode (zB 70) 55 = .ok (.invokevirtual 96, 3) := by decide +kernel
theorem d70_58 : decode (zB 70) 58 = .ok (.ifCond .eq 10, 3) := by decide +kernel
theorem d70_61 : decode (zB 70) 61 = .ok (.aload_n 0, 1) := by decide +kernel
theorem d70_62 : decode (zB 70) 62 = .ok (.iload_n 1, 1) := by decide +kernel
theorem d70_63 : decode (zB 70) 63 = .ok (.aload_n 2, 1) := by decide +kernel
theorem d70_64 : decode (zB 70) 64 = .ok (.iconst 3, 1) := by decide +kernel
theorem d70_65 : decode (zB 70) 65 = .ok (.invokevirtual 99, 3) := by decide +kernel
theorem d70_68 : decode (zB 70) 68 = .ok (.return_, 1) := by decide +kernel
theorem l70 {d : Nat} {Q : Option Value → zM → Prop} {lo w u j c : Nat} {T : Nat → yT} {nm : Nat → Nat → Int32} {s : Nat} {M0 : zM} {g0 fr L0 : Nat} {XF : yX} (hs3 : s < 3) (hfr : fr < 4096) (hL : L0 + 13 ≤ 240) (k : ∀ M', CW M' lo w u j T c nm (if gt (yxs XF s) = 1 ∧ gm (yxs XF s) 1 = 2 ^ tn (T g0) - 1 then yen XF s 3 else XF) → Fi (FW lo) M0 M' → Q none M') : ∀ (r i : Nat) (M1 : zM) (X1 : yX), i ≤ 12 → 12 < i + r → CW M1 lo w u j T c nm X1 → Fi (FW lo) M0 M1 → gx (yxs X1 s) = g0 → (∀ j, i ≤ j → fr.testBit j = true → j < tn (T g0) ∧ gd (yxs X1 s) j = 0) → (gt (yxs X1 s) = 1 ∨ gt (yxs X1 s) = 2 ∨ gt (yxs X1 s) = 5) → ym1 X1 s ≤ L0 + 1 + i → yfl (T g0) (nm s) s fr (12 - i) i X1 = XF → qW (zEv (d + 3)) 70 Q 8 [(4, .int (nI i)), (3, .int (nI fr)), (0, .ref w), (1, .int (nI s)), (2, .ref (u + 3 + 8 * s))] [] M1 := by
  intro r
  induction r with
  | zero => intros; omega
  | succ r ih =>
    intro i M1 X1 h1 h2 hC1 hF hgx hf hg hm hy
    have hC1' := hC1
    obtain ⟨hS, hw, hT, hO, hR⟩ := hC1
    have hwo := hS.wo hw
    have hsa := hw.sg hs3
    have hs := hS.sg hsa
    have hd := hw.d
    have hRs : RS M1 (u + 3 + 8 * s) T (nm s) (yxs X1 s) := hR.2.1 s hs3
    have hOs : OKS T c (yxs X1 s) := hO.2.2 s hs3
    have hx : gx (yxs X1 s) < c := hOs.2.1 (by omega)
    have hc6 := hO.1.1
    have ho := hO.1.2 _ hx
    have hn := ho.n
    have hm4 := gm_lt (yxs X1 s) 1
    obtain ⟨⟨q0, q1, q2⟩, ⟨q3, q4, q5⟩, ⟨q7, q8⟩, q9, qa, qb⟩ := hRs
    have e2 : zr M1 (u + 3 + 8 * s) 2 = some (20 + 7 * gx (yxs X1 s)) := q2.trans (if_neg (by show ¬ gt (yxs X1 s) = 0; omega))
    refine q_iload d70_8 rfl ?_
    refine q_bipush (x := nI 12) d70_10 rfl ?_
    refine nc_ge 46 d70_12 (by decide) (by omega) (by omega) (fun h12 => ?_) (fun h12 => ?_)
    · have hXF : XF = X1 := by
        first
        | (rw [show 12 - i = 0 by omega] at hy; exact hy.symm)
        | (rw [show 12 - i = (12 - (i + 1)) + 1 by omega, yfl, if_neg h20] at hy; exact hy.symm)
      subst hXF
      rw [← hgx] at k
      refine q_aload_n d70_46 rfl ?_
      refine q_getv (c := 5) (f := 0) d70_47 ⟨rfl, by decide⟩ hs.1 q0 ?_
      refine q_iconstN (z := 1) d70_50 ?_
      refine nc_ne 68 d70_51 (by decide) (by omega) (by omega) (fun h51 => ?_) (fun h51 => ?_)
      · refine q_ret d70_68 rfl ?_
        first
        | (rw [if_pos ⟨h51, of_decide_eq_true h58⟩] at k; exact k _ hC2 (hF.trans f2))
        | (rw [if_neg (fun q => absurd q.2 (of_decide_eq_false h58))] at k; exact k _ hC1' hF)
        | (rw [if_neg (fun q => h51 q.1)] at k; exact k _ hC1' hF)
      · refine q_aload_n d70_54 rfl ?_
        refine q_v0 d70_55 rfl rfl hs.1 (Nat.le_of_ble_eq_true rfl) (c80 hs e2 (hS.pr (by omega)) (hT _ hx) hn q3 hm4 ?_)
        refine b0_eq 68 d70_58 (by decide) (fun h58 => ?_) (fun h58 => ?_)
        · refine q_ret d70_68 rfl ?_
          first
          | (rw [if_pos ⟨h51, of_decide_eq_true h58⟩] at k; exact k _ hC2 (hF.trans f2))
          | (rw [if_neg (fun q => absurd q.2 (of_decide_eq_false h58))] at k; exact k _ hC1' hF)
          | (rw [if_neg (fun q => h51 q.1)] at k; exact k _ hC1' hF)
        · refine q_aload_n d70_61 rfl ?_
          refine q_iload_n d70_62 rfl ?_
          refine q_aload_n d70_63 rfl ?_
          refine q_iconstN (z := 3) d70_64 ?_
          refine q_v3 d70_65 rfl rfl hwo.1 (Nat.le_of_ble_eq_true rfl) (c79 hC1' hs3 (by omega) (by decide) (by decide) (by unfold ym1 at hm; rw [if_pos h51] at hm; omega) (fun M2 hC2 f2 => ?_))
          refine q_ret d70_68 rfl ?_
          first
          | (rw [if_pos ⟨h51, of_decide_eq_true h58⟩] at k; exact k _ hC2 (hF.trans f2))
          | (rw [if_neg (fun q => absurd q.2 (of_decide_eq_false h58))] at k; exact k _ hC1' hF)
          | (rw [if_neg (fun q => h51 q.1)] at k; exact k _ hC1' hF)
    · refine q_aload_n d70_15 rfl ?_
      refine q_getv (c := 5) (f := 0) d70_16 ⟨rfl, by decide⟩ hs.1 q0 ?_
      refine q_iconstN (z := 1) d70_19 ?_
      refine nc_ne 46 d70_20 (by decide) (by omega) (by omega) (fun h20 => ?_) (fun h20 => ?_)
      · have hXF : XF = X1 := by
          first
          | (rw [show 12 - i = 0 by omega] at hy; exact hy.symm)
          | (rw [show 12 - i = (12 - (i + 1)) + 1 by omega, yfl, if_neg h20] at hy; exact hy.symm)
        subst hXF
        rw [← hgx] at k
        refine q_aload_n d70_46 rfl ?_
        refine q_getv (c := 5) (f := 0) d70_47 ⟨rfl, by decide⟩ hs.1 q0 ?_
        refine q_iconstN (z := 1) d70_50 ?_
        refine nc_ne 68 d70_51 (by decide) (by omega) (by omega) (fun h51 => ?_) (fun h51 => ?_)
        · refine q_ret d70_68 rfl ?_
          first
          | (rw [if_pos ⟨h51, of_decide_eq_true h58⟩] at k; exact k _ hC2 (hF.trans f2))
          | (rw [if_neg (fun q => absurd q.2 (of_decide_eq_false h58))] at k; exact k _ hC1' hF)
          | (rw [if_neg (fun q => h51 q.1)] at k; exact k _ hC1' hF)
        · refine q_aload_n d70_54 rfl ?_
          refine q_v0 d70_55 rfl rfl hs.1 (Nat.le_of_ble_eq_true rfl) (c80 hs e2 (hS.pr (by omega)) (hT _ hx) hn q3 hm4 ?_)
          refine b0_eq 68 d70_58 (by decide) (fun h58 => ?_) (fun h58 => ?_)
          · refine q_ret d70_68 rfl ?_
            first
            | (rw [if_pos ⟨h51, of_decide_eq_true h58⟩] at k; exact k _ hC2 (hF.trans f2))
            | (rw [if_neg (fun q => absurd q.2 (of_decide_eq_false h58))] at k; exact k _ hC1' hF)
            | (rw [if_neg (fun q => h51 q.1)] at k; exact k _ hC1' hF)
          · refine q_aload_n d70_61 rfl ?_
            refine q_iload_n d70_62 rfl ?_
            refine q_aload_n d70_63 rfl ?_
            refine q_iconstN (z := 3) d70_64 ?_
            refine q_v3 d70_65 rfl rfl hwo.1 (Nat.le_of_ble_eq_true rfl) (c79 hC1' hs3 (by omega) (by decide) (by decide) (by unfold ym1 at hm; rw [if_pos h51] at hm; omega) (fun M2 hC2 f2 => ?_))
            refine q_ret d70_68 rfl ?_
            first
            | (rw [if_pos ⟨h51, of_decide_eq_true h58⟩] at k; exact k _ hC2 (hF.trans f2))
            | (rw [if_neg (fun q => absurd q.2 (of_decide_eq_false h58))] at k; exact k _ hC1' hF)
            | (rw [if_neg (fun q => h51 q.1)] at k; exact k _ hC1' hF)
      · refine q_iload_n d70_23 rfl ?_
        refine q_iload d70_24 rfl ?_
        refine q_s2 d70_26 (Or.inr rfl) rfl (Nat.le_of_ble_eq_true rfl) (c35 (by omega) (by omega) ?_)
        refine b0_eq 40 d70_29 (by decide) (fun h29 => ?_) (fun h29 => ?_)
        · refine n_iinc 1 d70_40 (by decide) rfl rfl ?_
          refine q_goto 8 d70_43 (by decide) ?_
          first
          | (have h1 : gt (yxs X1 s) = 1 := h20
             rw [hgx] at hC2
             have hd1 := ytr_d (T := T g0) (n := nm s i) (i := i) h1
             have hm1 := ytr_m (T := T g0) (n := nm s i) (i := i) h1
             exact ih (i + 1) _ _ (by omega) (by omega) hC2 (hF.trans f2) (hd1.2.1.trans hgx) (fun j hj hb => ⟨(hf j (by omega) hb).1, by rw [hd1.1 j (by omega)]; exact (hf j (by omega) hb).2⟩) hd1.2.2.2 (by omega) (by rw [show 12 - i = (12 - (i + 1)) + 1 by omega, yfl, if_pos h1, if_pos h29] at hy; exact hy))
          | (have h1 : gt (yxs X1 s) = 1 := h20
             exact ih (i + 1) _ _ (by omega) (by omega) hC1' hF hgx (fun j hj hb => hf j (by omega) hb) hg (by omega) (by rw [show 12 - i = (12 - (i + 1)) + 1 by omega, yfl, if_pos h1, h29, if_neg (by decide)] at hy; exact hy))
        · refine q_aload_n d70_32 rfl ?_
          refine q_iload_n d70_33 rfl ?_
          refine q_aload_n d70_34 rfl ?_
          refine q_iload d70_35 rfl ?_
          refine q_v3 d70_37 rfl rfl hwo.1 (Nat.le_of_ble_eq_true rfl) (c72 hC1' hs3 h20 (by rw [hgx]; exact (hf i (Nat.le_refl _) h29).1) (hf i (Nat.le_refl _) h29).2 (by unfold ym1 at hm; rw [if_pos h20] at hm; omega) (fun M2 hC2 f2 => ?_))
          refine n_iinc 1 d70_40 (by decide) rfl rfl ?_
          refine q_goto 8 d70_43 (by decide) ?_
          first
          | (have h1 : gt (yxs X1 s) = 1 := h20
             rw [hgx] at hC2
             have hd1 := ytr_d (T := T g0) (n := nm s i) (i := i) h1
             have hm1 := ytr_m (T := T g0) (n := nm s i) (i := i) h1
             exact ih (i + 1) _ _ (by omega) (by omega) hC2 (hF.trans f2) (hd1.2.1.trans hgx) (fun j hj hb => ⟨(hf j (by omega) hb).1, by rw [hd1.1 j (by omega)]; exact (hf j (by omega) hb).2⟩) hd1.2.2.2 (by omega) (by rw [show 12 - i = (12 - (i + 1)) + 1 by omega, yfl, if_pos h1, if_pos h29] at hy; exact hy))
          | (have h1 : gt (yxs X1 s) = 1 := h20
             exact ih (i + 1) _ _ (by omega) (by omega) hC1' hF hgx (fun j hj hb => hf j (by omega) hb) hg (by omega) (by rw [show 12 - i = (12 - (i + 1)) + 1 by omega, yfl, if_pos h1, h29, if_neg (by decide)] at hy; exact hy))
theorem c70 {d : Nat} {M : zM} {Q : Option Value → zM → Prop} {lo w u j c : Nat} {T : Nat → yT} {nm : Nat → Nat → Int32} {X : yX} {s : Nat} (hC : CW M lo w u j T c nm X) (hs3 : s < 3) (h1 : gt (yxs X s) = 1) (hl : yln X.2 + 13 ≤ 240) (k : ∀ M', CW M' lo w u j T c nm (yfo (T (gx (yxs X s))) (nm s) s X) → Fi (FW lo) M M' → Q none M') : qC (d + 4) 70 [.ref w, .int (nI s), .ref (u + 3 + 8 * s)] M Q := by
  have hC0 := hC
  obtain ⟨hS, hw, hT, hO, hR⟩ := hC
  have hwo := hS.wo hw
  have hsa := hw.sg hs3
  have hs := hS.sg hsa
  have hd := hw.d
  have hRs : RS M (u + 3 + 8 * s) T (nm s) (yxs X s) := hR.2.1 s hs3
  have hRs' := hRs
  have hOs : OKS T c (yxs X s) := hO.2.2 s hs3
  have hx : gx (yxs X s) < c := hOs.2.1 (by show gt (yxs X s) ≠ 0; omega)
  have hc6 := hO.1.1
  have ho := hO.1.2 _ hx
  have hn := ho.n
  have hz : gz T (yxs X s) = tn (T (gx (yxs X s))) := by unfold gz; rw [if_neg (by omega)]
  obtain ⟨⟨q0, q1, q2⟩, ⟨q3, q4, q5⟩, ⟨q7, q8⟩, q9, qa, qb⟩ := hRs
  have e2 : zr M (u + 3 + 8 * s) 2 = some (20 + 7 * gx (yxs X s)) := q2.trans (if_neg (by show ¬ gt (yxs X s) = 0; omega))
  refine qC_of (by decide) (Nat.le_of_ble_eq_true rfl) ?_
  refine q_aload_n d70_0 rfl ?_
  refine q_v0 d70_1 rfl rfl hs.1 (Nat.le_of_ble_eq_true rfl) (c71r hs e2 (hS.pr (by omega)) (hT _ hx) ho hOs.2.2.2.2.2 q0 h1 q3 q4 q5 ?_)
  refine q_istore_n d70_4 (by decide) rfl ?_
  refine q_iconstN (z := 0) d70_5 ?_
  refine q_istore d70_6 (by decide) rfl ?_
  exact l70 (XF := yfl (T (gx (yxs X s))) (nm s) s (yfr (T (gx (yxs X s))) (yxs X s)) 12 0 X) (L0 := yln X.2) hs3 (yfr_lt _ _ hn) (by omega) (fun M' hC f => k M' hC f) 13 0 M X (by omega) (by omega) hC0 (Fi.refl _ _) rfl (fun j _ hj => front_bit hj) (Or.inl h1) (by unfold ym1; rw [if_pos h1]; omega) rfl
/-- the turns from saga i on -/
def ytf (T : Nat → yT) (nm : Nat → Nat → Int32) : Nat → Nat → yX → yX
  | 0, _, X => X
  | k + 1, i, X => ytf T nm k (i + 1) (ytu T nm i X)
theorem ytf_ti (T : Nat → yT) (nm : Nat → Nat → Int32) (X : yX) : ytf T nm 3 0 X = yti T nm X := rfl
theorem ytu_1 {T : Nat → yT} {nm : Nat → Nat → Int32} {s : Nat} {X : yX} (h : gt (yxs X s) = 1) : ytu T nm s X = yfo (T (gx (yxs X s))) (nm s) s X := if_pos h
theorem ytu_2 {T : Nat → yT} {nm : Nat → Nat → Int32} {s : Nat} {X : yX} (h : gt (yxs X s) = 2) : ytu T nm s X = yba (T (gx (yxs X s))) s X := by unfold ytu; rw [if_neg (by omega), if_pos h]
theorem ytu_0 {T : Nat → yT} {nm : Nat → Nat → Int32} {s : Nat} {X : yX} (h1 : ¬ gt (yxs X s) = 1) (h2 : ¬ gt (yxs X s) = 2) : ytu T nm s X = X := by unfold ytu; rw [if_neg h1, if_neg h2]
theorem d69_0 : decode (zB 69) 0 = .ok (.iconst 0, 1) := by decide +kernel
theorem d69_1 : decode (zB 69) 1 = .ok (.istore_n 1, 1) := by decide +kernel
theorem d69_2 : decode (zB 69) 2 = .ok (.iload_n 1, 1) := by decide +kernel
theorem d69_3 : decode (zB 69) 3 = .ok (.iconst 3, 1) := by decide +kernel
theorem d69_4 : decode (zB 69) 4 = .ok (.if_icmp .ge 47, 3) := by decide +kernel
theorem d69_7 : decode (zB 69) 7 = .ok (.aload_n 0, 1) := by decide +kernel
theorem d69_8 : decode (zB 69) 8 = .ok (.getfield 20, 3) := by decide +kernel
theorem d69_11 : decode (zB 69) 11 = .ok (.iload_n 1, 1) := by decide +kernel
theorem d69_12 : decode (zB 69) 12 = .ok (.aaload, 1) := by decide +kernel
theorem d69_13 : decode (zB 69) 13 = .ok (.astore_n 2, 1) := by decide +kernel
theorem d69_14 : decode (zB 69) 14 = .ok (.aload_n 2, 1) := by decide +kernel
theorem d69_15 : decode (zB 69) 15 = .ok (.getfield 65, 3) := by decide +kernel
theorem d69_18 : decode (zB 69) 18 = .ok (.iconst 1, 1) := by decide +kernel
theorem d69_19 : decode (zB 69) 19 = .ok (.if_icmp .ne 12, 3) := by decide +kernel
theorem d69_22 : decode (zB 69) 22 = .ok (.aload_n 0, 1) := by decide +kernel
theorem d69_23 : decode (zB 69) 23 = .ok (.iload_n 1, 1) := by decide +kernel
theorem d69_24 : decode (zB 69) 24 = .ok (.aload_n 2, 1) := by decide +kernel
theorem d69_25 : decode (zB 69) 25 = .ok (.invokevirtual 77, 3) := by decide +kernel
theorem d69_28 : decode (zB 69) 28 = .ok (.goto 17, 3) := by decide +kernel
theorem d69_31 : decode (zB 69) 31 = .ok (.aload_n 2, 1) := by decide +kernel
theorem d69_32 : decode (zB 69) 32 = .ok (.getfield 65, 3) := by decide +kernel
theorem d69_35 : decode (zB 69) 35 = .ok (.iconst 2, 1) := by decide +kernel
theorem d69_36 : decode (zB 69) 36 = .ok (.if_icmp .ne 9, 3) := by decide +kernel
theorem d69_39 : decode (zB 69) 39 = .ok (.aload_n 0, 1) := by decide +kernel
theorem d69_40 : decode (zB 69) 40 = .ok (.iload_n 1, 1) := by decide +kernel
theorem d69_41 : decode (zB 69) 41 = .ok (.aload_n 2, 1) := by decide +kernel
theorem d69_42 : decode (zB 69) 42 = .ok (.invokevirtual 81, 3) := by decide +kernel
theorem d69_45 : decode (zB 69) 45 = .ok (.iinc 1 1, 3) := by decide +kernel
theorem d69_48 : decode (zB 69) 48 = .ok (.goto (-46), 3) := by decide +kernel
theorem d69_51 : decode (zB 69) 51 = .ok (.return_, 1) := by decide +kernel
theorem l69 {d : Nat} {Q : Option Value → zM → Prop} {lo w u j c : Nat} {T : Nat → yT} {nm : Nat → Nat → Int32} {M0 : zM} {XF : yX} (k : ∀ M', CW M' lo w u j T c nm XF → Fi (FW lo) M0 M' → Q none M') : ∀ (r i : Nat) (a2 : Nat) (M1 : zM) (X1 : yX), i ≤ 3 → 3 < i + r → CW M1 lo w u j T c nm X1 → Fi (FW lo) M0 M1 → yln X1.2 + 13 * (3 - i) ≤ 240 → ytf T nm (3 - i) i X1 = XF → qW (zEv (d + 4)) 69 Q 2 [(1, .int (nI i)), (2, .ref a2), (0, .ref w)] [] M1 := by
  intro r
  induction r with
  | zero => intros; omega
  | succ r ih =>
    intro i a2 M1 X1 h1 h2 hC1 hF hl hy
    have hC1' := hC1
    obtain ⟨hS, hw, hT, hO, hR⟩ := hC1
    have hwo := hS.wo hw
    have hd := hw.d
    refine q_iload_n d69_2 rfl ?_
    refine q_iconstN (z := 3) d69_3 ?_
    refine nc_ge 51 d69_4 (by decide) (by omega) (by omega) (fun h4 => ?_) (fun h4 => ?_)
    · refine q_ret d69_51 rfl ?_
      rw [show 3 - i = 0 by omega] at hy
      have hy : X1 = XF := hy
      subst hy
      exact k _ hC1' hF
    · have hi3 : i < 3 := by omega
      have hsi := hS.sg (hw.sg hi3)
      have q0 : zi M1 (u + 3 + 8 * i) 0 = nI (gt (yxs X1 i)) := (hR.2.1 i hi3).1.1
      have hg5 : gt (yxs X1 i) ≤ 5 := (hO.2.2 i hi3).1
      have hyl := (ytu_ok (nm := nm) hO hi3).2.2
      rw [show 3 - i = (3 - (i + 1)) + 1 by omega, ytf] at hy
      refine q_aload_n d69_7 rfl ?_
      refine q_getr (c := 6) (f := 3) d69_8 ⟨rfl, rfl⟩ hwo.1 hwo.2.2.2.2.1 ?_
      refine q_iload_n d69_11 rfl ?_
      refine n_aald d69_12 hwo.2.2.2.2.2.1 (by decide) (by omega) (by decide) (hwo.2.2.2.2.2.2 _ (by omega)) ?_
      refine q_astore_n d69_13 (by decide) rfl ?_
      refine q_aload_n d69_14 rfl ?_
      refine q_getv (c := 5) (f := 0) d69_15 ⟨rfl, by decide⟩ hsi.1 q0 ?_
      refine q_iconstN (z := 1) d69_18 ?_
      refine nc_ne 31 d69_19 (by decide) (by omega) (by omega) (fun h19 => ?_) (fun h19 => ?_)
      · refine q_aload_n d69_31 rfl ?_
        refine q_getv (c := 5) (f := 0) d69_32 ⟨rfl, by decide⟩ hsi.1 q0 ?_
        refine q_iconstN (z := 2) d69_35 ?_
        refine nc_ne 45 d69_36 (by decide) (by omega) (by omega) (fun h36 => ?_) (fun h36 => ?_)
        · refine n_iinc 1 d69_45 (by decide) rfl rfl ?_
          refine q_goto 2 d69_48 (by decide) ?_
          first
          | (rw [ytu_1 h19] at hy hyl; exact ih (i + 1) _ _ _ (by omega) (by omega) hC2 (hF.trans f2) (by omega) hy)
          | (rw [ytu_2 h36] at hy hyl; exact ih (i + 1) _ _ _ (by omega) (by omega) hC2 (hF.trans f2) (by omega) hy)
          | (rw [ytu_0 h19 h36] at hy hyl; exact ih (i + 1) _ _ _ (by omega) (by omega) hC1' hF (by omega) hy)
        · refine q_aload_n d69_39 rfl ?_
          refine q_iload_n d69_40 rfl ?_
          refine q_aload_n d69_41 rfl ?_
          refine q_v2 d69_42 rfl rfl hwo.1 (Nat.le_of_ble_eq_true rfl) (c81 hC1' hi3 h36 (by omega) (fun M2 hC2 f2 => ?_))
          refine n_iinc 1 d69_45 (by decide) rfl rfl ?_
          refine q_goto 2 d69_48 (by decide) ?_
          first
          | (rw [ytu_1 h19] at hy hyl; exact ih (i + 1) _ _ _ (by omega) (by omega) hC2 (hF.trans f2) (by omega) hy)
          | (rw [ytu_2 h36] at hy hyl; exact ih (i + 1) _ _ _ (by omega) (by omega) hC2 (hF.trans f2) (by omega) hy)
          | (rw [ytu_0 h19 h36] at hy hyl; exact ih (i + 1) _ _ _ (by omega) (by omega) hC1' hF (by omega) hy)
      · refine q_aload_n d69_22 rfl ?_
        refine q_iload_n d69_23 rfl ?_
        refine q_aload_n d69_24 rfl ?_
        refine q_v2 d69_25 rfl rfl hwo.1 (Nat.le_of_ble_eq_true rfl) (c70 hC1' hi3 h19 (by omega) (fun M2 hC2 f2 => ?_))
        refine q_goto 45 d69_28 (by decide) ?_
        refine n_iinc 1 d69_45 (by decide) rfl rfl ?_
        refine q_goto 2 d69_48 (by decide) ?_
        first
        | (rw [ytu_1 h19] at hy hyl; exact ih (i + 1) _ _ _ (by omega) (by omega) hC2 (hF.trans f2) (by omega) hy)
        | (rw [ytu_2 h36] at hy hyl; exact ih (i + 1) _ _ _ (by omega) (by omega) hC2 (hF.trans f2) (by omega) hy)
        | (rw [ytu_0 h19 h36] at hy hyl; exact ih (i + 1) _ _ _ (by omega) (by omega) hC1' hF (by omega) hy)
theorem c69 {d : Nat} {M : zM} {Q : Option Value → zM → Prop} {lo w u j c : Nat} {T : Nat → yT} {nm : Nat → Nat → Int32} {X : yX} (hC : CW M lo w u j T c nm X) (hl : yln X.2 + 39 ≤ 240) (k : ∀ M', CW M' lo w u j T c nm (yti T nm X) → Fi (FW lo) M M' → Q none M') : qC (d + 5) 69 [.ref w] M Q := by
  have hC1' := hC
  obtain ⟨hS, hw, hT, hO, hR⟩ := hC
  have hwo := hS.wo hw
  have hd := hw.d
  refine qC_of (by decide) (Nat.le_of_ble_eq_true rfl) ?_
  refine q_iconstN (z := 0) d69_0 ?_
  refine q_istore_n d69_1 (by decide) rfl ?_
  refine q_iload_n d69_2 rfl ?_
  refine q_iconstN (z := 3) d69_3 ?_
  refine nc_ge 51 d69_4 (by decide) (by omega) (by omega) (fun h4 => ?_) (fun h4 => ?_)
  · refine q_ret d69_51 rfl ?_
    omega
  · have hi3 : 0 < 3 := by omega
    have hsi := hS.sg (hw.sg hi3)
    have q0 : zi M (u + 3 + 8 * 0) 0 = nI (gt (yxs X 0)) := (hR.2.1 0 hi3).1.1
    have hg5 : gt (yxs X 0) ≤ 5 := (hO.2.2 0 hi3).1
    have hyl := (ytu_ok (nm := nm) hO hi3).2.2
    have hy0 : ytf T nm 2 1 (ytu T nm 0 X) = yti T nm X := rfl
    refine q_aload_n d69_7 rfl ?_
    refine q_getr (c := 6) (f := 3) d69_8 ⟨rfl, rfl⟩ hwo.1 hwo.2.2.2.2.1 ?_
    refine q_iload_n d69_11 rfl ?_
    refine n_aald d69_12 hwo.2.2.2.2.2.1 (by decide) (by omega) (by decide) (hwo.2.2.2.2.2.2 _ (by omega)) ?_
    refine q_astore_n d69_13 (by decide) rfl ?_
    refine q_aload_n d69_14 rfl ?_
    refine q_getv (c := 5) (f := 0) d69_15 ⟨rfl, by decide⟩ hsi.1 q0 ?_
    refine q_iconstN (z := 1) d69_18 ?_
    refine nc_ne 31 d69_19 (by decide) (by omega) (by omega) (fun h19 => ?_) (fun h19 => ?_)
    · refine q_aload_n d69_31 rfl ?_
      refine q_getv (c := 5) (f := 0) d69_32 ⟨rfl, by decide⟩ hsi.1 q0 ?_
      refine q_iconstN (z := 2) d69_35 ?_
      refine nc_ne 45 d69_36 (by decide) (by omega) (by omega) (fun h36 => ?_) (fun h36 => ?_)
      · refine n_iinc 1 d69_45 (by decide) rfl rfl ?_
        refine q_goto 2 d69_48 (by decide) ?_
        first
        | (rw [ytu_1 h19] at hyl hy0; exact l69 (XF := yti T nm X) k 3 1 _ _ _ (by omega) (by omega) hC2 f2 (by omega) hy0)
        | (rw [ytu_2 h36] at hyl hy0; exact l69 (XF := yti T nm X) k 3 1 _ _ _ (by omega) (by omega) hC2 f2 (by omega) hy0)
        | (rw [ytu_0 h19 h36] at hyl hy0; exact l69 (XF := yti T nm X) k 3 1 _ _ _ (by omega) (by omega) hC1' (Fi.refl _ _) (by omega) hy0)
      · refine q_aload_n d69_39 rfl ?_
        refine q_iload_n d69_40 rfl ?_
        refine q_aload_n d69_41 rfl ?_
        refine q_v2 d69_42 rfl rfl hwo.1 (Nat.le_of_ble_eq_true rfl) (c81 hC1' (show 0 < 3 by omega) h36 (by omega) (fun M2 hC2 f2 => ?_))
        refine n_iinc 1 d69_45 (by decide) rfl rfl ?_
        refine q_goto 2 d69_48 (by decide) ?_
        first
        | (rw [ytu_1 h19] at hyl hy0; exact l69 (XF := yti T nm X) k 3 1 _ _ _ (by omega) (by omega) hC2 f2 (by omega) hy0)
        | (rw [ytu_2 h36] at hyl hy0; exact l69 (XF := yti T nm X) k 3 1 _ _ _ (by omega) (by omega) hC2 f2 (by omega) hy0)
        | (rw [ytu_0 h19 h36] at hyl hy0; exact l69 (XF := yti T nm X) k 3 1 _ _ _ (by omega) (by omega) hC1' (Fi.refl _ _) (by omega) hy0)
    · refine q_aload_n d69_22 rfl ?_
      refine q_iload_n d69_23 rfl ?_
      refine q_aload_n d69_24 rfl ?_
      refine q_v2 d69_25 rfl rfl hwo.1 (Nat.le_of_ble_eq_true rfl) (c70 hC1' (show 0 < 3 by omega) h19 (by omega) (fun M2 hC2 f2 => ?_))
      refine q_goto 45 d69_28 (by decide) ?_
      refine n_iinc 1 d69_45 (by decide) rfl rfl ?_
      refine q_goto 2 d69_48 (by decide) ?_
      first
      | (rw [ytu_1 h19] at hyl hy0; exact l69 (XF := yti T nm X) k 3 1 _ _ _ (by omega) (by omega) hC2 f2 (by omega) hy0)
      | (rw [ytu_2 h36] at hyl hy0; exact l69 (XF := yti T nm X) k 3 1 _ _ _ (by omega) (by omega) hC2 f2 (by omega) hy0)
      | (rw [ytu_0 h19 h36] at hyl hy0; exact l69 (XF := yti T nm X) k 3 1 _ _ _ (by omega) (by omega) hC1' (Fi.refl _ _) (by omega) hy0)
end
section
/-! ===== contracts: what happened happens again ===== -/
/-- numbers as the texts have them -/
def yNm (T : Nat → yT) (W : yW) : Nat → Nat → Int32 := fun s k => tu (T (gx (W.2 s))) k
/-- a line that can come here -/
def yle (T : Nat → yT) (c : Nat) (W : yW) (l : yL) : Prop :=
  (l.1 = 0 ∧ l.2.1 < 3 ∧ l.2.2 < c) ∨
  (l.1 = 1 ∧ l.2.1 < 3 ∧ gt (W.2 l.2.1) = 1 ∧ l.2.2 < tn (T (gx (W.2 l.2.1))) ∧ gd (W.2 l.2.1) l.2.2 = 0 ∧ yob (T (gx (W.2 l.2.1))) W.1 l.2.2 (tu (T (gx (W.2 l.2.1))) l.2.2) 1 = 0) ∨
  (l.1 = 2 ∧ l.2.1 < 3 ∧ gt (W.2 l.2.1) = 1 ∧ l.2.2 < tn (T (gx (W.2 l.2.1)))) ∨
  (l.1 = 3 ∧ l.2.1 < 3 ∧ gt (W.2 l.2.1) ≠ 0 ∧ (∃ t, go (W.2 l.2.1) = l.2.2 :: t) ∧ yob (T (gx (W.2 l.2.1))) W.1 l.2.2 (gb (W.2 l.2.1) l.2.2) (-1) = 0) ∨
  (l.1 = 4 ∧ l.2.1 < 3 ∧ gt (W.2 l.2.1) ≠ 0 ∧ ∃ t, go (W.2 l.2.1) = l.2.2 :: t) ∨
  (l.1 = 5 ∧ l.2.1 < 3 ∧ gt (W.2 l.2.1) ≠ 0 ∧ 3 ≤ l.2.2 ∧ l.2.2 ≤ 5) ∨
  (l.1 = 6 ∧ l.2.1 < 6 ∧ l.2.2 ≤ 9999)
/-- no plans, no reasons -/
def yZ (W : yW) : Prop := ∀ s k, gp (W.2 s) k = 0 ∧ gq (W.2 s) k = 0 ∧ gw (W.2 s) k = 0
theorem OKS_St {T : Nat → yT} {c t : Nat} (h : t < c) : OKS T c (ySt t) :=
  ⟨show (1 : Nat) ≤ 5 by omega, fun _ => h, List.nodup_nil, fun i => by
    show i ∈ [] ↔ (0 : Nat) = 1
    simp, fun _ _ => rfl, fun _ => show (0 : Nat) ≤ 3 by omega⟩
theorem OKS_0 {T : Nat → yT} {c : Nat} : OKS T c yS0 :=
  ⟨show (0 : Nat) ≤ 5 by omega, fun h => absurd rfl h, List.nodup_nil, fun i => by
    show i ∈ [] ↔ (0 : Nat) = 1
    simp, fun _ _ => rfl, fun _ => show (0 : Nat) ≤ 3 by omega⟩
theorem OKP_0 : OKP yP0 := fun _ _ => by show 0 ≤ (100 : Int32) ∧ (100 : Int32) ≤ nI 9999; decide
theorem yag_ok {T : Nat → yT} {c : Nat} {W : yW} {l : yL} (h : OKW T c W) (hl : yle T c W l) : OKW T c (yag T W l) := by
  obtain ⟨e, s, i⟩ := l
  have hS : ∀ S, OKS T c S → OKW T c (W.1, yu W.2 s S) := fun S hS => OKW_ss (X := (W, none)) h hS
  rcases hl with ⟨rfl, h1, h2⟩ | ⟨rfl, h1, h2, h3, h4, h5⟩ | ⟨rfl, h1, h2, h3⟩ | ⟨rfl, h1, h2, ⟨t, h3⟩, h5⟩ | ⟨rfl, h1, h2, ⟨t, h3⟩⟩ | ⟨rfl, h1, h2, h3⟩ | ⟨rfl, h1, h2⟩
  · exact hS _ (OKS_St h2)
  · have h2 : gt (W.2 s) = 1 := h2
    have hT := h.1.2 _ ((h.2.2 s h1).2.1 (by omega))
    have hz : gz T (W.2 s) = tn (T (gx (W.2 s))) := by unfold gz; rw [if_neg (by omega)]
    exact OKW_ss (X := ((ych (T (gx (W.2 s))) W.1 i (tu (T (gx (W.2 s))) i) 1, W.2), none)) ⟨h.1, OKP_ch hT h3 h.2.1 h5, h.2.2⟩ (OKS_done (h.2.2 s h1) (by rw [hz]; exact h3) h4)
  · have h2 : gt (W.2 s) = 1 := h2
    exact hS _ (OKS_fS (h.2.2 s h1) (by omega))
  · have hO := h.2.2 s h1
    have hT := h.1.2 _ (hO.2.1 h2)
    have h3 : go (W.2 s) = i :: t := h3
    have hgd : gd (W.2 s) i = 1 := (hO.2.2.2.1 i).mp (by rw [h3]; exact List.mem_cons_self)
    have hz : gz T (W.2 s) = tn (T (gx (W.2 s))) := by unfold gz; rw [if_neg h2]
    have hi : i < tn (T (gx (W.2 s))) := Nat.lt_of_not_le (fun q => by have := hO.2.2.2.2.1 i (by omega); omega)
    have hu := OKS_undo hO h3 (Or.inl rfl)
    have e : (go (W.2 s)).tail = t := by rw [h3]; rfl
    show OKW T c (ych (T (gx (W.2 s))) W.1 i (gb (W.2 s) i) (-1), yu W.2 s (goS (gdS (W.2 s) (yu (gd (W.2 s)) i 2)) (go (W.2 s)).tail))
    rw [e]
    exact OKW_ss (X := ((ych (T (gx (W.2 s))) W.1 i (gb (W.2 s) i) (-1), W.2), none)) ⟨h.1, OKP_ch hT hi h.2.1 h5, h.2.2⟩ hu
  · have hO := h.2.2 s h1
    have h3 : go (W.2 s) = i :: t := h3
    have hu := OKS_undo hO h3 (Or.inr rfl)
    have e : (go (W.2 s)).tail = t := by rw [h3]; rfl
    show OKW T c (W.1, yu W.2 s (gwS (goS (gdS (W.2 s) (yu (gd (W.2 s)) i 3)) (go (W.2 s)).tail) (yu (gw (W.2 s)) i 0)))
    rw [e]
    exact hS _ hu
  · have h3 : 3 ≤ i ∧ i ≤ 5 := h3
    exact hS _ (OKS_st (h.2.2 s h1) h2 (by omega) h3.2)
  · have h2 : i ≤ 9999 := h2
    exact ⟨h.1, OKP_u h.2.1 ⟨nI_pos' (by omega), nI_le h2 (by omega)⟩, h.2.2⟩
theorem yu_z {W : yW} {s : Nat} {S : yS} {P : yP} (h : yZ W) (hS : ∀ k, gp S k = 0 ∧ gq S k = 0 ∧ gw S k = 0) : yZ (P, yu W.2 s S) := by
  intro r k
  show gp (yu W.2 s S r) k = 0 ∧ gq (yu W.2 s S r) k = 0 ∧ gw (yu W.2 s S r) k = 0
  by_cases e : r = s
  · subst e; rw [yu_s]; exact hS k
  · rw [yu_n e]; exact h r k
theorem gw_0 {S : yS} {i : Nat} (h : ∀ k, gw S k = 0) : yu (gw S) i 0 = gw S := by
  funext k
  by_cases e : k = i
  · subst e; rw [yu_s, h]
  · rw [yu_n e]
theorem yag_z {T : Nat → yT} {c : Nat} {W : yW} {l : yL} (h : yZ W) (hl : yle T c W l) : yZ (yag T W l) := by
  obtain ⟨e, s, i⟩ := l
  have hs := h s
  have hw := gw_0 (S := W.2 s) (i := i) (fun k => (hs k).2.2)
  rcases hl with ⟨rfl, -⟩ | ⟨rfl, -⟩ | ⟨rfl, -⟩ | ⟨rfl, -⟩ | ⟨rfl, -⟩ | ⟨rfl, -⟩ | ⟨rfl, -⟩
  · exact yu_z h (fun _ => ⟨rfl, rfl, rfl⟩)
  · exact yu_z h hs
  · refine yu_z (P := W.1) h (fun k => ?_)
    unfold yfS
    simp only []
    rw [hw]
    split <;> exact hs k
  · exact yu_z h hs
  · refine yu_z (P := W.1) h (fun k => ⟨(hs k).1, (hs k).2.1, ?_⟩)
    show yu (gw (W.2 s)) i 0 k = 0
    rw [hw]; exact (hs k).2.2
  · exact yu_z h hs
  · exact h
theorem RS_nm {M : zM} {a : Nat} {T : Nat → yT} {nm nm' : Nat → Int32} {S : yS} (h : RS M a T nm S) (e : ∀ k, k < gz T S → nm' k = nm k) : RS M a T nm' S :=
  ⟨h.1, h.2.1, h.2.2.1, fun k hk => (h.2.2.2.1 k hk).trans (e k hk).symm, h.2.2.2.2⟩
theorem RW_nm {M : zM} {u j : Nat} {T : Nat → yT} {nm nm' : Nat → Nat → Int32} {X : yX} (h : RW M u j T nm X) (e : ∀ s, s < 3 → ∀ k, k < gz T (yxs X s) → nm' s k = nm s k) : RW M u j T nm' X :=
  ⟨h.1, fun s hs => RS_nm (h.2.1 s hs) (e s hs), h.2.2⟩
theorem RW_sg2 {M M' : zM} {lo w u j s : Nat} {T : Nat → yT} {nm : Nat → Nat → Int32} {X : yX} {S : yS} (hw : Wd lo w u j) (h1 : RPu M u X.1.1) (h2 : ∀ r, r < 3 → r ≠ s → RS M (u + 3 + 8 * r) T (nm r) (yxs X r)) (h3 : RJ M j X.2) (hs : s < 3) (hR : RS M' (u + 3 + 8 * s) T (nm s) S) (f : Fr (FS (u + 3 + 8 * s)) M M') : RW M' u j T nm (yss X s S) := by
  have d := hw.d
  refine ⟨RPu_fr h1 f (fun b k h1 h2 q => by have := q.1; omega), fun r hr => ?_, RJ_fr h3 f (fun b k h1 h2 q => by have := q.1; rcases hw with e | e <;> omega)⟩
  show RS M' (u + 3 + 8 * r) T (nm r) (yu X.1.2 s S r)
  by_cases e : r = s
  · subst e; rw [yu_s]; exact hR
  · rw [yu_n e]; exact RS_fr (h2 r hr e) f (fun b k h1 h2 q => by have := q.1; have := q.2; omega)
/-- a world by its texts' numbers -/
def CN (M : zM) (lo w u j : Nat) (T : Nat → yT) (c : Nat) (X : yX) : Prop := CW M lo w u j T c (yNm T X.1) X
def FV (u : Nat) : Nat → Nat → Prop := Fb u (u + 27)
theorem CN.up {M M' : zM} {lo w u j : Nat} {T : Nat → yT} {c : Nat} {X X' : yX} {nm : Nat → Nat → Int32} (h : CN M lo w u j T c X) (hS : SC M') (hR : RW M' u j T nm X') (hO : OKW T c X'.1) (f : Fr (FV u) M M') (e : ∀ s, s < 3 → ∀ k, k < gz T (yxs X' s) → yNm T X'.1 s k = nm s k) : CN M' lo w u j T c X' :=
  ⟨hS, h.2.1, RTx_fr h.2.2.1 h.2.2.2.1.1.1 f (fun b k h1 h2 q => by have := q.1; have := h.2.1.d; omega), hO, RW_nm hR e⟩
theorem yNm_s {T : Nat → yT} {X : yX} {P : yP} {s : Nat} {S : yS} (h : gx S = gx (yxs X s)) : ∀ r, r < 3 → ∀ k, k < gz T (yxs (yss (ysp X P) s S) r) → yNm T (yss (ysp X P) s S).1 r k = yNm T X.1 r k := by
  intro r _ k _
  show tu (T (gx (yu X.1.2 s S r))) k = tu (T (gx (X.1.2 r))) k
  by_cases e : r = s
  · subst e; rw [yu_s, h]; rfl
  · rw [yu_n e]
theorem d97_0 : decode (zB 97) 0 = .ok (.iload_n 2, 1) := by decide +kernel
theorem d97_1 : decode (zB 97) 1 = .ok (.tableswitch 130 0 4 #[35, 58, 85, 94, 121], 35) := by decide +kernel
theorem d97_36 : decode (zB 97) 36 = .ok (.iload_n 3, 1) := by decide +kernel
theorem d97_37 : decode (zB 97) 37 = .ok (.iconst 0, 1) := by decide +kernel
theorem d97_38 : decode (zB 97) 38 = .ok (.iconst 5, 1) := by decide +kernel
theorem d97_39 : decode (zB 97) 39 = .ok (.invokestatic 183, 3) := by decide +kernel
theorem d97_42 : decode (zB 97) 42 = .ok (.ifCond .eq 94, 3) := by decide +kernel
theorem d97_45 : decode (zB 97) 45 = .ok (.aload_n 1, 1) := by decide +kernel
theorem d97_46 : decode (zB 97) 46 = .ok (.aload_n 0, 1) := by decide +kernel
theorem d97_47 : decode (zB 97) 47 = .ok (.getfield 24, 3) := by decide +kernel
theorem d97_50 : decode (zB 97) 50 = .ok (.iload_n 3, 1) := by decide +kernel
theorem d97_51 : decode (zB 97) 51 = .ok (.aaload, 1) := by decide +kernel
theorem d97_52 : decode (zB 97) 52 = .ok (.iload_n 3, 1) := by decide +kernel
theorem d97_53 : decode (zB 97) 53 = .ok (.invokevirtual 187, 3) := by decide +kernel
theorem d97_56 : decode (zB 97) 56 = .ok (.goto 80, 3) := by decide +kernel
theorem d97_59 : decode (zB 97) 59 = .ok (.aload_n 0, 1) := by decide +kernel
theorem d97_60 : decode (zB 97) 60 = .ok (.getfield 12, 3) := by decide +kernel
theorem d97_63 : decode (zB 97) 63 = .ok (.aload_n 1, 1) := by decide +kernel
theorem d97_64 : decode (zB 97) 64 = .ok (.getfield 113, 3) := by decide +kernel
theorem d97_67 : decode (zB 97) 67 = .ok (.iload_n 3, 1) := by decide +kernel
theorem d97_68 : decode (zB 97) 68 = .ok (.aload_n 1, 1) := by decide +kernel
theorem d97_69 : decode (zB 97) 69 = .ok (.iload_n 3, 1) := by decide +kernel
theorem d97_70 : decode (zB 97) 70 = .ok (.iconst 1, 1) := by decide +kernel
theorem d97_71 : decode (zB 97) 71 = .ok (.invokevirtual 102, 3) := by decide +kernel
theorem d97_74 : decode (zB 97) 74 = .ok (.iconst 1, 1) := by decide +kernel
theorem d97_75 : decode (zB 97) 75 = .ok (.invokevirtual 121, 3) := by decide +kernel
theorem d97_78 : decode (zB 97) 78 = .ok (.aload_n 1, 1) := by decide +kernel
theorem d97_79 : decode (zB 97) 79 = .ok (.iload_n 3, 1) := by decide +kernel
theorem d97_80 : decode (zB 97) 80 = .ok (.invokevirtual 125, 3) := by decide +kernel
theorem d97_83 : decode (zB 97) 83 = .ok (.goto 53, 3) := by decide +kernel
theorem d97_86 : decode (zB 97) 86 = .ok (.aload_n 1, 1) := by decide +kernel
theorem d97_87 : decode (zB 97) 87 = .ok (.iload_n 3, 1) := by decide +kernel
theorem d97_88 : decode (zB 97) 88 = .ok (.iconst 0, 1) := by decide +kernel
theorem d97_89 : decode (zB 97) 89 = .ok (.invokevirtual 135, 3) := by decide +kernel
theorem d97_92 : decode (zB 97) 92 = .ok (.goto 44, 3) := by decide +kernel
theorem d97_95 : decode (zB 97) 95 = .ok (.aload_n 0, 1) := by decide +kernel
theorem d97_96 : decode (zB 97) 96 = .ok (.getfield 12, 3) := by decide +kernel
theorem d97_99 : decode (zB 97) 99 = .ok (.aload_n 1, 1) := by decide +kernel
theorem d97_100 : decode (zB 97) 100 = .ok (.getfield 113, 3) := by decide +kernel
theorem d97_103 : decode (zB 97) 103 = .ok (.iload_n 3, 1) := by decide +kernel
theorem d97_104 : decode (zB 97) 104 = .ok (.aload_n 1, 1) := by decide +kernel
theorem d97_105 : decode (zB 97) 105 = .ok (.iload_n 3, 1) := by decide +kernel
theorem d97_106 : decode (zB 97) 106 = .ok (.iconst (-1), 1) := by decide +kernel
theorem d97_107 : decode (zB 97) 107 = .ok (.invokevirtual 102, 3) := by decide +kernel
theorem d97_110 : decode (zB 97) 110 = .ok (.iconst (-1), 1) := by decide +kernel
theorem d97_111 : decode (zB 97) 111 = .ok (.invokevirtual 121, 3) := by decide +kernel
theorem d97_114 : decode (zB 97) 114 = .ok (.aload_n 1, 1) := by decide +kernel
theorem d97_115 : decode (zB 97) 115 = .ok (.iload_n 3, 1) := by decide +kernel
theorem d97_116 : decode (zB 97) 116 = .ok (.invokevirtual 151, 3) := by decide +kernel
theorem d97_119 : decode (zB 97) 119 = .ok (.goto 17, 3) := by decide +kernel
theorem d97_122 : decode (zB 97) 122 = .ok (.aload_n 1, 1) := by decide +kernel
theorem d97_123 : decode (zB 97) 123 = .ok (.iload_n 3, 1) := by decide +kernel
theorem d97_124 : decode (zB 97) 124 = .ok (.iconst 0, 1) := by decide +kernel
theorem d97_125 : decode (zB 97) 125 = .ok (.invokevirtual 154, 3) := by decide +kernel
theorem d97_128 : decode (zB 97) 128 = .ok (.goto 8, 3) := by decide +kernel
theorem d97_131 : decode (zB 97) 131 = .ok (.aload_n 1, 1) := by decide +kernel
theorem d97_132 : decode (zB 97) 132 = .ok (.iload_n 3, 1) := by decide +kernel
theorem d97_133 : decode (zB 97) 133 = .ok (.putfield 65, 3) := by decide +kernel
theorem d97_136 : decode (zB 97) 136 = .ok (.return_, 1) := by decide +kernel
theorem c97_0 {d : Nat} {M : zM} {Q : Option Value → zM → Prop} {lo w u j c : Nat} {T : Nat → yT} {X : yX} {s i : Nat} (hC : CN M lo w u j T c X) (hs3 : s < 3) (hi : i < c) (k : ∀ M', CN M' lo w u j T c (yag T X.1 (0, s, i), X.2) → Fr (FV u) M M' → Q none M') : qC (d + 5) 97 [.ref w, .ref (u + 3 + 8 * s), .int (nI 0), .int (nI i)] M Q := by
  refine qC_of (by decide) (Nat.le_of_ble_eq_true rfl) ?_
  have hC0 := hC
  obtain ⟨hS, hw, hT, hO, hR⟩ := hC
  have hwo := hS.wo hw
  have hd := hw.d
  have hc6 := hO.1.1
  have hsa := hw.sg hs3
  have hs := hS.sg hsa
  have hRs : RS M (u + 3 + 8 * s) T (yNm T X.1 s) (yxs X s) := hR.2.1 s hs3
  have hOs : OKS T c (yxs X s) := hO.2.2 s hs3
  refine q_iload_n d97_0 rfl ?_
  refine n_tsI (35) 36 d97_1 (by decide) (by decide) rfl (by decide) ?_
  refine q_iload_n d97_36 rfl ?_
  refine q_iconstN (z := 0) d97_37 ?_
  refine q_iconstN (z := 5) d97_38 ?_
  refine q_s3 d97_39 (Or.inr rfl) rfl (Nat.le_of_ble_eq_true rfl) (c10t ⟨by omega, by omega⟩ (by decide) ?_)
  refine n0_eq 136 d97_42 (by decide) (by decide) (fun q => absurd q (by decide)) (fun _ => ?_)
  refine q_aload_n d97_45 rfl ?_
  refine q_aload_n d97_46 rfl ?_
  refine q_getr (c := 6) (f := 0) d97_47 ⟨rfl, rfl⟩ hwo.1 hwo.2.1 ?_
  refine q_iload_n d97_50 rfl ?_
  refine n_aald d97_51 hS.1.2.2.2.1 (by decide) (by omega) (by decide) (hS.1.2.2.2.2.1 _ (by omega)) ?_
  refine q_iload_n d97_52 rfl ?_
  refine q_v2 d97_53 rfl rfl hs.1 (Nat.le_of_ble_eq_true rfl) (c62 (nm := fun k => tu (T i) k) hS hsa (by omega) (hT _ hi) (hO.1.2 _ hi).n (fun _ _ => rfl) (fun M1 hR1 f1 hS1 => ?_))
  refine q_goto 136 d97_56 (by decide) ?_
  refine q_ret d97_136 rfl ?_
  refine k _ (hC0.up (X' := yss X s (ySt i)) (nm := yNm T (yss X s (ySt i)).1) hS1 (RW_sg2 hw hR.1 (fun r hr hn => RS_nm (hR.2.1 r hr) (fun q _ => ?_)) hR.2.2 hs3 (RS_nm hR1 (fun q _ => ?_)) f1) (OKW_ss hO (OKS_St hi)) (f1.mono (Fb_m (by omega) (by omega))) (fun _ _ _ _ => rfl)) (f1.mono (Fb_m (by omega) (by omega)))
  · show tu (T (gx (yu X.1.2 s (ySt i) r))) q = _; rw [yu_n hn]; rfl
  · show tu (T (gx (yu X.1.2 s (ySt i) s))) q = _; rw [yu_s]; rfl
theorem c97_1 {d : Nat} {M : zM} {Q : Option Value → zM → Prop} {lo w u j c : Nat} {T : Nat → yT} {X : yX} {s i : Nat} (hC : CN M lo w u j T c X) (hs3 : s < 3) (hg1 : gt (yxs X s) = 1) (hi : i < tn (T (gx (yxs X s)))) (h0 : gd (yxs X s) i = 0) (hob : yob (T (gx (yxs X s))) X.1.1 i (tu (T (gx (yxs X s))) i) 1 = 0) (k : ∀ M', CN M' lo w u j T c (yag T X.1 (1, s, i), X.2) → Fr (FV u) M M' → Q none M') : qC (d + 5) 97 [.ref w, .ref (u + 3 + 8 * s), .int (nI 1), .int (nI i)] M Q := by
  refine qC_of (by decide) (Nat.le_of_ble_eq_true rfl) ?_
  have hC0 := hC
  obtain ⟨hS, hw, hT, hO, hR⟩ := hC
  have hwo := hS.wo hw
  have hd := hw.d
  have hc6 := hO.1.1
  have hsa := hw.sg hs3
  have hs := hS.sg hsa
  have hRs : RS M (u + 3 + 8 * s) T (yNm T X.1 s) (yxs X s) := hR.2.1 s hs3
  have hOs : OKS T c (yxs X s) := hO.2.2 s hs3
  have hg0 : ¬ gt (yxs X s) = 0 := by omega
  have hx : gx (yxs X s) < c := hOs.2.1 hg0
  have ho := hO.1.2 _ hx
  have hn := ho.n
  have hz : gz T (yxs X s) = tn (T (gx (yxs X s))) := by unfold gz; rw [if_neg hg0]
  have hRs' := hRs
  obtain ⟨⟨q0, q1, q2⟩, ⟨q3, q4, q5⟩, ⟨q7, q8⟩, q9, qa, qb⟩ := hRs
  have e2 : zr M (u + 3 + 8 * s) 2 = some (20 + 7 * gx (yxs X s)) := q2.trans (if_neg hg0)
  have hlen : (go (yxs X s)).length < 12 := by
    have h2 := OKS_len (OKS_done (S := yxs X s) (n := 0) hOs (show i < gz T (yxs X s) by omega) h0) (show gz T (yxs X s) ≤ 12 by omega)
    have h3 : (go (yxs X s)).length + 1 ≤ gz T (yxs X s) := h2
    omega
  refine q_iload_n d97_0 rfl ?_
  refine n_tsI (58) 59 d97_1 (by decide) (by decide) rfl (by decide) ?_
  refine q_aload_n d97_59 rfl ?_
  refine q_getr (c := 6) (f := 2) d97_60 ⟨rfl, rfl⟩ hwo.1 hwo.2.2.2.1 ?_
  refine q_aload_n d97_63 rfl ?_
  refine q_getr (c := 5) (f := 2) d97_64 ⟨rfl, rfl⟩ hs.1 e2 ?_
  refine q_iload_n d97_67 rfl ?_
  refine q_aload_n d97_68 rfl ?_
  refine q_iload_n d97_69 rfl ?_
  refine q_iconstN (z := 1) d97_70 ?_
  refine q_v2 d97_71 rfl rfl hs.1 (Nat.le_of_ble_eq_true rfl) (c73 hs (by omega) (q9 i (by omega)) ?_)
  refine q_iconstN (z := 1) d97_74 ?_
  refine q_v4 d97_75 rfl rfl (hS.pu hw).1 (Nat.le_of_ble_eq_true rfl) (c51 (hS.pu hw) hR.1 (hS.pr (by omega)) (hT _ hx) ho hi (by omega) (fun M2 hP2 f2 => ?_))
  have hR2 := RW_pu hw hR hP2 f2.fr
  have hR2s := RS_fr hRs' f2.fr (fun b k h1 h2 q => by have := q.2; omega)
  have hs2 := SSg_fi hs f2
  refine q_aload_n d97_78 rfl ?_
  refine q_iload_n d97_79 rfl ?_
  refine q_v1 d97_80 rfl rfl hs2.1 (Nat.le_of_ble_eq_true rfl) (c75 hs2 hR2s h0 (show i < gz T (yxs X s) by omega) (show gz T (yxs X s) ≤ 12 by omega) hlen (fun M3 hR3s f3 => ?_))
  have hR3 := RW_sg hw hR2 hs3 hR3s f3.fr
  have f23 : Fi (FV u) M M3 := (f2.mono (Fb_m (by omega) (by omega))).trans (f3.mono (Fb_m (by omega) (by omega)))
  refine q_goto 136 d97_83 (by decide) ?_
  refine q_ret d97_136 rfl ?_
  exact k _ (hC0.up (X' := yss (ysp X (ych (T (gx (yxs X s))) X.1.1 i (tu (T (gx (yxs X s))) i) 1)) s (yDn (yxs X s) i (tu (T (gx (yxs X s))) i))) (f23.sc hS (fun a k ha q => by have := q.1; omega)) hR3 (OKW_ss (X := ysp X _) ⟨hO.1, OKP_ch ho hi hO.2.1 hob, hO.2.2⟩ (OKS_done hOs (by omega) h0)) f23.fr (yNm_s rfl)) f23.fr
theorem c97_2 {d : Nat} {M : zM} {Q : Option Value → zM → Prop} {lo w u j c : Nat} {T : Nat → yT} {X : yX} {s i : Nat} (hC : CN M lo w u j T c X) (hs3 : s < 3) (hg1 : gt (yxs X s) = 1) (hi : i < tn (T (gx (yxs X s)))) (k : ∀ M', CN M' lo w u j T c (yag T X.1 (2, s, i), X.2) → Fr (FV u) M M' → Q none M') : qC (d + 5) 97 [.ref w, .ref (u + 3 + 8 * s), .int (nI 2), .int (nI i)] M Q := by
  refine qC_of (by decide) (Nat.le_of_ble_eq_true rfl) ?_
  have hC0 := hC
  obtain ⟨hS, hw, hT, hO, hR⟩ := hC
  have hwo := hS.wo hw
  have hd := hw.d
  have hc6 := hO.1.1
  have hsa := hw.sg hs3
  have hs := hS.sg hsa
  have hRs : RS M (u + 3 + 8 * s) T (yNm T X.1 s) (yxs X s) := hR.2.1 s hs3
  have hOs : OKS T c (yxs X s) := hO.2.2 s hs3
  have hg0 : ¬ gt (yxs X s) = 0 := by omega
  have hx : gx (yxs X s) < c := hOs.2.1 hg0
  have ho := hO.1.2 _ hx
  have hn := ho.n
  have hz : gz T (yxs X s) = tn (T (gx (yxs X s))) := by unfold gz; rw [if_neg hg0]
  have hRs' := hRs
  obtain ⟨⟨q0, q1, q2⟩, ⟨q3, q4, q5⟩, ⟨q7, q8⟩, q9, qa, qb⟩ := hRs
  have e2 : zr M (u + 3 + 8 * s) 2 = some (20 + 7 * gx (yxs X s)) := q2.trans (if_neg hg0)
  refine q_iload_n d97_0 rfl ?_
  refine n_tsI (85) 86 d97_1 (by decide) (by decide) rfl (by decide) ?_
  refine q_aload_n d97_86 rfl ?_
  refine q_iload_n d97_87 rfl ?_
  refine q_iconstN (z := 0) d97_88 ?_
  refine q_v2 d97_89 rfl rfl hs.1 (Nat.le_of_ble_eq_true rfl) (c76 hs hRs' (by omega) hg0 (hS.pr (by omega)) (hT _ hx) (by omega) (fun M1 hR1 f1 => ?_))
  refine q_goto 136 d97_92 (by decide) ?_
  refine q_ret d97_136 rfl ?_
  exact k _ (hC0.up (X' := yss X s (yfS (yxs X s) i 0 (ypa (T (gx (yxs X s))) (gm (yxs X s) 1)))) (f1.sc hS (fun a k ha q => by have := q.1; omega)) (RW_sg hw hR hs3 hR1 f1.fr) (OKW_ss hO (OKS_fS hOs hg0)) (f1.fr.mono (Fb_m (by omega) (by omega))) (yNm_s (P := X.1.1) (yfS_d _ _ _ _).2.1)) (f1.fr.mono (Fb_m (by omega) (by omega)))
theorem c97_3 {d : Nat} {M : zM} {Q : Option Value → zM → Prop} {lo w u j c : Nat} {T : Nat → yT} {X : yX} {s i : Nat} {t : List Nat} (hC : CN M lo w u j T c X) (hs3 : s < 3) (hg0 : ¬ gt (yxs X s) = 0) (hgo : go (yxs X s) = i :: t) (hob : yob (T (gx (yxs X s))) X.1.1 i (gb (yxs X s) i) (-1) = 0) (k : ∀ M', CN M' lo w u j T c (yag T X.1 (3, s, i), X.2) → Fr (FV u) M M' → Q none M') : qC (d + 5) 97 [.ref w, .ref (u + 3 + 8 * s), .int (nI 3), .int (nI i)] M Q := by
  refine qC_of (by decide) (Nat.le_of_ble_eq_true rfl) ?_
  have hC0 := hC
  obtain ⟨hS, hw, hT, hO, hR⟩ := hC
  have hwo := hS.wo hw
  have hd := hw.d
  have hc6 := hO.1.1
  have hsa := hw.sg hs3
  have hs := hS.sg hsa
  have hRs : RS M (u + 3 + 8 * s) T (yNm T X.1 s) (yxs X s) := hR.2.1 s hs3
  have hOs : OKS T c (yxs X s) := hO.2.2 s hs3
  have hx : gx (yxs X s) < c := hOs.2.1 hg0
  have ho := hO.1.2 _ hx
  have hn := ho.n
  have hz : gz T (yxs X s) = tn (T (gx (yxs X s))) := by unfold gz; rw [if_neg hg0]
  have hRs' := hRs
  obtain ⟨⟨q0, q1, q2⟩, ⟨q3, q4, q5⟩, ⟨q7, q8⟩, q9, qa, qb⟩ := hRs
  have e2 : zr M (u + 3 + 8 * s) 2 = some (20 + 7 * gx (yxs X s)) := q2.trans (if_neg hg0)
  have hgd : gd (yxs X s) i = 1 := (hOs.2.2.2.1 i).mp (by rw [hgo]; exact List.mem_cons_self)
  have hi : i < tn (T (gx (yxs X s))) := Nat.lt_of_not_le (fun q => by have := hOs.2.2.2.2.1 i (by omega); omega)
  have hlen : (go (yxs X s)).length ≤ 12 := Nat.le_trans (OKS_len hOs (by omega)) (by omega)
  have et : (go (yxs X s)).tail = t := by rw [hgo]; rfl
  refine q_iload_n d97_0 rfl ?_
  refine n_tsI (94) 95 d97_1 (by decide) (by decide) rfl (by decide) ?_
  refine q_aload_n d97_95 rfl ?_
  refine q_getr (c := 6) (f := 2) d97_96 ⟨rfl, rfl⟩ hwo.1 hwo.2.2.2.1 ?_
  refine q_aload_n d97_99 rfl ?_
  refine q_getr (c := 5) (f := 2) d97_100 ⟨rfl, rfl⟩ hs.1 e2 ?_
  refine q_iload_n d97_103 rfl ?_
  refine q_aload_n d97_104 rfl ?_
  refine q_iload_n d97_105 rfl ?_
  refine q_iconst (x := (-1)) d97_106 rfl ?_
  refine q_v2 d97_107 rfl rfl hs.1 (Nat.le_of_ble_eq_true rfl) (c73b hs (by omega) (qa i (by omega) hgd) ?_)
  refine q_iconst (x := (-1)) d97_110 rfl ?_
  refine q_v4 d97_111 rfl rfl (hS.pu hw).1 (Nat.le_of_ble_eq_true rfl) (c51 (hS.pu hw) hR.1 (hS.pr (by omega)) (hT _ hx) ho hi (by omega) (fun M2 hP2 f2 => ?_))
  have hR2 := RW_pu hw hR hP2 f2.fr
  have hR2s := RS_fr hRs' f2.fr (fun b k h1 h2 q => by have := q.2; omega)
  have hs2 := SSg_fi hs f2
  refine q_aload_n d97_114 rfl ?_
  refine q_iload_n d97_115 rfl ?_
  refine q_v1 d97_116 rfl rfl hs2.1 (Nat.le_of_ble_eq_true rfl) (c84 hs2 hR2s hgo hgd (by omega) hlen (fun M3 hR3s f3 => ?_))
  have hR3 := RW_sg hw hR2 hs3 hR3s f3.fr
  have f23 : Fi (FV u) M M3 := (f2.mono (Fb_m (by omega) (by omega))).trans (f3.mono (Fb_m (by omega) (by omega)))
  refine q_goto 136 d97_119 (by decide) ?_
  refine q_ret d97_136 rfl ?_
  exact k _ (hC0.up (X' := yss (ysp X (ych (T (gx (yxs X s))) X.1.1 i (gb (yxs X s) i) (-1))) s (goS (gdS (yxs X s) (yu (gd (yxs X s)) i 2)) (go (yxs X s)).tail)) (f23.sc hS (fun a k ha q => by have := q.1; omega)) (by rw [et]; exact hR3) (by rw [et]; exact OKW_ss (X := ysp X _) ⟨hO.1, OKP_ch ho hi hO.2.1 hob, hO.2.2⟩ (OKS_undo hOs hgo (Or.inl rfl))) f23.fr (yNm_s rfl)) f23.fr
theorem c97_4 {d : Nat} {M : zM} {Q : Option Value → zM → Prop} {lo w u j c : Nat} {T : Nat → yT} {X : yX} {s i : Nat} {t : List Nat} (hC : CN M lo w u j T c X) (hs3 : s < 3) (hg0 : ¬ gt (yxs X s) = 0) (hgo : go (yxs X s) = i :: t) (k : ∀ M', CN M' lo w u j T c (yag T X.1 (4, s, i), X.2) → Fr (FV u) M M' → Q none M') : qC (d + 5) 97 [.ref w, .ref (u + 3 + 8 * s), .int (nI 4), .int (nI i)] M Q := by
  refine qC_of (by decide) (Nat.le_of_ble_eq_true rfl) ?_
  have hC0 := hC
  obtain ⟨hS, hw, hT, hO, hR⟩ := hC
  have hwo := hS.wo hw
  have hd := hw.d
  have hc6 := hO.1.1
  have hsa := hw.sg hs3
  have hs := hS.sg hsa
  have hRs : RS M (u + 3 + 8 * s) T (yNm T X.1 s) (yxs X s) := hR.2.1 s hs3
  have hOs : OKS T c (yxs X s) := hO.2.2 s hs3
  have hx : gx (yxs X s) < c := hOs.2.1 hg0
  have ho := hO.1.2 _ hx
  have hn := ho.n
  have hz : gz T (yxs X s) = tn (T (gx (yxs X s))) := by unfold gz; rw [if_neg hg0]
  have hRs' := hRs
  obtain ⟨⟨q0, q1, q2⟩, ⟨q3, q4, q5⟩, ⟨q7, q8⟩, q9, qa, qb⟩ := hRs
  have e2 : zr M (u + 3 + 8 * s) 2 = some (20 + 7 * gx (yxs X s)) := q2.trans (if_neg hg0)
  have hgd : gd (yxs X s) i = 1 := (hOs.2.2.2.1 i).mp (by rw [hgo]; exact List.mem_cons_self)
  have hi : i < tn (T (gx (yxs X s))) := Nat.lt_of_not_le (fun q => by have := hOs.2.2.2.2.1 i (by omega); omega)
  have hlen : (go (yxs X s)).length ≤ 12 := Nat.le_trans (OKS_len hOs (by omega)) (by omega)
  have et : (go (yxs X s)).tail = t := by rw [hgo]; rfl
  refine q_iload_n d97_0 rfl ?_
  refine n_tsI (121) 122 d97_1 (by decide) (by decide) rfl (by decide) ?_
  refine q_aload_n d97_122 rfl ?_
  refine q_iload_n d97_123 rfl ?_
  refine q_iconstN (z := 0) d97_124 ?_
  refine q_v2 d97_125 rfl rfl hs.1 (Nat.le_of_ble_eq_true rfl) (c86 hs hRs' hgo hgd (by omega) hlen (fun M1 hR1 f1 => ?_))
  refine q_goto 136 d97_128 (by decide) ?_
  refine q_ret d97_136 rfl ?_
  exact k _ (hC0.up (X' := yss X s (gwS (goS (gdS (yxs X s) (yu (gd (yxs X s)) i 3)) (go (yxs X s)).tail) (yu (gw (yxs X s)) i 0))) (f1.sc hS (fun a k ha q => by have := q.1; omega)) (by rw [et]; exact RW_sg hw hR hs3 hR1 f1.fr) (by rw [et]; exact OKW_ss hO (OKS_undo hOs hgo (Or.inr rfl))) (f1.fr.mono (Fb_m (by omega) (by omega))) (yNm_s (P := X.1.1) rfl)) (f1.fr.mono (Fb_m (by omega) (by omega)))
theorem c97_5 {d : Nat} {M : zM} {Q : Option Value → zM → Prop} {lo w u j c : Nat} {T : Nat → yT} {X : yX} {s i : Nat} (hC : CN M lo w u j T c X) (hs3 : s < 3) (hg0 : ¬ gt (yxs X s) = 0) (h35 : 3 ≤ i ∧ i ≤ 5) (k : ∀ M', CN M' lo w u j T c (yag T X.1 (5, s, i), X.2) → Fr (FV u) M M' → Q none M') : qC (d + 5) 97 [.ref w, .ref (u + 3 + 8 * s), .int (nI 5), .int (nI i)] M Q := by
  refine qC_of (by decide) (Nat.le_of_ble_eq_true rfl) ?_
  have hC0 := hC
  obtain ⟨hS, hw, hT, hO, hR⟩ := hC
  have hwo := hS.wo hw
  have hd := hw.d
  have hc6 := hO.1.1
  have hsa := hw.sg hs3
  have hs := hS.sg hsa
  have hRs : RS M (u + 3 + 8 * s) T (yNm T X.1 s) (yxs X s) := hR.2.1 s hs3
  have hOs : OKS T c (yxs X s) := hO.2.2 s hs3
  refine q_iload_n d97_0 rfl ?_
  refine n_tsO 131 d97_1 (by decide) (Or.inr (by decide)) (by decide) ?_
  refine q_aload_n d97_131 rfl ?_
  refine q_iload_n d97_132 rfl ?_
  refine q_puti (c := 5) (f := 0) d97_133 ⟨rfl, rfl, by decide⟩ hs.1 ?_
  refine q_ret d97_136 rfl ?_
  have f1 : Fi (FS (u + 3 + 8 * s)) M (zwi M (u + 3 + 8 * s) 0 (nI i)) := (Fi.refl _ _).wi FS_0
  exact k _ (hC0.up (X' := yss X s (gtS (yxs X s) i)) (f1.sc hS (fun a k ha q => by have := q.1; omega)) (RW_sg hw hR hs3 (RS_gt hRs hg0 (by omega)) f1.fr) (OKW_ss hO (OKS_st hOs hg0 (by omega) h35.2)) (f1.fr.mono (Fb_m (by omega) (by omega))) (yNm_s (P := X.1.1) rfl)) (f1.fr.mono (Fb_m (by omega) (by omega)))
theorem d96_0 : decode (zB 96) 0 = .ok (.iload_n 1, 1) := by decide +kernel
theorem d96_1 : decode (zB 96) 1 = .ok (.bipush 6, 2) := by decide +kernel
theorem d96_3 : decode (zB 96) 3 = .ok (.if_icmp .ne 23, 3) := by decide +kernel
theorem d96_6 : decode (zB 96) 6 = .ok (.iload_n 2, 1) := by decide +kernel
theorem d96_7 : decode (zB 96) 7 = .ok (.invokestatic 51, 3) := by decide +kernel
theorem d96_10 : decode (zB 96) 10 = .ok (.ifCond .eq 35, 3) := by decide +kernel
theorem d96_13 : decode (zB 96) 13 = .ok (.aload_n 0, 1) := by decide +kernel
theorem d96_14 : decode (zB 96) 14 = .ok (.getfield 12, 3) := by decide +kernel
theorem d96_17 : decode (zB 96) 17 = .ok (.getfield 54, 3) := by decide +kernel
theorem d96_20 : decode (zB 96) 20 = .ok (.iload_n 2, 1) := by decide +kernel
theorem d96_21 : decode (zB 96) 21 = .ok (.iload_n 3, 1) := by decide +kernel
theorem d96_22 : decode (zB 96) 22 = .ok (.iastore, 1) := by decide +kernel
theorem d96_23 : decode (zB 96) 23 = .ok (.goto 22, 3) := by decide +kernel
theorem d96_26 : decode (zB 96) 26 = .ok (.iload_n 2, 1) := by decide +kernel
theorem d96_27 : decode (zB 96) 27 = .ok (.invokestatic 176, 3) := by decide +kernel
theorem d96_30 : decode (zB 96) 30 = .ok (.ifCond .eq 15, 3) := by decide +kernel
theorem d96_33 : decode (zB 96) 33 = .ok (.aload_n 0, 1) := by decide +kernel
theorem d96_34 : decode (zB 96) 34 = .ok (.aload_n 0, 1) := by decide +kernel
theorem d96_35 : decode (zB 96) 35 = .ok (.getfield 20, 3) := by decide +kernel
theorem d96_38 : decode (zB 96) 38 = .ok (.iload_n 2, 1) := by decide +kernel
theorem d96_39 : decode (zB 96) 39 = .ok (.aaload, 1) := by decide +kernel
theorem d96_40 : decode (zB 96) 40 = .ok (.iload_n 1, 1) := by decide +kernel
theorem d96_41 : decode (zB 96) 41 = .ok (.iload_n 3, 1) := by decide +kernel
theorem d96_42 : decode (zB 96) 42 = .ok (.invokevirtual 179, 3) := by decide +kernel
theorem d96_45 : decode (zB 96) 45 = .ok (.return_, 1) := by decide +kernel
theorem c96 {d : Nat} {M : zM} {Q : Option Value → zM → Prop} {lo w u j c : Nat} {T : Nat → yT} {X : yX} {e s i : Nat} (hC : CN M lo w u j T c X) (hl : yle T c X.1 (e, s, i)) (k : ∀ M', CN M' lo w u j T c (yag T X.1 (e, s, i), X.2) → Fr (FV u) M M' → Q none M') : qC (d + 6) 96 [.ref w, .int (nI e), .int (nI s), .int (nI i)] M Q := by
  refine qC_of (by decide) (Nat.le_of_ble_eq_true rfl) ?_
  have hC0 := hC
  obtain ⟨hS, hw, hT, hO, hR⟩ := hC
  have hwo := hS.wo hw
  have hd := hw.d
  have hc6 := hO.1.1
  rcases hl with ⟨rfl, h1, h2⟩ | ⟨rfl, h1, h2, h3, h4, h5⟩ | ⟨rfl, h1, h2, h3⟩ | ⟨rfl, h1, h2, ⟨t, h3⟩, h5⟩ | ⟨rfl, h1, h2, t, h3⟩ | ⟨rfl, h1, h2, h3⟩ | ⟨rfl, h1, h2⟩
  · skip
    refine q_iload_n d96_0 rfl ?_
    refine q_bipush (x := nI 6) d96_1 rfl ?_
    refine nc_ne 26 d96_3 (by decide) (by omega) (by omega) (fun _ => ?_) (fun q => absurd q (by decide))
    refine q_iload_n d96_26 rfl ?_
    refine q_s1 d96_27 (Or.inr rfl) rfl (Nat.le_of_ble_eq_true rfl) (c60t h1 ?_)
    refine n0_eq 45 d96_30 (by decide) (by decide) (fun q => absurd q (by decide)) (fun _ => ?_)
    have hs := hS.sg (hw.sg h1)
    refine q_aload_n d96_33 rfl ?_
    refine q_aload_n d96_34 rfl ?_
    refine q_getr (c := 6) (f := 3) d96_35 ⟨rfl, rfl⟩ hwo.1 hwo.2.2.2.2.1 ?_
    refine q_iload_n d96_38 rfl ?_
    refine n_aald d96_39 hwo.2.2.2.2.2.1 (by decide) (by omega) (by decide) (hwo.2.2.2.2.2.2 _ (by omega)) ?_
    refine q_iload_n d96_40 rfl ?_
    refine q_iload_n d96_41 rfl ?_
    refine q_v3 d96_42 rfl rfl hwo.1 (Nat.le_of_ble_eq_true rfl) (c97_0 hC0 h1 h2 (fun M1 hC1 f1 => ?_))
    refine q_ret d96_45 rfl ?_
    exact k _ hC1 f1
  · skip
    refine q_iload_n d96_0 rfl ?_
    refine q_bipush (x := nI 6) d96_1 rfl ?_
    refine nc_ne 26 d96_3 (by decide) (by omega) (by omega) (fun _ => ?_) (fun q => absurd q (by decide))
    refine q_iload_n d96_26 rfl ?_
    refine q_s1 d96_27 (Or.inr rfl) rfl (Nat.le_of_ble_eq_true rfl) (c60t h1 ?_)
    refine n0_eq 45 d96_30 (by decide) (by decide) (fun q => absurd q (by decide)) (fun _ => ?_)
    have hs := hS.sg (hw.sg h1)
    refine q_aload_n d96_33 rfl ?_
    refine q_aload_n d96_34 rfl ?_
    refine q_getr (c := 6) (f := 3) d96_35 ⟨rfl, rfl⟩ hwo.1 hwo.2.2.2.2.1 ?_
    refine q_iload_n d96_38 rfl ?_
    refine n_aald d96_39 hwo.2.2.2.2.2.1 (by decide) (by omega) (by decide) (hwo.2.2.2.2.2.2 _ (by omega)) ?_
    refine q_iload_n d96_40 rfl ?_
    refine q_iload_n d96_41 rfl ?_
    refine q_v3 d96_42 rfl rfl hwo.1 (Nat.le_of_ble_eq_true rfl) (c97_1 hC0 h1 h2 h3 h4 h5 (fun M1 hC1 f1 => ?_))
    refine q_ret d96_45 rfl ?_
    exact k _ hC1 f1
  · skip
    refine q_iload_n d96_0 rfl ?_
    refine q_bipush (x := nI 6) d96_1 rfl ?_
    refine nc_ne 26 d96_3 (by decide) (by omega) (by omega) (fun _ => ?_) (fun q => absurd q (by decide))
    refine q_iload_n d96_26 rfl ?_
    refine q_s1 d96_27 (Or.inr rfl) rfl (Nat.le_of_ble_eq_true rfl) (c60t h1 ?_)
    refine n0_eq 45 d96_30 (by decide) (by decide) (fun q => absurd q (by decide)) (fun _ => ?_)
    have hs := hS.sg (hw.sg h1)
    refine q_aload_n d96_33 rfl ?_
    refine q_aload_n d96_34 rfl ?_
    refine q_getr (c := 6) (f := 3) d96_35 ⟨rfl, rfl⟩ hwo.1 hwo.2.2.2.2.1 ?_
    refine q_iload_n d96_38 rfl ?_
    refine n_aald d96_39 hwo.2.2.2.2.2.1 (by decide) (by omega) (by decide) (hwo.2.2.2.2.2.2 _ (by omega)) ?_
    refine q_iload_n d96_40 rfl ?_
    refine q_iload_n d96_41 rfl ?_
    refine q_v3 d96_42 rfl rfl hwo.1 (Nat.le_of_ble_eq_true rfl) (c97_2 hC0 h1 h2 h3 (fun M1 hC1 f1 => ?_))
    refine q_ret d96_45 rfl ?_
    exact k _ hC1 f1
  · skip
    refine q_iload_n d96_0 rfl ?_
    refine q_bipush (x := nI 6) d96_1 rfl ?_
    refine nc_ne 26 d96_3 (by decide) (by omega) (by omega) (fun _ => ?_) (fun q => absurd q (by decide))
    refine q_iload_n d96_26 rfl ?_
    refine q_s1 d96_27 (Or.inr rfl) rfl (Nat.le_of_ble_eq_true rfl) (c60t h1 ?_)
    refine n0_eq 45 d96_30 (by decide) (by decide) (fun q => absurd q (by decide)) (fun _ => ?_)
    have hs := hS.sg (hw.sg h1)
    refine q_aload_n d96_33 rfl ?_
    refine q_aload_n d96_34 rfl ?_
    refine q_getr (c := 6) (f := 3) d96_35 ⟨rfl, rfl⟩ hwo.1 hwo.2.2.2.2.1 ?_
    refine q_iload_n d96_38 rfl ?_
    refine n_aald d96_39 hwo.2.2.2.2.2.1 (by decide) (by omega) (by decide) (hwo.2.2.2.2.2.2 _ (by omega)) ?_
    refine q_iload_n d96_40 rfl ?_
    refine q_iload_n d96_41 rfl ?_
    refine q_v3 d96_42 rfl rfl hwo.1 (Nat.le_of_ble_eq_true rfl) (c97_3 hC0 h1 h2 h3 h5 (fun M1 hC1 f1 => ?_))
    refine q_ret d96_45 rfl ?_
    exact k _ hC1 f1
  · skip
    refine q_iload_n d96_0 rfl ?_
    refine q_bipush (x := nI 6) d96_1 rfl ?_
    refine nc_ne 26 d96_3 (by decide) (by omega) (by omega) (fun _ => ?_) (fun q => absurd q (by decide))
    refine q_iload_n d96_26 rfl ?_
    refine q_s1 d96_27 (Or.inr rfl) rfl (Nat.le_of_ble_eq_true rfl) (c60t h1 ?_)
    refine n0_eq 45 d96_30 (by decide) (by decide) (fun q => absurd q (by decide)) (fun _ => ?_)
    have hs := hS.sg (hw.sg h1)
    refine q_aload_n d96_33 rfl ?_
    refine q_aload_n d96_34 rfl ?_
    refine q_getr (c := 6) (f := 3) d96_35 ⟨rfl, rfl⟩ hwo.1 hwo.2.2.2.2.1 ?_
    refine q_iload_n d96_38 rfl ?_
    refine n_aald d96_39 hwo.2.2.2.2.2.1 (by decide) (by omega) (by decide) (hwo.2.2.2.2.2.2 _ (by omega)) ?_
    refine q_iload_n d96_40 rfl ?_
    refine q_iload_n d96_41 rfl ?_
    refine q_v3 d96_42 rfl rfl hwo.1 (Nat.le_of_ble_eq_true rfl) (c97_4 hC0 h1 h2 h3 (fun M1 hC1 f1 => ?_))
    refine q_ret d96_45 rfl ?_
    exact k _ hC1 f1
  · skip
    refine q_iload_n d96_0 rfl ?_
    refine q_bipush (x := nI 6) d96_1 rfl ?_
    refine nc_ne 26 d96_3 (by decide) (by omega) (by omega) (fun _ => ?_) (fun q => absurd q (by decide))
    refine q_iload_n d96_26 rfl ?_
    refine q_s1 d96_27 (Or.inr rfl) rfl (Nat.le_of_ble_eq_true rfl) (c60t h1 ?_)
    refine n0_eq 45 d96_30 (by decide) (by decide) (fun q => absurd q (by decide)) (fun _ => ?_)
    have hs := hS.sg (hw.sg h1)
    refine q_aload_n d96_33 rfl ?_
    refine q_aload_n d96_34 rfl ?_
    refine q_getr (c := 6) (f := 3) d96_35 ⟨rfl, rfl⟩ hwo.1 hwo.2.2.2.2.1 ?_
    refine q_iload_n d96_38 rfl ?_
    refine n_aald d96_39 hwo.2.2.2.2.2.1 (by decide) (by omega) (by decide) (hwo.2.2.2.2.2.2 _ (by omega)) ?_
    refine q_iload_n d96_40 rfl ?_
    refine q_iload_n d96_41 rfl ?_
    refine q_v3 d96_42 rfl rfl hwo.1 (Nat.le_of_ble_eq_true rfl) (c97_5 hC0 h1 h2 h3 (fun M1 hC1 f1 => ?_))
    refine q_ret d96_45 rfl ?_
    exact k _ hC1 f1
  · skip
    have h1 : s < 6 := h1
    have h2 : i ≤ 9999 := h2
    refine q_iload_n d96_0 rfl ?_
    refine q_bipush (x := nI 6) d96_1 rfl ?_
    refine nc_ne 26 d96_3 (by decide) (by omega) (by omega) (fun q => absurd rfl q) (fun _ => ?_)
    refine q_iload_n d96_6 rfl ?_
    refine q_s1 d96_7 (Or.inr rfl) rfl (Nat.le_of_ble_eq_true rfl) (c26t h1 ?_)
    refine n0_eq 45 d96_10 (by decide) (by decide) (fun q => absurd q (by decide)) (fun _ => ?_)
    refine q_aload_n d96_13 rfl ?_
    refine q_getr (c := 6) (f := 2) d96_14 ⟨rfl, rfl⟩ hwo.1 hwo.2.2.2.1 ?_
    refine q_getr (c := 2) (f := 0) d96_17 ⟨rfl, rfl⟩ (hS.pu hw).1 (hS.pu hw).2.1 ?_
    refine q_iload_n d96_20 rfl ?_
    refine q_iload_n d96_21 rfl ?_
    refine n_iast d96_22 (hS.pu hw).2.2 (by omega) (by decide) ?_
    refine q_goto 45 d96_23 (by decide) ?_
    refine q_ret d96_45 rfl ?_
    have f1 : Fi (FU u) M (zwi M (u + 1) s (nI i)) := (Fi.refl _ _).wi (FU_1 _ _)
    exact k _ (hC0.up (X' := ysp X (yu X.1.1.1 s (nI i), X.1.1.2)) (f1.sc hS (fun a k ha q => by have := q.1; omega)) (RW_pu hw hR (RPu_b hR.1) f1.fr) ⟨hO.1, OKP_u hO.2.1 ⟨nI_pos' (by omega), nI_le h2 (by omega)⟩, hO.2.2⟩ (f1.fr.mono (Fb_m (by omega) (by omega))) (fun _ _ _ _ => rfl)) (f1.fr.mono (Fb_m (by omega) (by omega)))
end
section
/-! ===== contracts: replays, copies of worlds ===== -/
theorem yre_S {T : Nat → yT} {L : List yL} {i : Nat} (h : i < L.length) : yre T (L.take (i + 1)) = yag T (yre T (L.take i)) (L.getD i (0, 0, 0)) := by
  unfold yre
  rw [List.take_succ_eq_append_getElem h, List.foldl_append]
  simp only [List.foldl_cons, List.foldl_nil, List.getD, List.getElem?_eq_getElem h, Option.getD_some]
theorem OKW_0 {T : Nat → yT} {c : Nat} (h : c ≤ 6 ∧ ∀ i, i < c → OKT (T i)) : OKW T c yW0 := ⟨h, OKP_0, fun _ _ => OKS_0⟩
/-- the log can come so -/
def yva (T : Nat → yT) (c : Nat) (L : List yL) : Prop := ∀ k, k < L.length → yle T c (yre T (L.take k)) (L.getD k (0, 0, 0))
theorem d94_0 : decode (zB 94) 0 = .ok (.aload_n 0, 1) := by decide +kernel
theorem d94_1 : decode (zB 94) 1 = .ok (.getfield 12, 3) := by decide +kernel
theorem d94_4 : decode (zB 94) 4 = .ok (.invokevirtual 157, 3) := by decide +kernel
theorem d94_7 : decode (zB 94) 7 = .ok (.iconst 0, 1) := by decide +kernel
theorem d94_8 : decode (zB 94) 8 = .ok (.istore_n 3, 1) := by decide +kernel
theorem d94_9 : decode (zB 94) 9 = .ok (.iload_n 3, 1) := by decide +kernel
theorem d94_10 : decode (zB 94) 10 = .ok (.iconst 3, 1) := by decide +kernel
theorem d94_11 : decode (zB 94) 11 = .ok (.if_icmp .ge 18, 3) := by decide +kernel
theorem d94_14 : decode (zB 94) 14 = .ok (.aload_n 0, 1) := by decide +kernel
theorem d94_15 : decode (zB 94) 15 = .ok (.getfield 20, 3) := by decide +kernel
theorem d94_18 : decode (zB 94) 18 = .ok (.iload_n 3, 1) := by decide +kernel
theorem d94_19 : decode (zB 94) 19 = .ok (.aaload, 1) := by decide +kernel
theorem d94_20 : decode (zB 94) 20 = .ok (.invokevirtual 160, 3) := by decide +kernel
theorem d94_23 : decode (zB 94) 23 = .ok (.iinc 3 1, 3) := by decide +kernel
theorem d94_26 : decode (zB 94) 26 = .ok (.goto (-17), 3) := by decide +kernel
theorem d94_29 : decode (zB 94) 29 = .ok (.iconst 0, 1) := by decide +kernel
theorem d94_30 : decode (zB 94) 30 = .ok (.istore_n 3, 1) := by decide +kernel
theorem d94_31 : decode (zB 94) 31 = .ok (.iload_n 3, 1) := by decide +kernel
theorem d94_32 : decode (zB 94) 32 = .ok (.iload_n 2, 1) := by decide +kernel
theorem d94_33 : decode (zB 94) 33 = .ok (.if_icmp .ge 39, 3) := by decide +kernel
theorem d94_36 : decode (zB 94) 36 = .ok (.iload_n 3, 1) := by decide +kernel
theorem d94_37 : decode (zB 94) 37 = .ok (.aload_n 1, 1) := by decide +kernel
theorem d94_38 : decode (zB 94) 38 = .ok (.getfield 161, 3) := by decide +kernel
theorem d94_41 : decode (zB 94) 41 = .ok (.if_icmp .ge 31, 3) := by decide +kernel
theorem d94_44 : decode (zB 94) 44 = .ok (.aload_n 0, 1) := by decide +kernel
theorem d94_45 : decode (zB 94) 45 = .ok (.aload_n 1, 1) := by decide +kernel
theorem d94_46 : decode (zB 94) 46 = .ok (.getfield 164, 3) := by decide +kernel
theorem d94_49 : decode (zB 94) 49 = .ok (.iload_n 3, 1) := by decide +kernel
theorem d94_50 : decode (zB 94) 50 = .ok (.iaload, 1) := by decide +kernel
theorem d94_51 : decode (zB 94) 51 = .ok (.aload_n 1, 1) := by decide +kernel
theorem d94_52 : decode (zB 94) 52 = .ok (.getfield 167, 3) := by decide +kernel
theorem d94_55 : decode (zB 94) 55 = .ok (.iload_n 3, 1) := by decide +kernel
theorem d94_56 : decode (zB 94) 56 = .ok (.iaload, 1) := by decide +kernel
theorem d94_57 : decode (zB 94) 57 = .ok (.aload_n 1, 1) := by decide +kernel
theorem d94_58 : decode (zB 94) 58 = .ok (.getfield 170, 3) := by decide +kernel
theorem d94_61 : decode (zB 94) 61 = .ok (.iload_n 3, 1) := by decide +kernel
theorem d94_62 : decode (zB 94) 62 = .ok (.iaload, 1) := by decide +kernel
theorem d94_63 : decode (zB 94) 63 = .ok (.invokevirtual 173, 3) := by decide +kernel
theorem d94_66 : decode (zB 94) 66 = .ok (.iinc 3 1, 3) := by decide +kernel
theorem d94_69 : decode (zB 94) 69 = .ok (.goto (-38), 3) := by decide +kernel
theorem d94_72 : decode (zB 94) 72 = .ok (.return_, 1) := by decide +kernel
theorem l94b {d : Nat} {Q : Option Value → zM → Prop} {lo w u j c n : Nat} {T : Nat → yT} {g : Option (List yL)} {L : List yL} {M0 : zM} (hw : Wd lo w u j) (hok : c ≤ 6 ∧ ∀ i, i < c → OKT (T i)) (hL : RL M0 62 L) (hn : n ≤ L.length) (hlen : L.length ≤ 240) (hv : yva T c L) (k : ∀ M', CN M' lo w u j T c (yre T (L.take n), g) → Fr (FV u) M0 M' → Q none M') : ∀ (r i : Nat) (M1 : zM), i ≤ n → n < i + r → CN M1 lo w u j T c (yre T (L.take i), g) → Fr (FV u) M0 M1 → qW (zEv (d + 6)) 94 Q 31 [(3, .int (nI i)), (0, .ref w), (1, .ref 62), (2, .int (nI n))] [] M1 := by
  intro r
  induction r with
  | zero => intros; omega
  | succ r ih =>
    intro i M1 h1 h2 hC hF
    have hd := hw.d
    have hS := hC.1
    have hs62 := hS.2.2.2.1
    have hwo := hS.wo hw
    have hL1 : RL M1 62 L := RL_fr hL hF (fun b k h1 h2 q => by have := q.1; have := q.2; rcases hw with e | e <;> omega)
    refine q_iload_n d94_31 rfl ?_
    refine q_iload_n d94_32 rfl ?_
    refine nc_ge 72 d94_33 (by decide) (by omega) (by omega) (fun h33 => ?_) (fun h33 => ?_)
    · refine q_ret d94_72 rfl ?_
      have e : i = n := by omega
      subst e
      exact k _ hC hF
    · refine q_iload_n d94_36 rfl ?_
      refine q_aload_n d94_37 rfl ?_
      refine q_getv (c := 0) (f := 3) d94_38 ⟨rfl, by decide⟩ hs62.1 hL1.1 ?_
      refine nc_ge 72 d94_41 (by decide) (by omega) (by omega) (fun h41 => (False.elim (by omega))) (fun h41 => ?_)
      refine q_aload_n d94_44 rfl ?_
      refine q_aload_n d94_45 rfl ?_
      refine q_getr (c := 0) (f := 0) d94_46 ⟨rfl, rfl⟩ hs62.1 (hs62.2 0 (by decide)).1 ?_
      refine q_iload_n d94_49 rfl ?_
      refine n_iald d94_50 (hs62.2 0 (by decide)).2 (by omega) (by decide) (hL1.2 _ (by omega)).1 ?_
      refine q_aload_n d94_51 rfl ?_
      refine q_getr (c := 0) (f := 1) d94_52 ⟨rfl, rfl⟩ hs62.1 (hs62.2 1 (by decide)).1 ?_
      refine q_iload_n d94_55 rfl ?_
      refine n_iald d94_56 (hs62.2 1 (by decide)).2 (by omega) (by decide) (hL1.2 _ (by omega)).2.1 ?_
      refine q_aload_n d94_57 rfl ?_
      refine q_getr (c := 0) (f := 2) d94_58 ⟨rfl, rfl⟩ hs62.1 (hs62.2 2 (by decide)).1 ?_
      refine q_iload_n d94_61 rfl ?_
      refine n_iald d94_62 (hs62.2 2 (by decide)).2 (by omega) (by decide) (hL1.2 _ (by omega)).2.2 ?_
      refine q_v3 d94_63 rfl rfl hwo.1 (Nat.le_of_ble_eq_true rfl) (c96 hC (hv i (by omega)) (fun M2 hC2 f2 => ?_))
      refine n_iinc 1 d94_66 (by decide) rfl rfl ?_
      refine q_goto 31 d94_69 (by decide) ?_
      exact ih (i + 1) _ (by omega) (by omega) (by rw [yre_S (by omega)]; exact hC2) (hF.trans f2)
theorem l94a {d : Nat} {Q : Option Value → zM → Prop} {lo w u j c n : Nat} {T : Nat → yT} {g : Option (List yL)} {L : List yL} {M0 : zM} (hS0 : SC M0) (hT0 : RTx M0 T c) (hJ : RJ M0 j g) (hw : Wd lo w u j) (hok : c ≤ 6 ∧ ∀ i, i < c → OKT (T i)) (hL : RL M0 62 L) (hn : n ≤ L.length) (hlen : L.length ≤ 240) (hv : yva T c L) (k : ∀ M', CN M' lo w u j T c (yre T (L.take n), g) → Fr (FV u) M0 M' → Q none M') : ∀ (r i : Nat) (M1 : zM), i ≤ 3 → 3 < i + r → SC M1 → RPu M1 u yP0 → (∀ r, r < i → RS M1 (u + 3 + 8 * r) T (yNm T yW0 r) yS0) → Fr (FV u) M0 M1 → qW (zEv (d + 6)) 94 Q 9 [(3, .int (nI i)), (0, .ref w), (1, .ref 62), (2, .int (nI n))] [] M1 := by
  intro r
  induction r with
  | zero => intros; omega
  | succ r ih =>
    intro i M1 h1 h2 hS hP hs hF
    have hd := hw.d
    have hwo := hS.wo hw
    refine q_iload_n d94_9 rfl ?_
    refine q_iconstN (z := 3) d94_10 ?_
    refine nc_ge 29 d94_11 (by decide) (by omega) (by omega) (fun h11 => ?_) (fun h11 => ?_)
    · refine q_iconstN (z := 0) d94_29 ?_
      refine q_istore_n d94_30 (by decide) rfl ?_
      exact l94b hw hok hL hn hlen hv k (n + 1) 0 M1 (by omega) (by omega) ⟨hS, hw, RTx_fr hT0 hok.1 hF (fun b k h1 h2 q => by have := q.1; omega), OKW_0 hok, hP, fun r hr => hs r (by omega), RJ_fr hJ hF (fun b k h1 h2 q => by have := q.1; omega)⟩ hF
    · refine q_aload_n d94_14 rfl ?_
      refine q_getr (c := 6) (f := 3) d94_15 ⟨rfl, rfl⟩ hwo.1 hwo.2.2.2.2.1 ?_
      refine q_iload_n d94_18 rfl ?_
      refine n_aald d94_19 hwo.2.2.2.2.2.1 (by decide) (by omega) (by decide) (hwo.2.2.2.2.2.2 _ (by omega)) ?_
      refine q_v0 d94_20 rfl rfl (hS.sg (hw.sg (by omega))).1 (Nat.le_of_ble_eq_true rfl) (c63 (T := T) (nm := yNm T yW0 i) hS (hw.sg (by omega)) (fun M2 hR2 f2 hS2 => ?_))
      refine n_iinc 1 d94_23 (by decide) rfl rfl ?_
      refine q_goto 9 d94_26 (by decide) ?_
      refine ih (i + 1) _ (by omega) (by omega) hS2 (RPu_fr hP f2 (fun b k h1 h2 q => by have := q.1; omega)) (fun r hr => ?_) (hF.trans (f2.mono (Fb_m (by omega) (by omega))))
      by_cases e : r = i
      · subst e; exact hR2
      · exact RS_fr (hs r (by omega)) f2 (fun b k h1 h2 q => by have := q.1; have := q.2; omega)
theorem c94 {d : Nat} {M : zM} {Q : Option Value → zM → Prop} {lo w u j c n : Nat} {T : Nat → yT} {g : Option (List yL)} {L : List yL} (hS0 : SC M) (hT0 : RTx M T c) (hJ : RJ M j g) (hw : Wd lo w u j) (hok : c ≤ 6 ∧ ∀ i, i < c → OKT (T i)) (hL : RL M 62 L) (hn : n ≤ L.length) (hlen : L.length ≤ 240) (hv : yva T c L) (k : ∀ M', CN M' lo w u j T c (yre T (L.take n), g) → Fr (FV u) M M' → Q none M') : qC (d + 7) 94 [.ref w, .ref 62, .int (nI n)] M Q := by
  have hd := hw.d
  have hwo := hS0.wo hw
  refine qC_of (by decide) (Nat.le_of_ble_eq_true rfl) ?_
  refine q_aload_n d94_0 rfl ?_
  refine q_getr (c := 6) (f := 2) d94_1 ⟨rfl, rfl⟩ hwo.1 hwo.2.2.2.1 ?_
  refine q_v0 d94_4 rfl rfl (hS0.pu hw).1 (Nat.le_of_ble_eq_true rfl) (c95 (hS0.pu hw) (fun M1 hP1 f1 => ?_))
  refine q_iconstN (z := 0) d94_7 ?_
  refine q_istore_n d94_8 (by decide) rfl ?_
  exact l94a hS0 hT0 hJ hw hok hL hn hlen hv k 4 0 M1 (by omega) (by omega) (f1.sc hS0 (fun a k ha q => by have := q.1; omega)) hP1 (fun r hr => absurd hr (by omega)) (f1.fr.mono (Fb_m (by omega) (by omega)))
theorem d101_0 : decode (zB 101) 0 = .ok (.aload_n 0, 1) := by decide +kernel
theorem d101_1 : decode (zB 101) 1 = .ok (.getfield 12, 3) := by decide +kernel
theorem d101_4 : decode (zB 101) 4 = .ok (.aload_n 1, 1) := by decide +kernel
theorem d101_5 : decode (zB 101) 5 = .ok (.getfield 12, 3) := by decide +kernel
theorem d101_8 : decode (zB 101) 8 = .ok (.invokevirtual 33, 3) := by decide +kernel
theorem d101_11 : decode (zB 101) 11 = .ok (.iconst 0, 1) := by decide +kernel
theorem d101_12 : decode (zB 101) 12 = .ok (.istore_n 2, 1) := by decide +kernel
theorem d101_13 : decode (zB 101) 13 = .ok (.iload_n 2, 1) := by decide +kernel
theorem d101_14 : decode (zB 101) 14 = .ok (.iconst 3, 1) := by decide +kernel
theorem d101_15 : decode (zB 101) 15 = .ok (.if_icmp .ge 24, 3) := by decide +kernel
theorem d101_18 : decode (zB 101) 18 = .ok (.aload_n 0, 1) := by decide +kernel
theorem d101_19 : decode (zB 101) 19 = .ok (.getfield 20, 3) := by decide +kernel
theorem d101_22 : decode (zB 101) 22 = .ok (.iload_n 2, 1) := by decide +kernel
theorem d101_23 : decode (zB 101) 23 = .ok (.aaload, 1) := by decide +kernel
theorem d101_24 : decode (zB 101) 24 = .ok (.aload_n 1, 1) := by decide +kernel
theorem d101_25 : decode (zB 101) 25 = .ok (.getfield 20, 3) := by decide +kernel
theorem d101_28 : decode (zB 101) 28 = .ok (.iload_n 2, 1) := by decide +kernel
theorem d101_29 : decode (zB 101) 29 = .ok (.aaload, 1) := by decide +kernel
theorem d101_30 : decode (zB 101) 30 = .ok (.invokevirtual 37, 3) := by decide +kernel
theorem d101_33 : decode (zB 101) 33 = .ok (.iinc 2 1, 3) := by decide +kernel
theorem d101_36 : decode (zB 101) 36 = .ok (.goto (-23), 3) := by decide +kernel
theorem d101_39 : decode (zB 101) 39 = .ok (.return_, 1) := by decide +kernel
theorem gz_12 {T : Nat → yT} {c r : Nat} {W : yW} (h : OKW T c W) (hr : r < 3) : gz T (W.2 r) ≤ 12 := by
  unfold gz
  split
  · omega
  · rename_i q; exact (h.1.2 _ ((h.2.2 r hr).2.1 q)).n
theorem l101 {d : Nat} {Q : Option Value → zM → Prop} {c : Nat} {T : Nat → yT} {nm : Nat → Nat → Int32} {X : yX} {M0 : zM} (hC0 : CW M0 62 66 67 62 T c nm X) (k : ∀ M', CW M' 94 94 99 95 T c nm (X.1, none) → Fr (FV 99) M0 M' → Q none M') : ∀ (r i : Nat) (M1 : zM), i ≤ 3 → 3 < i + r → SC M1 → RPu M1 99 X.1.1 → (∀ r, r < i → RS M1 (102 + 8 * r) T (nm r) (X.1.2 r)) → Fr (FV 99) M0 M1 → qW (zEv (d + 1)) 101 Q 13 [(2, .int (nI i)), (0, .ref 94), (1, .ref 66)] [] M1 := by
  intro r
  induction r with
  | zero => intros; omega
  | succ r ih =>
    intro i M1 h1 h2 hS hP hs hF
    have hwt := hS.wo (Or.inr ⟨rfl, rfl, rfl, rfl⟩)
    have hwr := hS.wo (Or.inl ⟨rfl, rfl, rfl, rfl⟩)
    have hz : ∀ r, r < 3 → gz T (X.1.2 r) ≤ 12 := fun r hr => gz_12 hC0.2.2.2.1 hr
    refine q_iload_n d101_13 rfl ?_
    refine q_iconstN (z := 3) d101_14 ?_
    refine nc_ge 39 d101_15 (by decide) (by omega) (by omega) (fun h15 => ?_) (fun h15 => ?_)
    · refine q_ret d101_39 rfl ?_
      exact k _ ⟨hS, Or.inr ⟨rfl, rfl, rfl, rfl⟩, RTx_fr hC0.2.2.1 hC0.2.2.2.1.1.1 hF (fun b k h1 h2 q => by have := q.1; omega), hC0.2.2.2.1, hP, fun r hr => hs r (by omega), rfl⟩ hF
    · refine q_aload_n d101_18 rfl ?_
      refine q_getr (c := 6) (f := 3) d101_19 ⟨rfl, rfl⟩ hwt.1 hwt.2.2.2.2.1 ?_
      refine q_iload_n d101_22 rfl ?_
      refine n_aald d101_23 hwt.2.2.2.2.2.1 (by decide) (by omega) (by decide) (hwt.2.2.2.2.2.2 _ (by omega)) ?_
      refine q_aload_n d101_24 rfl ?_
      refine q_getr (c := 6) (f := 3) d101_25 ⟨rfl, rfl⟩ hwr.1 hwr.2.2.2.2.1 ?_
      refine q_iload_n d101_28 rfl ?_
      refine n_aald d101_29 hwr.2.2.2.2.2.1 (by decide) (by omega) (by decide) (hwr.2.2.2.2.2.2 _ (by omega)) ?_
      refine q_v1 d101_30 rfl rfl (hS.sg (by unfold zSa; omega)).1 (Nat.le_of_ble_eq_true rfl) (c102 (T := T) (nm := nm i) (S := X.1.2 i) hS (by unfold zSa; omega) (by unfold zSa; omega) (by omega) (RS_fr (hC0.2.2.2.2.2.1 i (by omega)) hF (fun b k h1 h2 q => by have := q.1; omega)) (Nat.le_trans (OKS_len (hC0.2.2.2.1.2.2 i (by omega)) (hz i (by omega))) (hz i (by omega))) (hz i (by omega)) (fun M2 hR2 f2 hS2 => ?_))
      refine n_iinc 1 d101_33 (by decide) rfl rfl ?_
      refine q_goto 13 d101_36 (by decide) ?_
      refine ih (i + 1) _ (by omega) (by omega) hS2 (RPu_fr hP f2 (fun b k h1 h2 q => by have := q.1; omega)) (fun r hr => ?_) (hF.trans (f2.mono (Fb_m (by omega) (by omega))))
      by_cases e : r = i
      · subst e; exact hR2
      · exact RS_fr (hs r (by omega)) f2 (fun b k h1 h2 q => by have := q.1; have := q.2; omega)
theorem c101 {d : Nat} {M : zM} {Q : Option Value → zM → Prop} {c : Nat} {T : Nat → yT} {nm : Nat → Nat → Int32} {X : yX} (hC0 : CW M 62 66 67 62 T c nm X) (k : ∀ M', CW M' 94 94 99 95 T c nm (X.1, none) → Fr (FV 99) M M' → Q none M') : qC (d + 2) 101 [.ref 94, .ref 66] M Q := by
  have hS := hC0.1
  have hwt := hS.wo (Or.inr ⟨rfl, rfl, rfl, rfl⟩)
  have hwr := hS.wo (Or.inl ⟨rfl, rfl, rfl, rfl⟩)
  have hpt := hS.pu (Or.inr ⟨rfl, rfl, rfl, rfl⟩)
  have hpr := hS.pu (Or.inl ⟨rfl, rfl, rfl, rfl⟩)
  refine qC_of (by decide) (Nat.le_of_ble_eq_true rfl) ?_
  refine q_aload_n d101_0 rfl ?_
  refine q_getr (c := 6) (f := 2) d101_1 ⟨rfl, rfl⟩ hwt.1 hwt.2.2.2.1 ?_
  refine q_aload_n d101_4 rfl ?_
  refine q_getr (c := 6) (f := 2) d101_5 ⟨rfl, rfl⟩ hwr.1 hwr.2.2.2.1 ?_
  refine q_v1 d101_8 rfl rfl hpt.1 (Nat.le_of_ble_eq_true rfl) (c42 hpt hpr hC0.2.2.2.2.1 (by omega) (fun M1 hP1 f1 => ?_))
  refine q_iconstN (z := 0) d101_11 ?_
  refine q_istore_n d101_12 (by decide) rfl ?_
  exact l101 hC0 k 4 0 M1 (by omega) (by omega) (f1.sc hS (fun a k ha q => by have := q.1; omega)) hP1 (fun r hr => absurd hr (by omega)) (f1.fr.mono (Fb_m (by omega) (by omega)))
def ydr (S : yS) : yS := gqS (gpS S (fun _ => 0)) (fun _ => 0)
/-- the first n sagas' plans are dropped -/
def ydp (n : Nat) (X : yX) : yX := ((X.1.1, fun s => if s < n then ydr (X.1.2 s) else X.1.2 s), X.2)
theorem RS_dr {M M' : zM} {a : Nat} {T : Nat → yT} {nm : Nat → Int32} {S : yS} (h : RS M a T nm S) (hp : ∀ j, j < 12 → zi M' (a + 4) j = nI 0 ∧ zi M' (a + 5) j = nI 0) (f : Fi (fun b _ => b = a + 4 ∨ b = a + 5) M M') : RS M' a T nm (ydr S) := by
  have g : ∀ b k, b ≠ a + 4 → b ≠ a + 5 → zi M' b k = zi M b k := fun b k n n2 => f.1 b k (by omega)
  obtain ⟨⟨h1, h2, h3⟩, ⟨h4, h5, h6⟩, ⟨h7, h8⟩, h9, ha, hb⟩ := h
  exact ⟨⟨(g _ _ (by omega) (by omega)).trans h1, (g _ _ (by omega) (by omega)).trans h2, (f.r _ _).trans h3⟩, ⟨(g _ _ (by omega) (by omega)).trans h4, (g _ _ (by omega) (by omega)).trans h5, (g _ _ (by omega) (by omega)).trans h6⟩,
    ⟨(g _ _ (by omega) (by omega)).trans h7, fun k hk => (g _ _ (by omega) (by omega)).trans (h8 k hk)⟩, fun k hk => (g _ _ (by omega) (by omega)).trans (h9 k hk), fun k hk he => (g _ _ (by omega) (by omega)).trans (ha k hk he),
    fun k hk => ⟨(hp k hk).1, (hp k hk).2, (g _ _ (by omega) (by omega)).trans (hb k hk).2.2.1, (g _ _ (by omega) (by omega)).trans (hb k hk).2.2.2⟩⟩
theorem ydp_S {i : Nat} {X : yX} : yss (ydp i X) i (ydr (X.1.2 i)) = ydp (i + 1) X := by
  unfold ydp yss
  simp only []
  congr 2
  funext s
  by_cases e : s = i
  · subst e; rw [yu_s, if_pos (by omega)]
  · rw [yu_n e]
    by_cases h : s < i
    · rw [if_pos h, if_pos (by omega)]
    · rw [if_neg h, if_neg (by omega)]
theorem ydp_ok {T : Nat → yT} {c n : Nat} {X : yX} (h : OKW T c X.1) : OKW T c (ydp n X).1 := ⟨h.1, h.2.1, fun s hs => by
  show OKS T c (if s < n then ydr (X.1.2 s) else X.1.2 s)
  split
  · exact h.2.2 s hs
  · exact h.2.2 s hs⟩
theorem d108_0 : decode (zB 108) 0 = .ok (.iconst 0, 1) := by decide +kernel
theorem d108_1 : decode (zB 108) 1 = .ok (.istore_n 1, 1) := by decide +kernel
theorem d108_2 : decode (zB 108) 2 = .ok (.iload_n 1, 1) := by decide +kernel
theorem d108_3 : decode (zB 108) 3 = .ok (.iconst 3, 1) := by decide +kernel
theorem d108_4 : decode (zB 108) 4 = .ok (.if_icmp .ge 18, 3) := by decide +kernel
theorem d108_7 : decode (zB 108) 7 = .ok (.aload_n 0, 1) := by decide +kernel
theorem d108_8 : decode (zB 108) 8 = .ok (.getfield 20, 3) := by decide +kernel
theorem d108_11 : decode (zB 108) 11 = .ok (.iload_n 1, 1) := by decide +kernel
theorem d108_12 : decode (zB 108) 12 = .ok (.aaload, 1) := by decide +kernel
theorem d108_13 : decode (zB 108) 13 = .ok (.invokevirtual 40, 3) := by decide +kernel
theorem d108_16 : decode (zB 108) 16 = .ok (.iinc 1 1, 3) := by decide +kernel
theorem d108_19 : decode (zB 108) 19 = .ok (.goto (-17), 3) := by decide +kernel
theorem d108_22 : decode (zB 108) 22 = .ok (.return_, 1) := by decide +kernel
theorem l108 {d : Nat} {Q : Option Value → zM → Prop} {lo w u j c : Nat} {T : Nat → yT} {nm : Nat → Nat → Int32} {X : yX} {M0 : zM} (hO : OKW T c X.1) (hw : Wd lo w u j) (k : ∀ M', CW M' lo w u j T c nm (ydp 3 X) → Fi (FW lo) M0 M' → Q none M') : ∀ (r i : Nat) (M1 : zM), i ≤ 3 → 3 < i + r → CW M1 lo w u j T c nm (ydp i X) → Fi (FW lo) M0 M1 → qW (zEv (d + 2)) 108 Q 2 [(1, .int (nI i)), (0, .ref w)] [] M1 := by
  intro r
  induction r with
  | zero => intros; omega
  | succ r ih =>
    intro i M1 h1 h2 hC hF
    have hd := hw.d
    have hwo := hC.1.wo hw
    refine q_iload_n d108_2 rfl ?_
    refine q_iconstN (z := 3) d108_3 ?_
    refine nc_ge 22 d108_4 (by decide) (by omega) (by omega) (fun h4 => ?_) (fun h4 => ?_)
    · refine q_ret d108_22 rfl ?_
      rw [show i = 3 by omega] at hC
      exact k _ hC hF
    · refine q_aload_n d108_7 rfl ?_
      refine q_getr (c := 6) (f := 3) d108_8 ⟨rfl, rfl⟩ hwo.1 hwo.2.2.2.2.1 ?_
      refine q_iload_n d108_11 rfl ?_
      refine n_aald d108_12 hwo.2.2.2.2.2.1 (by decide) (by omega) (by decide) (hwo.2.2.2.2.2.2 _ (by omega)) ?_
      refine q_v0 d108_13 rfl rfl (hC.1.sg (hw.sg (by omega))).1 (Nat.le_of_ble_eq_true rfl) (c64 (hC.1.sg (hw.sg (by omega))) (fun M2 hp2 f2 => ?_))
      refine n_iinc 1 d108_16 (by decide) rfl rfl ?_
      refine q_goto 2 d108_19 (by decide) ?_
      have f2' : Fi (FS (u + 3 + 8 * i)) M1 M2 := f2.mono (fun b _ q => FS_x (by omega) (by omega))
      have e1 : (ydp i X).1.2 i = X.1.2 i := if_neg (by omega)
      have hRi := hC.2.2.2.2.2.1 i (by omega)
      rw [e1] at hRi
      have hR2 := RW_sg hw hC.2.2.2.2 (show i < 3 by omega) (RS_dr hRi hp2 f2) f2'.fr
      rw [ydp_S] at hR2
      exact ih (i + 1) _ (by omega) (by omega) (hC.up hR2 (ydp_ok hO) (f2'.mono (Fb_m (by omega) (by omega)))) (hF.trans (f2'.mono (Fb_m (by omega) (by omega))))
theorem c108 {d : Nat} {M : zM} {Q : Option Value → zM → Prop} {lo w u j c : Nat} {T : Nat → yT} {nm : Nat → Nat → Int32} {X : yX} (hC : CW M lo w u j T c nm X) (k : ∀ M', CW M' lo w u j T c nm (ydp 3 X) → Fi (FW lo) M M' → Q none M') : qC (d + 3) 108 [.ref w] M Q := by
  have hwo := hC.1.wo hC.2.1
  refine qC_of (by decide) (Nat.le_of_ble_eq_true rfl) ?_
  refine q_iconstN (z := 0) d108_0 ?_
  refine q_istore_n d108_1 (by decide) rfl ?_
  exact l108 hC.2.2.2.1 hC.2.1 k 4 0 M (by omega) (by omega) hC (Fi.refl _ _)
def yac1 (S : yS) : Nat := if gt S = 1 ∨ gt S = 2 then 1 else 0
def yact (W : yW) : Nat → Nat
  | 0 => 0
  | n + 1 => yact W n + yac1 (W.2 n)
theorem yact_le (W : yW) : ∀ n, yact W n ≤ n
  | 0 => Nat.le_refl _
  | n + 1 => by have := yact_le W n; unfold yact yac1; split <;> omega
theorem yact_t {W : yW} {n : Nat} (h : decide (gt (W.2 n) = 1 ∨ gt (W.2 n) = 2) = true) : yact W (n + 1) = yact W n + 1 := by
  have : yact W (n + 1) = yact W n + yac1 (W.2 n) := rfl
  rw [this]; unfold yac1; rw [if_pos (of_decide_eq_true h)]
theorem yact_f {W : yW} {n : Nat} (h : decide (gt (W.2 n) = 1 ∨ gt (W.2 n) = 2) = false) : yact W (n + 1) = yact W n := by
  have : yact W (n + 1) = yact W n + yac1 (W.2 n) := rfl
  rw [this]; unfold yac1; rw [if_neg (of_decide_eq_false h)]; rfl
theorem d124_0 : decode (zB 124) 0 = .ok (.iconst 0, 1) := by decide +kernel
theorem d124_1 : decode (zB 124) 1 = .ok (.istore_n 1, 1) := by decide +kernel
theorem d124_2 : decode (zB 124) 2 = .ok (.iconst 0, 1) := by decide +kernel
theorem d124_3 : decode (zB 124) 3 = .ok (.istore_n 2, 1) := by decide +kernel
theorem d124_4 : decode (zB 124) 4 = .ok (.iload_n 2, 1) := by decide +kernel
theorem d124_5 : decode (zB 124) 5 = .ok (.iconst 3, 1) := by decide +kernel
theorem d124_6 : decode (zB 124) 6 = .ok (.if_icmp .ge 24, 3) := by decide +kernel
theorem d124_9 : decode (zB 124) 9 = .ok (.aload_n 0, 1) := by decide +kernel
theorem d124_10 : decode (zB 124) 10 = .ok (.getfield 20, 3) := by decide +kernel
theorem d124_13 : decode (zB 124) 13 = .ok (.iload_n 2, 1) := by decide +kernel
theorem d124_14 : decode (zB 124) 14 = .ok (.aaload, 1) := by decide +kernel
theorem d124_15 : decode (zB 124) 15 = .ok (.invokevirtual 43, 3) := by decide +kernel
theorem d124_18 : decode (zB 124) 18 = .ok (.ifCond .eq 6, 3) := by decide +kernel
theorem d124_21 : decode (zB 124) 21 = .ok (.iinc 1 1, 3) := by decide +kernel
theorem d124_24 : decode (zB 124) 24 = .ok (.iinc 2 1, 3) := by decide +kernel
theorem d124_27 : decode (zB 124) 27 = .ok (.goto (-23), 3) := by decide +kernel
theorem d124_30 : decode (zB 124) 30 = .ok (.iload_n 1, 1) := by decide +kernel
theorem d124_31 : decode (zB 124) 31 = .ok (.ireturn, 1) := by decide +kernel
theorem l124 {d : Nat} {M : zM} {Q : Option Value → zM → Prop} {lo w u j c : Nat} {T : Nat → yT} {nm : Nat → Nat → Int32} {X : yX} (hC : CW M lo w u j T c nm X) (k : Q (some (.int (nI (yact X.1 3)))) M) : ∀ (r i : Nat), i ≤ 3 → 3 < i + r → qW (zEv (d + 1)) 124 Q 4 [(2, .int (nI i)), (1, .int (nI (yact X.1 i))), (0, .ref w)] [] M := by
  intro r
  induction r with
  | zero => intros; omega
  | succ r ih =>
    intro i  h1 h2 
    have hwo := hC.1.wo hC.2.1
    have hle := yact_le X.1 i
    refine q_iload_n d124_4 rfl ?_
    refine q_iconstN (z := 3) d124_5 ?_
    refine nc_ge 30 d124_6 (by decide) (by omega) (by omega) (fun h6 => ?_) (fun h6 => ?_)
    · refine q_iload_n d124_30 rfl ?_
      refine q_iret d124_31 rfl ?_
      rw [show i = 3 by omega]; exact k
    · refine q_aload_n d124_9 rfl ?_
      refine q_getr (c := 6) (f := 3) d124_10 ⟨rfl, rfl⟩ hwo.1 hwo.2.2.2.2.1 ?_
      refine q_iload_n d124_13 rfl ?_
      refine n_aald d124_14 hwo.2.2.2.2.2.1 (by decide) (by omega) (by decide) (hwo.2.2.2.2.2.2 _ (by omega)) ?_
      refine q_v0 d124_15 rfl rfl (hC.1.sg (hC.2.1.sg (by omega))).1 (Nat.le_of_ble_eq_true rfl) (c61 (hC.1.sg (hC.2.1.sg (by omega))) (hC.2.2.2.2.2.1 i (by omega)).1.1 (hC.2.2.2.1.2.2 i (by omega)).1 ?_)
      refine b0_eq 24 d124_18 (by decide) (fun h18 => ?_) (fun h18 => ?_)
      · refine n_iinc 1 d124_24 (by decide) rfl rfl ?_
        refine q_goto 4 d124_27 (by decide) ?_
        first
        | (rw [← yact_t h18]; exact ih (i + 1) (by omega) (by omega))
        | (rw [← yact_f h18]; exact ih (i + 1) (by omega) (by omega))
      · refine n_iinc 1 d124_21 (by decide) rfl rfl ?_
        refine n_iinc 1 d124_24 (by decide) rfl rfl ?_
        refine q_goto 4 d124_27 (by decide) ?_
        first
        | (rw [← yact_t h18]; exact ih (i + 1) (by omega) (by omega))
        | (rw [← yact_f h18]; exact ih (i + 1) (by omega) (by omega))
theorem c124 {d : Nat} {M : zM} {Q : Option Value → zM → Prop} {lo w u j c : Nat} {T : Nat → yT} {nm : Nat → Nat → Int32} {X : yX} (hC : CW M lo w u j T c nm X) (k : Q (some (.int (nI (yact X.1 3)))) M) : qC (d + 2) 124 [.ref w] M Q := by
  have hwo := hC.1.wo hC.2.1
  refine qC_of (by decide) (Nat.le_of_ble_eq_true rfl) ?_
  refine q_iconstN (z := 0) d124_0 ?_
  refine q_istore_n d124_1 (by decide) rfl ?_
  refine q_iconstN (z := 0) d124_2 ?_
  refine q_istore_n d124_3 (by decide) rfl ?_
  exact l124 hC k 4 0 (by omega) (by omega)
end
section
/-! ===== contracts: rows, small questions ===== -/
theorem n_idec {R : zRT} {m : Nat} {Q : Option Value → zM → Prop} {pc : Nat} {l l' : List (Nat × Value)} {st : List Value} {M : zM} {j x : Nat} (hd : decode (zB m) pc = .ok (.iinc j (-1), 3)) (hj : j < zML m) (hx : zld l j = some (.int (nI x))) (h1 : 1 ≤ x) (hl : zst l j (.int (nI (x - 1))) = l') (k : qW R m Q (pc + 3) l' st M) : qW R m Q pc l st M :=
  q_iinc hd hj hx (by rw [← pk_sub h1]; rw [show (Int32.ofInt (-1)) = -nI 1 by decide, ← Int32.sub_eq_add_neg]) hl k
theorem n_max0 (n : Nat) (h : n < 2147483648) : (if nI 0 < nI n then nI n else nI 0) = nI n := by
  by_cases e : n = 0
  · subst e; rw [if_neg (nI_nlt (Nat.le_refl 0) (by omega))]
  · rw [if_pos (nI_lt (by omega) h)]
theorem n_maxN {a b : Nat} (ha : a < 2147483648) (hb : b < 2147483648) : (if nI a < nI b then nI b else nI a) = nI (max a b) := by
  by_cases h : a < b
  · rw [if_pos (nI_lt h hb), Nat.max_eq_right (by omega)]
  · rw [if_neg (nI_nlt (by omega) ha), Nat.max_eq_left (by omega)]
def ush (x y : Int32) : Int32 := (x.toUInt32 >>> (y.toUInt32 &&& Int32.toUInt32 31)).toInt32
theorem d121_0 : decode (zB 121) 0 = .ok (.aload_n 0, 1) := by decide +kernel
theorem d121_1 : decode (zB 121) 1 = .ok (.iload_n 1, 1) := by decide +kernel
theorem d121_2 : decode (zB 121) 2 = .ok (.putfield 9, 3) := by decide +kernel
theorem d121_5 : decode (zB 121) 5 = .ok (.aload_n 0, 1) := by decide +kernel
theorem d121_6 : decode (zB 121) 6 = .ok (.iconst 0, 1) := by decide +kernel
theorem d121_7 : decode (zB 121) 7 = .ok (.iload_n 2, 1) := by decide +kernel
theorem d121_8 : decode (zB 121) 8 = .ok (.bipush 40, 2) := by decide +kernel
theorem d121_10 : decode (zB 121) 10 = .ok (.invokestatic 19, 3) := by decide +kernel
theorem d121_13 : decode (zB 121) 13 = .ok (.invokestatic 25, 3) := by decide +kernel
theorem d121_16 : decode (zB 121) 16 = .ok (.putfield 28, 3) := by decide +kernel
theorem d121_19 : decode (zB 121) 19 = .ok (.aload_n 0, 1) := by decide +kernel
theorem d121_20 : decode (zB 121) 20 = .ok (.getfield 15, 3) := by decide +kernel
theorem d121_23 : decode (zB 121) 23 = .ok (.iconst 0, 1) := by decide +kernel
theorem d121_24 : decode (zB 121) 24 = .ok (.invokestatic 31, 3) := by decide +kernel
theorem d121_27 : decode (zB 121) 27 = .ok (.return_, 1) := by decide +kernel
theorem c121 {d : Nat} {M : zM} {Q : Option Value → zM → Prop} {a n : Nat} {so : Int32} (hs : SRo M a) (hn : n ≤ 40) (k : ∀ M', zi M' a 0 = so → zi M' a 1 = nI n → Fi (Fb a (a + 2)) M M' → Q none M') : qC (d + 2) 121 [.ref a, .int so, .int (nI n)] M Q := by
  refine qC_of (by decide) (Nat.le_of_ble_eq_true rfl) ?_
  refine q_aload_n d121_0 rfl ?_
  refine q_iload_n d121_1 rfl ?_
  refine q_puti (c := 4) (f := 0) d121_2 ⟨rfl, rfl, by decide⟩ hs.1 ?_
  refine q_aload_n d121_5 rfl ?_
  refine q_iconstN (z := 0) d121_6 ?_
  refine q_iload_n d121_7 rfl ?_
  refine q_bipush (x := nI 40) d121_8 rfl ?_
  refine q_min d121_10 rfl (Nat.le_of_ble_eq_true rfl) ?_
  rw [if_neg (nI_nlt (by omega) (by omega))]
  refine q_max d121_13 rfl (Nat.le_of_ble_eq_true rfl) ?_
  rw [n_max0 _ (by omega)]
  refine q_puti (c := 4) (f := 1) d121_16 ⟨rfl, rfl, by decide⟩ hs.1 ?_
  refine q_aload_n d121_19 rfl ?_
  refine q_getr (c := 4) (f := 2) d121_20 ⟨rfl, rfl⟩ hs.1 hs.2.1 ?_
  refine q_iconstN (z := 0) d121_23 ?_
  refine q_s2 d121_24 (Or.inl rfl) rfl (Nat.le_of_ble_eq_true rfl) (c6 hs.2.2 (by decide) (fun M1 hv f1 => ?_))
  refine q_ret d121_27 rfl ?_
  refine k _ ?_ ?_ ((((Fi.refl _ _).wi ⟨by omega, by omega⟩).wi ⟨by omega, by omega⟩).trans (f1.mono (fun b _ q => ⟨by omega, by omega⟩)))
  · rw [f1.1 _ _ (by omega)]; rw [wi_n (Or.inr (by decide)), wi_s]
  · rw [f1.1 _ _ (by omega)]; rw [wi_s]
theorem d122_0 : decode (zB 122) 0 = .ok (.iload_n 1, 1) := by decide +kernel
theorem d122_1 : decode (zB 122) 1 = .ok (.iconst 0, 1) := by decide +kernel
theorem d122_2 : decode (zB 122) 2 = .ok (.aload_n 0, 1) := by decide +kernel
theorem d122_3 : decode (zB 122) 3 = .ok (.getfield 28, 3) := by decide +kernel
theorem d122_6 : decode (zB 122) 6 = .ok (.iconst 1, 1) := by decide +kernel
theorem d122_7 : decode (zB 122) 7 = .ok (.isub, 1) := by decide +kernel
theorem d122_8 : decode (zB 122) 8 = .ok (.invokestatic 37, 3) := by decide +kernel
theorem d122_11 : decode (zB 122) 11 = .ok (.ifCond .eq 25, 3) := by decide +kernel
theorem d122_14 : decode (zB 122) 14 = .ok (.aload_n 0, 1) := by decide +kernel
theorem d122_15 : decode (zB 122) 15 = .ok (.getfield 15, 3) := by decide +kernel
theorem d122_18 : decode (zB 122) 18 = .ok (.iload_n 1, 1) := by decide +kernel
theorem d122_19 : decode (zB 122) 19 = .ok (.aload_n 0, 1) := by decide +kernel
theorem d122_20 : decode (zB 122) 20 = .ok (.getfield 9, 3) := by decide +kernel
theorem d122_23 : decode (zB 122) 23 = .ok (.ifCond .ne 11, 3) := by decide +kernel
theorem d122_26 : decode (zB 122) 26 = .ok (.iload_n 2, 1) := by decide +kernel
theorem d122_27 : decode (zB 122) 27 = .ok (.sipush 255, 3) := by decide +kernel
theorem d122_30 : decode (zB 122) 30 = .ok (.iand, 1) := by decide +kernel
theorem d122_31 : decode (zB 122) 31 = .ok (.goto 4, 3) := by decide +kernel
theorem d122_34 : decode (zB 122) 34 = .ok (.iload_n 2, 1) := by decide +kernel
theorem d122_35 : decode (zB 122) 35 = .ok (.iastore, 1) := by decide +kernel
theorem d122_36 : decode (zB 122) 36 = .ok (.return_, 1) := by decide +kernel
theorem c122 {d : Nat} {M : zM} {Q : Option Value → zM → Prop} {a i n : Nat} {v : Int32} (hs : SRo M a) (hz : zi M a 1 = nI n) (hi : i < n) (hn : n ≤ 40) (k : ∀ M', Fi (fun b _ => b = a + 1) M M' → Q none M') : qC (d + 2) 122 [.ref a, .int (nI i), .int v] M Q := by
  refine qC_of (by decide) (Nat.le_of_ble_eq_true rfl) ?_
  refine q_iload_n d122_0 rfl ?_
  refine q_iconstN (z := 0) d122_1 ?_
  refine q_aload_n d122_2 rfl ?_
  refine q_getv (c := 4) (f := 1) d122_3 ⟨rfl, by decide⟩ hs.1 hz ?_
  refine q_iconstN (z := 1) d122_6 ?_
  refine n_isub d122_7 (by omega) ?_
  refine q_s3 d122_8 (Or.inr rfl) rfl (Nat.le_of_ble_eq_true rfl) (c10t ⟨by omega, by omega⟩ (by omega) ?_)
  refine n0_eq 36 d122_11 (by decide) (by decide) (fun q => absurd q (by decide)) (fun _ => ?_)
  refine q_aload_n d122_14 rfl ?_
  refine q_getr (c := 4) (f := 2) d122_15 ⟨rfl, rfl⟩ hs.1 hs.2.1 ?_
  refine q_iload_n d122_18 rfl ?_
  refine q_aload_n d122_19 rfl ?_
  refine q_getv (c := 4) (f := 0) d122_20 ⟨rfl, by decide⟩ hs.1 rfl ?_
  refine i0_ne 34 d122_23 (by decide) (fun h23 => ?_) (fun h23 => ?_)
  · refine q_iload_n d122_34 rfl ?_
    refine n_iast d122_35 hs.2.2 (by omega) (by decide) ?_
    refine q_ret d122_36 rfl ?_
    exact k _ ((Fi.refl _ _).wi rfl)
  · refine q_iload_n d122_26 rfl ?_
    refine q_sipush (x := nI 255) d122_27 rfl ?_
    refine q_iand d122_30 ?_
    refine q_goto 35 d122_31 (by decide) ?_
    refine n_iast d122_35 hs.2.2 (by omega) (by decide) ?_
    refine q_ret d122_36 rfl ?_
    exact k _ ((Fi.refl _ _).wi rfl)
def yhp (i n : Int32) (z : Nat) : Prop := ∃ a b, i = nI a ∧ n = nI b ∧ a + b ≤ z
theorem d128_0 : decode (zB 128) 0 = .ok (.iload_n 2, 1) := by decide +kernel
theorem d128_1 : decode (zB 128) 1 = .ok (.ifCond .lt 29, 3) := by decide +kernel
theorem d128_4 : decode (zB 128) 4 = .ok (.iload_n 1, 1) := by decide +kernel
theorem d128_5 : decode (zB 128) 5 = .ok (.iconst 0, 1) := by decide +kernel
theorem d128_6 : decode (zB 128) 6 = .ok (.aload_n 0, 1) := by decide +kernel
theorem d128_7 : decode (zB 128) 7 = .ok (.getfield 28, 3) := by decide +kernel
theorem d128_10 : decode (zB 128) 10 = .ok (.invokestatic 37, 3) := by decide +kernel
theorem d128_13 : decode (zB 128) 13 = .ok (.ifCond .eq 17, 3) := by decide +kernel
theorem d128_16 : decode (zB 128) 16 = .ok (.iload_n 2, 1) := by decide +kernel
theorem d128_17 : decode (zB 128) 17 = .ok (.aload_n 0, 1) := by decide +kernel
theorem d128_18 : decode (zB 128) 18 = .ok (.getfield 28, 3) := by decide +kernel
theorem d128_21 : decode (zB 128) 21 = .ok (.iload_n 1, 1) := by decide +kernel
theorem d128_22 : decode (zB 128) 22 = .ok (.isub, 1) := by decide +kernel
theorem d128_23 : decode (zB 128) 23 = .ok (.if_icmp .gt 7, 3) := by decide +kernel
theorem d128_26 : decode (zB 128) 26 = .ok (.iconst 1, 1) := by decide +kernel
theorem d128_27 : decode (zB 128) 27 = .ok (.goto 4, 3) := by decide +kernel
theorem d128_30 : decode (zB 128) 30 = .ok (.iconst 0, 1) := by decide +kernel
theorem d128_31 : decode (zB 128) 31 = .ok (.ireturn, 1) := by decide +kernel
theorem c128t {d : Nat} {M : zM} {Q : Option Value → zM → Prop} {a i n z : Nat} (hs : SRo M a) (hz : zi M a 1 = nI z) (h40 : z ≤ 40) (h : i + n ≤ z) (k : Q (some (.int (nI 1))) M) : qC (d + 2) 128 [.ref a, .int (nI i), .int (nI n)] M Q := by
  refine qC_of (by decide) (Nat.le_of_ble_eq_true rfl) ?_
  refine q_iload_n d128_0 rfl ?_
  refine n0_lt 30 d128_1 (by decide) (by omega) (fun q => absurd q (Nat.not_lt_zero _)) (fun _ => ?_)
  refine q_iload_n d128_4 rfl ?_
  refine q_iconstN (z := 0) d128_5 ?_
  refine q_aload_n d128_6 rfl ?_
  refine q_getv (c := 4) (f := 1) d128_7 ⟨rfl, by decide⟩ hs.1 hz ?_
  refine q_s3 d128_10 (Or.inr rfl) rfl (Nat.le_of_ble_eq_true rfl) (c10t ⟨by omega, by omega⟩ (by omega) ?_)
  refine n0_eq 30 d128_13 (by decide) (by decide) (fun q => absurd q (by decide)) (fun _ => ?_)
  refine q_iload_n d128_16 rfl ?_
  refine q_aload_n d128_17 rfl ?_
  refine q_getv (c := 4) (f := 1) d128_18 ⟨rfl, by decide⟩ hs.1 hz ?_
  refine q_iload_n d128_21 rfl ?_
  refine n_isub d128_22 (by omega) ?_
  refine nc_gt 30 d128_23 (by decide) (by omega) (by omega) (fun h23 => (False.elim (by omega))) (fun h23 => ?_)
  refine q_iconstN (z := 1) d128_26 ?_
  refine q_goto 31 d128_27 (by decide) ?_
  refine q_zret d128_31 rfl (by decide) ?_
  exact k
theorem nI_two {n : Int32} {z : Nat} (h0 : ¬ n < 0) (h1 : ¬ nI z < n) (hz : z < 2147483648) : ∃ b, n = nI b ∧ b ≤ z := by
  obtain ⟨b, hb, rfl⟩ := nI_of h0
  exact ⟨b, rfl, Nat.le_of_not_lt (fun q => h1 (nI_lt q hb))⟩
theorem c128f {d : Nat} {M : zM} {Q : Option Value → zM → Prop} {a z : Nat} {i n : Int32} (hs : SRo M a) (hz : zi M a 1 = nI z) (h40 : z ≤ 40) (h : ¬ yhp i n z) (k : Q (some (.int (nI 0))) M) : qC (d + 2) 128 [.ref a, .int i, .int n] M Q := by
  refine qC_of (by decide) (Nat.le_of_ble_eq_true rfl) ?_
  rcases zix_c i (n := z + 1) (by omega) with ⟨j, hj, rfl, e⟩ | ⟨e, hn2⟩
  · skip
    refine q_iload_n d128_0 rfl ?_
    refine i0_lt 30 d128_1 (by decide) (fun h1 => ?_) (fun h1 => ?_)
    · refine q_iconstN (z := 0) d128_30 ?_
      refine q_zret d128_31 rfl (by decide) ?_
      exact k
    · refine q_iload_n d128_4 rfl ?_
      refine q_iconstN (z := 0) d128_5 ?_
      refine q_aload_n d128_6 rfl ?_
      refine q_getv (c := 4) (f := 1) d128_7 ⟨rfl, by decide⟩ hs.1 hz ?_
      refine q_s3 d128_10 (Or.inr rfl) rfl (Nat.le_of_ble_eq_true rfl) (c10t ⟨by omega, by omega⟩ (by omega) ?_)
      refine n0_eq 30 d128_13 (by decide) (by decide) (fun q => absurd q (by decide)) (fun _ => ?_)
      refine q_iload_n d128_16 rfl ?_
      refine q_aload_n d128_17 rfl ?_
      refine q_getv (c := 4) (f := 1) d128_18 ⟨rfl, by decide⟩ hs.1 hz ?_
      refine q_iload_n d128_21 rfl ?_
      refine n_isub d128_22 (by omega) ?_
      refine ic_gt 30 d128_23 (by decide) (fun h23 => ?_) (fun h23 => ?_)
      · refine q_iconstN (z := 0) d128_30 ?_
        refine q_zret d128_31 rfl (by decide) ?_
        exact k
      · refine q_iconstN (z := 1) d128_26 ?_
        refine q_goto 31 d128_27 (by decide) ?_
        refine q_zret d128_31 rfl (by decide) ?_
        exact absurd (nI_two h1 h23 (by omega)) (fun ⟨b, e1, e2⟩ => h ⟨j, b, rfl, e1, by omega⟩)
  · skip
    refine q_iload_n d128_0 rfl ?_
    refine i0_lt 30 d128_1 (by decide) (fun h1 => ?_) (fun h1 => ?_)
    · refine q_iconstN (z := 0) d128_30 ?_
      refine q_zret d128_31 rfl (by decide) ?_
      exact k
    · refine q_iload_n d128_4 rfl ?_
      refine q_iconstN (z := 0) d128_5 ?_
      refine q_aload_n d128_6 rfl ?_
      refine q_getv (c := 4) (f := 1) d128_7 ⟨rfl, by decide⟩ hs.1 hz ?_
      refine q_s3 d128_10 (Or.inr rfl) rfl (Nat.le_of_ble_eq_true rfl) (c10f (by omega) (by omega) (by decide) ?_)
      refine n0_eq 30 d128_13 (by decide) (by decide) (fun _ => ?_) (fun q => absurd q (by decide))
      refine q_iconstN (z := 0) d128_30 ?_
      refine q_zret d128_31 rfl (by decide) ?_
      exact k
theorem d119_0 : decode (zB 119) 0 = .ok (.iconst 0, 1) := by decide +kernel
theorem d119_1 : decode (zB 119) 1 = .ok (.istore_n 1, 1) := by decide +kernel
theorem d119_2 : decode (zB 119) 2 = .ok (.iload_n 1, 1) := by decide +kernel
theorem d119_3 : decode (zB 119) 3 = .ok (.bipush 20, 2) := by decide +kernel
theorem d119_5 : decode (zB 119) 5 = .ok (.if_icmp .ge 19, 3) := by decide +kernel
theorem d119_8 : decode (zB 119) 8 = .ok (.iload_n 0, 1) := by decide +kernel
theorem d119_9 : decode (zB 119) 9 = .ok (.iload_n 1, 1) := by decide +kernel
theorem d119_10 : decode (zB 119) 10 = .ok (.invokestatic 303, 3) := by decide +kernel
theorem d119_13 : decode (zB 119) 13 = .ok (.ifCond .eq 5, 3) := by decide +kernel
theorem d119_16 : decode (zB 119) 16 = .ok (.iload_n 1, 1) := by decide +kernel
theorem d119_17 : decode (zB 119) 17 = .ok (.ireturn, 1) := by decide +kernel
theorem d119_18 : decode (zB 119) 18 = .ok (.iinc 1 1, 3) := by decide +kernel
theorem d119_21 : decode (zB 119) 21 = .ok (.goto (-19), 3) := by decide +kernel
theorem d119_24 : decode (zB 119) 24 = .ok (.iconst (-1), 1) := by decide +kernel
theorem d119_25 : decode (zB 119) 25 = .ok (.ireturn, 1) := by decide +kernel
theorem l119 {d : Nat} {M : zM} {Q : Option Value → zM → Prop} {m : Nat} (hm : m < 2147483648) (k : ∀ v, Q (some (.int v)) M) : ∀ (r i : Nat), i ≤ 20 → 20 < i + r → qW (zEv (d + 1)) 119 Q 2 [(1, .int (nI i)), (0, .int (nI m))] [] M := by
  intro r
  induction r with
  | zero => intros; omega
  | succ r ih =>
    intro i  h1 h2 
    refine q_iload_n d119_2 rfl ?_
    refine q_bipush (x := nI 20) d119_3 rfl ?_
    refine nc_ge 24 d119_5 (by decide) (by omega) (by omega) (fun h5 => ?_) (fun h5 => ?_)
    · refine q_iconst (x := (-1)) d119_24 rfl ?_
      refine q_iret d119_25 rfl ?_
      exact k _
    · refine q_iload_n d119_8 rfl ?_
      refine q_iload_n d119_9 rfl ?_
      refine q_s2 d119_10 (Or.inl rfl) rfl (Nat.le_of_ble_eq_true rfl) (c35 (by omega) (by omega) ?_)
      refine b0_eq 18 d119_13 (by decide) (fun h13 => ?_) (fun h13 => ?_)
      · refine n_iinc 1 d119_18 (by decide) rfl rfl ?_
        refine q_goto 2 d119_21 (by decide) ?_
        exact ih (i + 1) (by omega) (by omega)
      · refine q_iload_n d119_16 rfl ?_
        refine q_iret d119_17 rfl ?_
        exact k _
theorem c119 {d : Nat} {M : zM} {Q : Option Value → zM → Prop} {m : Nat} (hm : m < 2147483648) (k : ∀ v, Q (some (.int v)) M) : qC (d + 2) 119 [.int (nI m)] M Q := by
  refine qC_of (by decide) (Nat.le_of_ble_eq_true rfl) ?_
  refine q_iconstN (z := 0) d119_0 ?_
  refine q_istore_n d119_1 (by decide) rfl ?_
  exact l119 hm k 21 0 (by omega) (by omega)
theorem gcd_of {a b d : Nat} (hb : 0 < b) (hd : 0 < d) (h1 : a % d = 0) (h2 : b % d = 0) (h : ∀ e, d < e → e ≤ b → ¬ (a % e = 0 ∧ b % e = 0)) : Nat.gcd a b = d := by
  have g0 : 0 < Nat.gcd a b := Nat.gcd_pos_of_pos_right _ hb
  have g1 : d ∣ Nat.gcd a b := Nat.dvd_gcd (Nat.dvd_of_mod_eq_zero h1) (Nat.dvd_of_mod_eq_zero h2)
  have g2 : d ≤ Nat.gcd a b := Nat.le_of_dvd g0 g1
  have g3 : Nat.gcd a b ≤ b := Nat.le_of_dvd hb (Nat.gcd_dvd_right a b)
  rcases Nat.lt_or_ge d (Nat.gcd a b) with q | q
  · exact absurd ⟨Nat.mod_eq_zero_of_dvd (Nat.gcd_dvd_left a b), Nat.mod_eq_zero_of_dvd (Nat.gcd_dvd_right a b)⟩ (h _ q g3)
  · omega
theorem d111_0 : decode (zB 111) 0 = .ok (.iload_n 1, 1) := by decide +kernel
theorem d111_1 : decode (zB 111) 1 = .ok (.istore_n 2, 1) := by decide +kernel
theorem d111_2 : decode (zB 111) 2 = .ok (.iload_n 2, 1) := by decide +kernel
theorem d111_3 : decode (zB 111) 3 = .ok (.iconst 1, 1) := by decide +kernel
theorem d111_4 : decode (zB 111) 4 = .ok (.if_icmp .le 23, 3) := by decide +kernel
theorem d111_7 : decode (zB 111) 7 = .ok (.iload_n 0, 1) := by decide +kernel
theorem d111_8 : decode (zB 111) 8 = .ok (.iload_n 2, 1) := by decide +kernel
theorem d111_9 : decode (zB 111) 9 = .ok (.irem, 1) := by decide +kernel
theorem d111_10 : decode (zB 111) 10 = .ok (.ifCond .ne 11, 3) := by decide +kernel
theorem d111_13 : decode (zB 111) 13 = .ok (.iload_n 1, 1) := by decide +kernel
theorem d111_14 : decode (zB 111) 14 = .ok (.iload_n 2, 1) := by decide +kernel
theorem d111_15 : decode (zB 111) 15 = .ok (.irem, 1) := by decide +kernel
theorem d111_16 : decode (zB 111) 16 = .ok (.ifCond .ne 5, 3) := by decide +kernel
theorem d111_19 : decode (zB 111) 19 = .ok (.iload_n 2, 1) := by decide +kernel
theorem d111_20 : decode (zB 111) 20 = .ok (.ireturn, 1) := by decide +kernel
theorem d111_21 : decode (zB 111) 21 = .ok (.iinc 2 (-1), 3) := by decide +kernel
theorem d111_24 : decode (zB 111) 24 = .ok (.goto (-22), 3) := by decide +kernel
theorem d111_27 : decode (zB 111) 27 = .ok (.iconst 1, 1) := by decide +kernel
theorem d111_28 : decode (zB 111) 28 = .ok (.ireturn, 1) := by decide +kernel
theorem l111 {d : Nat} {M : zM} {Q : Option Value → zM → Prop} {a b : Nat} (ha : a < 2147483648) (hb0 : 0 < b) (hb : b < 2147483648) (k : Q (some (.int (nI (Nat.gcd a b)))) M) : ∀ i : Nat, i ≤ b → (∀ e, i < e → e ≤ b → ¬ (a % e = 0 ∧ b % e = 0)) → qW (zEv d) 111 Q 2 [(2, .int (nI i)), (0, .int (nI a)), (1, .int (nI b))] [] M := by
  intro i
  induction i with
  | zero =>
    intro h1 h
    refine q_iload_n d111_2 rfl ?_
    refine q_iconstN (z := 1) d111_3 ?_
    refine nc_le 27 d111_4 (by decide) (by omega) (by omega) (fun h4 => ?_) (fun h4 => (False.elim (by omega)))
    refine q_iconstN (z := 1) d111_27 ?_
    refine q_iret d111_28 rfl ?_
    rw [gcd_of (d := 1) hb0 (by omega) (Nat.mod_one _) (Nat.mod_one _) (fun e h2 h3 => h e (by omega) h3)] at k; exact k
  | succ i ih =>
    intro h1 h
    have hm1 : a % (i + 1) < i + 1 := Nat.mod_lt _ (by omega)
    have hm2 : b % (i + 1) < i + 1 := Nat.mod_lt _ (by omega)
    refine q_iload_n d111_2 rfl ?_
    refine q_iconstN (z := 1) d111_3 ?_
    refine nc_le 27 d111_4 (by decide) (by omega) (by omega) (fun h4 => ?_) (fun h4 => ?_)
    · refine q_iconstN (z := 1) d111_27 ?_
      refine q_iret d111_28 rfl ?_
      rw [gcd_of (d := 1) hb0 (by omega) (Nat.mod_one _) (Nat.mod_one _) (fun e h2 h3 => h e (by omega) h3)] at k; exact k
    · refine q_iload_n d111_7 rfl ?_
      refine q_iload_n d111_8 rfl ?_
      refine n_irem d111_9 (by omega) (by omega) (by omega) ?_
      refine n0_ne 21 d111_10 (by decide) (by omega) (fun h10 => ?_) (fun h10 => ?_)
      · refine n_idec d111_21 (by decide) rfl (by omega) rfl ?_
        refine q_goto 2 d111_24 (by decide) ?_
        exact ih (by omega) (fun e h2 h3 q => by by_cases e1 : e = i + 1; (subst e1; first | exact h16 q.2 | exact h10 q.1); exact h e (by omega) h3 q)
      · refine q_iload_n d111_13 rfl ?_
        refine q_iload_n d111_14 rfl ?_
        refine n_irem d111_15 (by omega) (by omega) (by omega) ?_
        refine n0_ne 21 d111_16 (by decide) (by omega) (fun h16 => ?_) (fun h16 => ?_)
        · refine n_idec d111_21 (by decide) rfl (by omega) rfl ?_
          refine q_goto 2 d111_24 (by decide) ?_
          exact ih (by omega) (fun e h2 h3 q => by by_cases e1 : e = i + 1; (subst e1; first | exact h16 q.2 | exact h10 q.1); exact h e (by omega) h3 q)
        · refine q_iload_n d111_19 rfl ?_
          refine q_iret d111_20 rfl ?_
          rw [gcd_of (d := i + 1) hb0 (by omega) h10 h16 h] at k; exact k
theorem c111 {d : Nat} {M : zM} {Q : Option Value → zM → Prop} {a b : Nat} (ha : a < 2147483648) (hb0 : 0 < b) (hb : b < 2147483648) (k : Q (some (.int (nI (Nat.gcd a b)))) M) : qC (d + 1) 111 [.int (nI a), .int (nI b)] M Q := by
  refine qC_of (by decide) (Nat.le_of_ble_eq_true rfl) ?_
  refine q_iload_n d111_0 rfl ?_
  refine q_istore_n d111_1 (by decide) rfl ?_
  exact l111 ha hb0 hb k b (Nat.le_refl _) (fun e h1 h2 => absurd h1 (by omega))
def ybc (x : Int32) : Int32 :=
  let a := x - (ush x (nI 1) &&& 1431655765)
  let b := (a &&& 858993459) + (ush a (nI 2) &&& 858993459)
  let c := (b + ush b (nI 4)) &&& 252645135
  let e := c + ush c (nI 8)
  (e + ush e (nI 16)) &&& nI 63
theorem d105_0 : decode (zB 105) 0 = .ok (.iload_n 0, 1) := by decide +kernel
theorem d105_1 : decode (zB 105) 1 = .ok (.iload_n 0, 1) := by decide +kernel
theorem d105_2 : decode (zB 105) 2 = .ok (.iconst 1, 1) := by decide +kernel
theorem d105_3 : decode (zB 105) 3 = .ok (.iushr, 1) := by decide +kernel
theorem d105_4 : decode (zB 105) 4 = .ok (.ldc_w 265, 3) := by decide +kernel
theorem d105_7 : decode (zB 105) 7 = .ok (.iand, 1) := by decide +kernel
theorem d105_8 : decode (zB 105) 8 = .ok (.isub, 1) := by decide +kernel
theorem d105_9 : decode (zB 105) 9 = .ok (.istore_n 0, 1) := by decide +kernel
theorem d105_10 : decode (zB 105) 10 = .ok (.iload_n 0, 1) := by decide +kernel
theorem d105_11 : decode (zB 105) 11 = .ok (.ldc_w 266, 3) := by decide +kernel
theorem d105_14 : decode (zB 105) 14 = .ok (.iand, 1) := by decide +kernel
theorem d105_15 : decode (zB 105) 15 = .ok (.iload_n 0, 1) := by decide +kernel
theorem d105_16 : decode (zB 105) 16 = .ok (.iconst 2, 1) := by decide +kernel
theorem d105_17 : decode (zB 105) 17 = .ok (.iushr, 1) := by decide +kernel
theorem d105_18 : decode (zB 105) 18 = .ok (.ldc_w 266, 3) := by decide +kernel
theorem d105_21 : decode (zB 105) 21 = .ok (.iand, 1) := by decide +kernel
theorem d105_22 : decode (zB 105) 22 = .ok (.iadd, 1) := by decide +kernel
theorem d105_23 : decode (zB 105) 23 = .ok (.istore_n 0, 1) := by decide +kernel
theorem d105_24 : decode (zB 105) 24 = .ok (.iload_n 0, 1) := by decide +kernel
theorem d105_25 : decode (zB 105) 25 = .ok (.iload_n 0, 1) := by decide +kernel
theorem d105_26 : decode (zB 105) 26 = .ok (.iconst 4, 1) := by decide +kernel
theorem d105_27 : decode (zB 105) 27 = .ok (.iushr, 1) := by decide +kernel
theorem d105_28 : decode (zB 105) 28 = .ok (.iadd, 1) := by decide +kernel
theorem d105_29 : decode (zB 105) 29 = .ok (.ldc_w 267, 3) := by decide +kernel
theorem d105_32 : decode (zB 105) 32 = .ok (.iand, 1) := by decide +kernel
theorem d105_33 : decode (zB 105) 33 = .ok (.istore_n 0, 1) := by decide +kernel
theorem d105_34 : decode (zB 105) 34 = .ok (.iload_n 0, 1) := by decide +kernel
theorem d105_35 : decode (zB 105) 35 = .ok (.iload_n 0, 1) := by decide +kernel
theorem d105_36 : decode (zB 105) 36 = .ok (.bipush 8, 2) := by decide +kernel
theorem d105_38 : decode (zB 105) 38 = .ok (.iushr, 1) := by decide +kernel
theorem d105_39 : decode (zB 105) 39 = .ok (.iadd, 1) := by decide +kernel
theorem d105_40 : decode (zB 105) 40 = .ok (.istore_n 0, 1) := by decide +kernel
theorem d105_41 : decode (zB 105) 41 = .ok (.iload_n 0, 1) := by decide +kernel
theorem d105_42 : decode (zB 105) 42 = .ok (.iload_n 0, 1) := by decide +kernel
theorem d105_43 : decode (zB 105) 43 = .ok (.bipush 16, 2) := by decide +kernel
theorem d105_45 : decode (zB 105) 45 = .ok (.iushr, 1) := by decide +kernel
theorem d105_46 : decode (zB 105) 46 = .ok (.iadd, 1) := by decide +kernel
theorem d105_47 : decode (zB 105) 47 = .ok (.istore_n 0, 1) := by decide +kernel
theorem d105_48 : decode (zB 105) 48 = .ok (.iload_n 0, 1) := by decide +kernel
theorem d105_49 : decode (zB 105) 49 = .ok (.bipush 63, 2) := by decide +kernel
theorem d105_51 : decode (zB 105) 51 = .ok (.iand, 1) := by decide +kernel
theorem d105_52 : decode (zB 105) 52 = .ok (.ireturn, 1) := by decide +kernel
theorem c105 {d : Nat} {M : zM} {Q : Option Value → zM → Prop} {x : Int32} (k : Q (some (.int (ybc x))) M) : qC (d + 1) 105 [.int x] M Q := by
  refine qC_of (by decide) (Nat.le_of_ble_eq_true rfl) ?_
  refine q_iload_n d105_0 rfl ?_
  refine q_iload_n d105_1 rfl ?_
  refine q_iconstN (z := 1) d105_2 ?_
  refine q_iushr d105_3 ?_
  refine q_ldc_w d105_4 rfl ?_
  refine q_iand d105_7 ?_
  refine q_isub d105_8 ?_
  refine q_istore_n d105_9 (by decide) rfl ?_
  refine q_iload_n d105_10 rfl ?_
  refine q_ldc_w d105_11 rfl ?_
  refine q_iand d105_14 ?_
  refine q_iload_n d105_15 rfl ?_
  refine q_iconstN (z := 2) d105_16 ?_
  refine q_iushr d105_17 ?_
  refine q_ldc_w d105_18 rfl ?_
  refine q_iand d105_21 ?_
  refine q_iadd d105_22 ?_
  refine q_istore_n d105_23 (by decide) rfl ?_
  refine q_iload_n d105_24 rfl ?_
  refine q_iload_n d105_25 rfl ?_
  refine q_iconstN (z := 4) d105_26 ?_
  refine q_iushr d105_27 ?_
  refine q_iadd d105_28 ?_
  refine q_ldc_w d105_29 rfl ?_
  refine q_iand d105_32 ?_
  refine q_istore_n d105_33 (by decide) rfl ?_
  refine q_iload_n d105_34 rfl ?_
  refine q_iload_n d105_35 rfl ?_
  refine q_bipush (x := nI 8) d105_36 rfl ?_
  refine q_iushr d105_38 ?_
  refine q_iadd d105_39 ?_
  refine q_istore_n d105_40 (by decide) rfl ?_
  refine q_iload_n d105_41 rfl ?_
  refine q_iload_n d105_42 rfl ?_
  refine q_bipush (x := nI 16) d105_43 rfl ?_
  refine q_iushr d105_45 ?_
  refine q_iadd d105_46 ?_
  refine q_istore_n d105_47 (by decide) rfl ?_
  refine q_iload_n d105_48 rfl ?_
  refine q_bipush (x := nI 63) d105_49 rfl ?_
  refine q_iand d105_51 ?_
  refine q_iret d105_52 rfl ?_
  exact k
def ywv (m : Nat) : Bool := decide (m ≤ 7) || (decide (10 ≤ m) && decide (m % 10 < 3))
/-- what is asked of a world -/
def yvx (x : Int32) : Option Nat := match zix x 50 with
  | none => none
  | some m => if ywv m then some m else none
def yqm (m : Nat) : Bool := decide (m ≤ 1) || decide (100 ≤ m ∧ m ≤ 111) || decide (200 ≤ m)
def yqx (x : Int32) : Option Nat := match zix x 212 with
  | none => none
  | some m => if yqm m then some m else none
theorem d93_0 : decode (zB 93) 0 = .ok (.iload_n 0, 1) := by decide +kernel
theorem d93_1 : decode (zB 93) 1 = .ok (.iconst 0, 1) := by decide +kernel
theorem d93_2 : decode (zB 93) 2 = .ok (.bipush 7, 2) := by decide +kernel
theorem d93_4 : decode (zB 93) 4 = .ok (.invokestatic 55, 3) := by decide +kernel
theorem d93_7 : decode (zB 93) 7 = .ok (.ifCond .ne 22, 3) := by decide +kernel
theorem d93_10 : decode (zB 93) 10 = .ok (.iload_n 0, 1) := by decide +kernel
theorem d93_11 : decode (zB 93) 11 = .ok (.bipush 10, 2) := by decide +kernel
theorem d93_13 : decode (zB 93) 13 = .ok (.bipush 49, 2) := by decide +kernel
theorem d93_15 : decode (zB 93) 15 = .ok (.invokestatic 55, 3) := by decide +kernel
theorem d93_18 : decode (zB 93) 18 = .ok (.ifCond .eq 15, 3) := by decide +kernel
theorem d93_21 : decode (zB 93) 21 = .ok (.iload_n 0, 1) := by decide +kernel
theorem d93_22 : decode (zB 93) 22 = .ok (.bipush 10, 2) := by decide +kernel
theorem d93_24 : decode (zB 93) 24 = .ok (.irem, 1) := by decide +kernel
theorem d93_25 : decode (zB 93) 25 = .ok (.iconst 3, 1) := by decide +kernel
theorem d93_26 : decode (zB 93) 26 = .ok (.if_icmp .ge 7, 3) := by decide +kernel
theorem d93_29 : decode (zB 93) 29 = .ok (.iconst 1, 1) := by decide +kernel
theorem d93_30 : decode (zB 93) 30 = .ok (.goto 4, 3) := by decide +kernel
theorem d93_33 : decode (zB 93) 33 = .ok (.iconst 0, 1) := by decide +kernel
theorem d93_34 : decode (zB 93) 34 = .ok (.ireturn, 1) := by decide +kernel
theorem c93 {d : Nat} {M : zM} {Q : Option Value → zM → Prop} {x : Int32} (k : Q (some (.int (bI (yvx x).isSome))) M) : qC (d + 2) 93 [.int x] M Q := by
  refine qC_of (by decide) (Nat.le_of_ble_eq_true rfl) ?_
  unfold yvx at k
  rcases zix_c x (n := 50) (by omega) with ⟨j, hj, rfl, e⟩ | ⟨e, hn⟩
  · rw [e] at k
    simp only [] at k
    by_cases h7 : j ≤ 7
    · skip
      refine q_iload_n d93_0 rfl ?_
      refine q_iconstN (z := 0) d93_1 ?_
      refine q_bipush (x := nI 7) d93_2 rfl ?_
      refine q_s3 d93_4 (Or.inl rfl) rfl (Nat.le_of_ble_eq_true rfl) (c10t ⟨by omega, by omega⟩ (by decide) ?_)
      refine n0_ne 29 d93_7 (by decide) (by decide) (fun _ => ?_) (fun q => absurd q (by decide))
      refine q_iconstN (z := 1) d93_29 ?_
      refine q_goto 34 d93_30 (by decide) ?_
      refine q_zret d93_34 rfl (by decide) ?_
      rw [if_pos (by simp [ywv, h7])] at k; exact k
    · by_cases h10 : 10 ≤ j
      · skip
        refine q_iload_n d93_0 rfl ?_
        refine q_iconstN (z := 0) d93_1 ?_
        refine q_bipush (x := nI 7) d93_2 rfl ?_
        refine q_s3 d93_4 (Or.inl rfl) rfl (Nat.le_of_ble_eq_true rfl) (c10n (by omega) (by decide) (by omega) (by decide) ?_)
        refine n0_ne 29 d93_7 (by decide) (by decide) (fun q => absurd q (by decide)) (fun _ => ?_)
        refine q_iload_n d93_10 rfl ?_
        refine q_bipush (x := nI 10) d93_11 rfl ?_
        refine q_bipush (x := nI 49) d93_13 rfl ?_
        refine q_s3 d93_15 (Or.inl rfl) rfl (Nat.le_of_ble_eq_true rfl) (c10t ⟨by omega, by omega⟩ (by decide) ?_)
        refine n0_eq 33 d93_18 (by decide) (by decide) (fun q => absurd q (by decide)) (fun _ => ?_)
        refine q_iload_n d93_21 rfl ?_
        refine q_bipush (x := nI 10) d93_22 rfl ?_
        refine n_irem d93_24 (by omega) (by omega) (by omega) ?_
        refine q_iconstN (z := 3) d93_25 ?_
        refine nc_ge 33 d93_26 (by decide) (by omega) (by omega) (fun h26 => ?_) (fun h26 => ?_)
        · refine q_iconstN (z := 0) d93_33 ?_
          refine q_zret d93_34 rfl (by decide) ?_
          rw [if_neg (by simp [ywv, h7, h10]; omega)] at k; exact k
        · refine q_iconstN (z := 1) d93_29 ?_
          refine q_goto 34 d93_30 (by decide) ?_
          refine q_zret d93_34 rfl (by decide) ?_
          rw [if_pos (by simp [ywv, h7, h10, h26])] at k; exact k
      · skip
        refine q_iload_n d93_0 rfl ?_
        refine q_iconstN (z := 0) d93_1 ?_
        refine q_bipush (x := nI 7) d93_2 rfl ?_
        refine q_s3 d93_4 (Or.inl rfl) rfl (Nat.le_of_ble_eq_true rfl) (c10n (by omega) (by decide) (by omega) (by decide) ?_)
        refine n0_ne 29 d93_7 (by decide) (by decide) (fun q => absurd q (by decide)) (fun _ => ?_)
        refine q_iload_n d93_10 rfl ?_
        refine q_bipush (x := nI 10) d93_11 rfl ?_
        refine q_bipush (x := nI 49) d93_13 rfl ?_
        refine q_s3 d93_15 (Or.inl rfl) rfl (Nat.le_of_ble_eq_true rfl) (c10n (by omega) (by decide) (by omega) (by decide) ?_)
        refine n0_eq 33 d93_18 (by decide) (by decide) (fun _ => ?_) (fun q => absurd q (by decide))
        refine q_iconstN (z := 0) d93_33 ?_
        refine q_zret d93_34 rfl (by decide) ?_
        rw [if_neg (by simp [ywv, h7, h10])] at k; exact k
  · rw [e] at k
    simp only [] at k
    refine q_iload_n d93_0 rfl ?_
    refine q_iconstN (z := 0) d93_1 ?_
    refine q_bipush (x := nI 7) d93_2 rfl ?_
    refine q_s3 d93_4 (Or.inl rfl) rfl (Nat.le_of_ble_eq_true rfl) (c10f (by decide) (by omega) (by decide) ?_)
    refine n0_ne 29 d93_7 (by decide) (by decide) (fun q => absurd q (by decide)) (fun _ => ?_)
    refine q_iload_n d93_10 rfl ?_
    refine q_bipush (x := nI 10) d93_11 rfl ?_
    refine q_bipush (x := nI 49) d93_13 rfl ?_
    refine q_s3 d93_15 (Or.inl rfl) rfl (Nat.le_of_ble_eq_true rfl) (c10f (by decide) (by omega) (by decide) ?_)
    refine n0_eq 33 d93_18 (by decide) (by decide) (fun _ => ?_) (fun q => absurd q (by decide))
    refine q_iconstN (z := 0) d93_33 ?_
    refine q_zret d93_34 rfl (by decide) ?_
    exact k
theorem d114_0 : decode (zB 114) 0 = .ok (.iload_n 0, 1) := by decide +kernel
theorem d114_1 : decode (zB 114) 1 = .ok (.iconst 0, 1) := by decide +kernel
theorem d114_2 : decode (zB 114) 2 = .ok (.iconst 1, 1) := by decide +kernel
theorem d114_3 : decode (zB 114) 3 = .ok (.invokestatic 55, 3) := by decide +kernel
theorem d114_6 : decode (zB 114) 6 = .ok (.ifCond .ne 27, 3) := by decide +kernel
theorem d114_9 : decode (zB 114) 9 = .ok (.iload_n 0, 1) := by decide +kernel
theorem d114_10 : decode (zB 114) 10 = .ok (.bipush 100, 2) := by decide +kernel
theorem d114_12 : decode (zB 114) 12 = .ok (.bipush 111, 2) := by decide +kernel
theorem d114_14 : decode (zB 114) 14 = .ok (.invokestatic 55, 3) := by decide +kernel
theorem d114_17 : decode (zB 114) 17 = .ok (.ifCond .ne 16, 3) := by decide +kernel
theorem d114_20 : decode (zB 114) 20 = .ok (.iload_n 0, 1) := by decide +kernel
theorem d114_21 : decode (zB 114) 21 = .ok (.sipush 200, 3) := by decide +kernel
theorem d114_24 : decode (zB 114) 24 = .ok (.sipush 211, 3) := by decide +kernel
theorem d114_27 : decode (zB 114) 27 = .ok (.invokestatic 55, 3) := by decide +kernel
theorem d114_30 : decode (zB 114) 30 = .ok (.ifCond .eq 7, 3) := by decide +kernel
theorem d114_33 : decode (zB 114) 33 = .ok (.iconst 1, 1) := by decide +kernel
theorem d114_34 : decode (zB 114) 34 = .ok (.goto 4, 3) := by decide +kernel
theorem d114_37 : decode (zB 114) 37 = .ok (.iconst 0, 1) := by decide +kernel
theorem d114_38 : decode (zB 114) 38 = .ok (.ireturn, 1) := by decide +kernel
theorem c114 {d : Nat} {M : zM} {Q : Option Value → zM → Prop} {x : Int32} (k : Q (some (.int (bI (yqx x).isSome))) M) : qC (d + 2) 114 [.int x] M Q := by
  refine qC_of (by decide) (Nat.le_of_ble_eq_true rfl) ?_
  unfold yqx at k
  rcases zix_c x (n := 212) (by omega) with ⟨j, hj, rfl, e⟩ | ⟨e, hn⟩
  · rw [e] at k
    simp only [] at k
    by_cases h7 : j ≤ 1
    · skip
      refine q_iload_n d114_0 rfl ?_
      refine q_iconstN (z := 0) d114_1 ?_
      refine q_iconstN (z := 1) d114_2 ?_
      refine q_s3 d114_3 (Or.inl rfl) rfl (Nat.le_of_ble_eq_true rfl) (c10t ⟨by omega, by omega⟩ (by decide) ?_)
      refine n0_ne 33 d114_6 (by decide) (by decide) (fun _ => ?_) (fun q => absurd q (by decide))
      refine q_iconstN (z := 1) d114_33 ?_
      refine q_goto 38 d114_34 (by decide) ?_
      refine q_zret d114_38 rfl (by decide) ?_
      rw [if_pos (by simp [yqm, h7])] at k; exact k
    · by_cases h10 : 100 ≤ j ∧ j ≤ 111
      · skip
        refine q_iload_n d114_0 rfl ?_
        refine q_iconstN (z := 0) d114_1 ?_
        refine q_iconstN (z := 1) d114_2 ?_
        refine q_s3 d114_3 (Or.inl rfl) rfl (Nat.le_of_ble_eq_true rfl) (c10n (by omega) (by decide) (by omega) (by decide) ?_)
        refine n0_ne 33 d114_6 (by decide) (by decide) (fun q => absurd q (by decide)) (fun _ => ?_)
        refine q_iload_n d114_9 rfl ?_
        refine q_bipush (x := nI 100) d114_10 rfl ?_
        refine q_bipush (x := nI 111) d114_12 rfl ?_
        refine q_s3 d114_14 (Or.inl rfl) rfl (Nat.le_of_ble_eq_true rfl) (c10t ⟨by omega, by omega⟩ (by decide) ?_)
        refine n0_ne 33 d114_17 (by decide) (by decide) (fun _ => ?_) (fun q => absurd q (by decide))
        refine q_iconstN (z := 1) d114_33 ?_
        refine q_goto 38 d114_34 (by decide) ?_
        refine q_zret d114_38 rfl (by decide) ?_
        rw [if_pos (by simp [yqm, h7, h10])] at k; exact k
      · by_cases h20 : 200 ≤ j
        · skip
          refine q_iload_n d114_0 rfl ?_
          refine q_iconstN (z := 0) d114_1 ?_
          refine q_iconstN (z := 1) d114_2 ?_
          refine q_s3 d114_3 (Or.inl rfl) rfl (Nat.le_of_ble_eq_true rfl) (c10n (by omega) (by decide) (by omega) (by decide) ?_)
          refine n0_ne 33 d114_6 (by decide) (by decide) (fun q => absurd q (by decide)) (fun _ => ?_)
          refine q_iload_n d114_9 rfl ?_
          refine q_bipush (x := nI 100) d114_10 rfl ?_
          refine q_bipush (x := nI 111) d114_12 rfl ?_
          refine q_s3 d114_14 (Or.inl rfl) rfl (Nat.le_of_ble_eq_true rfl) (c10n (by omega) (by decide) (by omega) (by decide) ?_)
          refine n0_ne 33 d114_17 (by decide) (by decide) (fun q => absurd q (by decide)) (fun _ => ?_)
          refine q_iload_n d114_20 rfl ?_
          refine q_sipush (x := nI 200) d114_21 rfl ?_
          refine q_sipush (x := nI 211) d114_24 rfl ?_
          refine q_s3 d114_27 (Or.inl rfl) rfl (Nat.le_of_ble_eq_true rfl) (c10t ⟨by omega, by omega⟩ (by decide) ?_)
          refine n0_eq 37 d114_30 (by decide) (by decide) (fun q => absurd q (by decide)) (fun _ => ?_)
          refine q_iconstN (z := 1) d114_33 ?_
          refine q_goto 38 d114_34 (by decide) ?_
          refine q_zret d114_38 rfl (by decide) ?_
          rw [if_pos (by simp [yqm, h7, h20])] at k; exact k
        · skip
          refine q_iload_n d114_0 rfl ?_
          refine q_iconstN (z := 0) d114_1 ?_
          refine q_iconstN (z := 1) d114_2 ?_
          refine q_s3 d114_3 (Or.inl rfl) rfl (Nat.le_of_ble_eq_true rfl) (c10n (by omega) (by decide) (by omega) (by decide) ?_)
          refine n0_ne 33 d114_6 (by decide) (by decide) (fun q => absurd q (by decide)) (fun _ => ?_)
          refine q_iload_n d114_9 rfl ?_
          refine q_bipush (x := nI 100) d114_10 rfl ?_
          refine q_bipush (x := nI 111) d114_12 rfl ?_
          refine q_s3 d114_14 (Or.inl rfl) rfl (Nat.le_of_ble_eq_true rfl) (c10n (by omega) (by decide) (by omega) (by decide) ?_)
          refine n0_ne 33 d114_17 (by decide) (by decide) (fun q => absurd q (by decide)) (fun _ => ?_)
          refine q_iload_n d114_20 rfl ?_
          refine q_sipush (x := nI 200) d114_21 rfl ?_
          refine q_sipush (x := nI 211) d114_24 rfl ?_
          refine q_s3 d114_27 (Or.inl rfl) rfl (Nat.le_of_ble_eq_true rfl) (c10n (by omega) (by decide) (by omega) (by decide) ?_)
          refine n0_eq 37 d114_30 (by decide) (by decide) (fun _ => ?_) (fun q => absurd q (by decide))
          refine q_iconstN (z := 0) d114_37 ?_
          refine q_zret d114_38 rfl (by decide) ?_
          rw [if_neg (by simp [yqm, h7, h20]; omega)] at k; exact k
  · rw [e] at k
    simp only [] at k
    refine q_iload_n d114_0 rfl ?_
    refine q_iconstN (z := 0) d114_1 ?_
    refine q_iconstN (z := 1) d114_2 ?_
    refine q_s3 d114_3 (Or.inl rfl) rfl (Nat.le_of_ble_eq_true rfl) (c10f (by decide) (by omega) (by decide) ?_)
    refine n0_ne 33 d114_6 (by decide) (by decide) (fun q => absurd q (by decide)) (fun _ => ?_)
    refine q_iload_n d114_9 rfl ?_
    refine q_bipush (x := nI 100) d114_10 rfl ?_
    refine q_bipush (x := nI 111) d114_12 rfl ?_
    refine q_s3 d114_14 (Or.inl rfl) rfl (Nat.le_of_ble_eq_true rfl) (c10f (by decide) (by omega) (by decide) ?_)
    refine n0_ne 33 d114_17 (by decide) (by decide) (fun q => absurd q (by decide)) (fun _ => ?_)
    refine q_iload_n d114_20 rfl ?_
    refine q_sipush (x := nI 200) d114_21 rfl ?_
    refine q_sipush (x := nI 211) d114_24 rfl ?_
    refine q_s3 d114_27 (Or.inl rfl) rfl (Nat.le_of_ble_eq_true rfl) (c10f (by decide) (by omega) (by decide) ?_)
    refine n0_eq 37 d114_30 (by decide) (by decide) (fun _ => ?_) (fun q => absurd q (by decide))
    refine q_iconstN (z := 0) d114_37 ?_
    refine q_zret d114_38 rfl (by decide) ?_
    exact k
end
section
/-! ===== contracts: the widest ===== -/
theorem qC_up {d d' y : Nat} {as : List Value} {M : zM} {Q : Option Value → zM → Prop} (h : qC d y as M Q) (hd : d ≤ d') : qC d' y as M Q := by
  obtain ⟨v, M', h1, h2⟩ := h
  exact ⟨v, M', zEv_up h1 hd, h2⟩
/-- the widest of the free steps from s on, r steps -/
def ywf (T : yT) : Nat → Nat → Nat → Nat
  | 0, _, _ => 0
  | r + 1, s, f => if f.testBit s then max (ywf T r (s + 1) f) (1 + ywf T r (s + 1) (f &&& ybd T s)) else ywf T r (s + 1) f
theorem ywf_le (T : yT) : ∀ r s f, ywf T r s f ≤ r
  | 0, _, _ => Nat.le_refl _
  | r + 1, s, f => by
    have h1 := ywf_le T r (s + 1) f
    have h2 := ywf_le T r (s + 1) (f &&& ybd T s)
    rw [ywf]
    split
    · exact Nat.max_le.mpr ⟨by omega, by omega⟩
    · omega
theorem ybd_lt (T : yT) (i : Nat) (h : tn T ≤ 12) : ybd T i < 4096 := ymk_lt12 _ h
theorem and_lt {a b : Nat} (h : a < 4096) : a &&& b < 4096 := Nat.lt_of_le_of_lt Nat.and_le_left h
theorem d38_0 : decode (zB 38) 0 = .ok (.iload_n 1, 1) := by decide +kernel
theorem d38_1 : decode (zB 38) 1 = .ok (.aload_n 0, 1) := by decide +kernel
theorem d38_2 : decode (zB 38) 2 = .ok (.getfield 34, 3) := by decide +kernel
theorem d38_5 : decode (zB 38) 5 = .ok (.if_icmp .lt 5, 3) := by decide +kernel
theorem d38_8 : decode (zB 38) 8 = .ok (.iconst 0, 1) := by decide +kernel
theorem d38_9 : decode (zB 38) 9 = .ok (.ireturn, 1) := by decide +kernel
theorem d38_10 : decode (zB 38) 10 = .ok (.aload_n 0, 1) := by decide +kernel
theorem d38_11 : decode (zB 38) 11 = .ok (.iload_n 1, 1) := by decide +kernel
theorem d38_12 : decode (zB 38) 12 = .ok (.iconst 1, 1) := by decide +kernel
theorem d38_13 : decode (zB 38) 13 = .ok (.iadd, 1) := by decide +kernel
theorem d38_14 : decode (zB 38) 14 = .ok (.iload_n 2, 1) := by decide +kernel
theorem d38_15 : decode (zB 38) 15 = .ok (.invokestatic 51, 3) := by decide +kernel
theorem d38_18 : decode (zB 38) 18 = .ok (.istore_n 3, 1) := by decide +kernel
theorem d38_19 : decode (zB 38) 19 = .ok (.iload_n 2, 1) := by decide +kernel
theorem d38_20 : decode (zB 38) 20 = .ok (.iload_n 1, 1) := by decide +kernel
theorem d38_21 : decode (zB 38) 21 = .ok (.invokestatic 37, 3) := by decide +kernel
theorem d38_24 : decode (zB 38) 24 = .ok (.ifCond .ne 5, 3) := by decide +kernel
theorem d38_27 : decode (zB 38) 27 = .ok (.iload_n 3, 1) := by decide +kernel
theorem d38_28 : decode (zB 38) 28 = .ok (.ireturn, 1) := by decide +kernel
theorem d38_29 : decode (zB 38) 29 = .ok (.iload_n 3, 1) := by decide +kernel
theorem d38_30 : decode (zB 38) 30 = .ok (.iconst 1, 1) := by decide +kernel
theorem d38_31 : decode (zB 38) 31 = .ok (.aload_n 0, 1) := by decide +kernel
theorem d38_32 : decode (zB 38) 32 = .ok (.iload_n 1, 1) := by decide +kernel
theorem d38_33 : decode (zB 38) 33 = .ok (.iconst 1, 1) := by decide +kernel
theorem d38_34 : decode (zB 38) 34 = .ok (.iadd, 1) := by decide +kernel
theorem d38_35 : decode (zB 38) 35 = .ok (.iload_n 2, 1) := by decide +kernel
theorem d38_36 : decode (zB 38) 36 = .ok (.aload_n 0, 1) := by decide +kernel
theorem d38_37 : decode (zB 38) 37 = .ok (.iload_n 1, 1) := by decide +kernel
theorem d38_38 : decode (zB 38) 38 = .ok (.invokevirtual 55, 3) := by decide +kernel
theorem d38_41 : decode (zB 38) 41 = .ok (.iand, 1) := by decide +kernel
theorem d38_42 : decode (zB 38) 42 = .ok (.invokestatic 51, 3) := by decide +kernel
theorem d38_45 : decode (zB 38) 45 = .ok (.iadd, 1) := by decide +kernel
theorem d38_46 : decode (zB 38) 46 = .ok (.invokestatic 45, 3) := by decide +kernel
theorem d38_49 : decode (zB 38) 49 = .ok (.ireturn, 1) := by decide +kernel
theorem c38 {d : Nat} {M : zM} {a : Nat} {T : yT} (hp : SPr M a) (hr : RP M a T) (ho : OKT T) : ∀ (r s f : Nat) {Q : Option Value → zM → Prop}, s + r = tn T → f < 4096 → Q (some (.int (nI (ywf T r s f)))) M → qC (d + r + 3) 38 [.ref a, .int (nI s), .int (nI f)] M Q := by
  have hn := ho.n
  intro r
  induction r with
  | zero =>
    intro s f Q hs hf k
    refine qC_of (by decide) (Nat.le_of_ble_eq_true rfl) ?_
    refine q_iload_n d38_0 rfl ?_
    refine q_aload_n d38_1 rfl ?_
    refine q_getv (c := 1) (f := 6) d38_2 ⟨rfl, by decide⟩ hp.1 hr.1 ?_
    refine nc_lt 10 d38_5 (by decide) (by omega) (by omega) (fun h5 => (False.elim (by omega))) (fun h5 => ?_)
    refine q_iconstN (z := 0) d38_8 ?_
    refine q_iret d38_9 rfl ?_
    exact k
  | succ r ih =>
    intro s f Q hs hf k
    refine qC_of (d := d + r + 3) (by decide) (Nat.le_of_ble_eq_true rfl) ?_
    refine q_iload_n d38_0 rfl ?_
    refine q_aload_n d38_1 rfl ?_
    refine q_getv (c := 1) (f := 6) d38_2 ⟨rfl, by decide⟩ hp.1 hr.1 ?_
    refine nc_lt 10 d38_5 (by decide) (by omega) (by omega) (fun h5 => ?_) (fun h5 => (False.elim (by omega)))
    refine q_aload_n d38_10 rfl ?_
    refine q_iload_n d38_11 rfl ?_
    refine q_iconstN (z := 1) d38_12 ?_
    refine n_iadd d38_13 ?_
    refine q_iload_n d38_14 rfl ?_
    refine q_s3 d38_15 (Or.inl rfl) rfl (Nat.le_of_ble_eq_true rfl) (ih (s + 1) _ (by omega) hf ?_)
    have b1 := ywf_le T r (s + 1) f
    refine q_istore_n d38_18 (by decide) rfl ?_
    refine q_iload_n d38_19 rfl ?_
    refine q_iload_n d38_20 rfl ?_
    refine q_s2 d38_21 (Or.inr rfl) rfl (Nat.le_of_ble_eq_true rfl) (c35 (by omega) (by omega) ?_)
    refine b0_ne 29 d38_24 (by decide) (fun h24 => ?_) (fun h24 => ?_)
    · have b2 := ywf_le T r (s + 1) (f &&& ybd T s)
      refine q_iload_n d38_29 rfl ?_
      refine q_iconstN (z := 1) d38_30 ?_
      refine q_aload_n d38_31 rfl ?_
      refine q_iload_n d38_32 rfl ?_
      refine q_iconstN (z := 1) d38_33 ?_
      refine n_iadd d38_34 ?_
      refine q_iload_n d38_35 rfl ?_
      refine q_aload_n d38_36 rfl ?_
      refine q_iload_n d38_37 rfl ?_
      refine q_v1 d38_38 rfl rfl hp.1 (Nat.le_of_ble_eq_true rfl) (c39 hp hr ho (by omega) ?_)
      refine n_iand d38_41 ?_
      refine q_s3 d38_42 (Or.inl rfl) rfl (Nat.le_of_ble_eq_true rfl) (ih (s + 1) _ (by omega) (and_lt hf) ?_)
      refine n_iadd d38_45 ?_
      refine q_max d38_46 rfl (Nat.le_of_ble_eq_true rfl) ?_
      rw [n_maxN (by omega) (by omega)]
      refine q_iret d38_49 rfl ?_
      rw [ywf, if_pos h24] at k; exact k
    · refine q_iload_n d38_27 rfl ?_
      refine q_iret d38_28 rfl ?_
      rw [ywf, h24, if_neg (by decide)] at k; exact k
theorem d36_0 : decode (zB 36) 0 = .ok (.aload_n 0, 1) := by decide +kernel
theorem d36_1 : decode (zB 36) 1 = .ok (.iconst 0, 1) := by decide +kernel
theorem d36_2 : decode (zB 36) 2 = .ok (.aload_n 0, 1) := by decide +kernel
theorem d36_3 : decode (zB 36) 3 = .ok (.invokevirtual 41, 3) := by decide +kernel
theorem d36_6 : decode (zB 36) 6 = .ok (.invokestatic 51, 3) := by decide +kernel
theorem d36_9 : decode (zB 36) 9 = .ok (.ireturn, 1) := by decide +kernel
theorem c36 {d : Nat} {M : zM} {Q : Option Value → zM → Prop} {a : Nat} {T : yT} (hp : SPr M a) (hr : RP M a T) (ho : OKT T) (k : Q (some (.int (nI (ywf T (tn T) 0 (2 ^ tn T - 1))))) M) : qC (d + 16) 36 [.ref a] M Q := by
  have hn := ho.n
  have hz : 2 ^ tn T ≤ 4096 := pow_12 hn
  have h0 : 0 < 2 ^ tn T := Nat.two_pow_pos _
  refine qC_of (d := d + 15) (by decide) (Nat.le_of_ble_eq_true rfl) ?_
  refine q_aload_n d36_0 rfl ?_
  refine q_iconstN (z := 0) d36_1 ?_
  refine q_aload_n d36_2 rfl ?_
  refine q_v0 d36_3 rfl rfl hp.1 (Nat.le_of_ble_eq_true rfl) (c37 hp hr hn ?_)
  refine q_s3 d36_6 (Or.inl rfl) rfl (Nat.le_of_ble_eq_true rfl) (qC_up (c38 (d := d) hp hr ho (tn T) 0 _ (by omega) (by omega) ?_) (by omega))
  refine q_iret d36_9 rfl ?_
  exact k
end
section
/-! ===== the order of the locals' list does not matter ===== -/
def zks (l : List (Nat × Value)) : List Nat := l.map (fun q => q.1)
theorem zld_cons (q : Nat × Value) (l : List (Nat × Value)) (j : Nat) : zld (q :: l) j = if q.1 = j then some q.2 else zld l j := by
  unfold zld
  rw [List.find?_cons]
  by_cases h : q.1 = j
  · rw [if_pos h, show (q.1 == j) = true from beq_iff_eq.mpr h]; rfl
  · rw [if_neg h, show (q.1 == j) = false from beq_eq_false_iff_ne.mpr h]
theorem zld_not {l : List (Nat × Value)} {j : Nat} (h : j ∉ zks l) : zld l j = none := by
  induction l with
  | nil => rfl
  | cons q l ih =>
    have h1 : j ≠ q.1 ∧ j ∉ zks l := by
      have : j ∉ q.1 :: zks l := h
      rw [List.mem_cons] at this
      exact ⟨fun e => this (Or.inl e), fun e => this (Or.inr e)⟩
    rw [zld_cons, if_neg (fun e => h1.1 e.symm)]; exact ih h1.2
def zkeep (i : Nat) (q : Nat × Value) : Bool := !(q.1 == i) && !(q.1 + 1 == i && q.2.category == 2)
theorem zld_flt {l : List (Nat × Value)} (hn : (zks l).Nodup) (i j : Nat) : zld (l.filter (zkeep i)) j = match zld l j with
    | none => none
    | some w => if zkeep i (j, w) then some w else none := by
  induction l with
  | nil => rfl
  | cons q l ih =>
    obtain ⟨h1, h2⟩ := List.nodup_cons.mp (show (q.1 :: zks l).Nodup from hn)
    rw [List.filter_cons, zld_cons q l]
    by_cases e : q.1 = j
    · subst e
      rw [if_pos rfl]
      have h3 : zld l q.1 = none := zld_not h1
      by_cases hk : zkeep i q = true
      · rw [if_pos hk, zld_cons, if_pos rfl]
        show some q.2 = if zkeep i (q.1, q.2) then some q.2 else none
        rw [show zkeep i (q.1, q.2) = true from hk]; rfl
      · rw [if_neg hk, ih h2, h3]
        show none = if zkeep i (q.1, q.2) then some q.2 else none
        rw [show zkeep i (q.1, q.2) = false from by simpa using hk]; rfl
    · rw [if_neg e]
      by_cases hk : zkeep i q = true
      · rw [if_pos hk, zld_cons, if_neg e]; exact ih h2
      · rw [if_neg hk]; exact ih h2
theorem zks_flt {l : List (Nat × Value)} (hn : (zks l).Nodup) (p : Nat × Value → Bool) : (zks (l.filter p)).Nodup ∧ ∀ j, j ∈ zks (l.filter p) → j ∈ zks l := by
  induction l with
  | nil => exact ⟨List.nodup_nil, fun _ h => h⟩
  | cons q l ih =>
    obtain ⟨h1, h2⟩ := List.nodup_cons.mp (show (q.1 :: zks l).Nodup from hn)
    obtain ⟨a, b⟩ := ih h2
    rw [List.filter_cons]
    split
    · exact ⟨List.nodup_cons.mpr ⟨fun h => h1 (b _ h), a⟩, fun j h => by
        rcases List.mem_cons.mp (show j ∈ q.1 :: zks (l.filter p) from h) with e | e
        · exact List.mem_cons.mpr (Or.inl e)
        · exact List.mem_cons.mpr (Or.inr (b _ e))⟩
    · exact ⟨a, fun j h => List.mem_cons.mpr (Or.inr (b _ h))⟩
theorem zst_eq (l : List (Nat × Value)) (i : Nat) (v : Value) : zst l i v = (i, v) :: l.filter (zkeep i) := rfl
/-- two lists of locals that say the same -/
def zSm (l l' : List (Nat × Value)) : Prop := (zks l).Nodup ∧ (zks l').Nodup ∧ ∀ j, zld l j = zld l' j
theorem zSm_st {l l' : List (Nat × Value)} (h : zSm l l') (i : Nat) (v : Value) : zSm (zst l i v) (zst l' i v) := by
  have nd : ∀ l : List (Nat × Value), (zks l).Nodup → (zks (zst l i v)).Nodup := fun l hl => by
    rw [zst_eq]
    refine List.nodup_cons.mpr ⟨fun hm => ?_, (zks_flt hl _).1⟩
    obtain ⟨q, hq, e⟩ := List.mem_map.mp hm
    have := (List.mem_filter.mp hq).2
    unfold zkeep at this
    rw [show (q.1 == i) = true from beq_iff_eq.mpr e] at this
    exact absurd this (by simp)
  refine ⟨nd l h.1, nd l' h.2.1, fun j => ?_⟩
  rw [zst_eq, zst_eq, zld_cons, zld_cons, zld_flt h.1, zld_flt h.2.1, h.2.2 j]
theorem zLoop_sm {R : zRT} {m : Nat} {v : Option Value} {M' : zM} : ∀ (f pc : Nat) (l l' : List (Nat × Value)) (st : List Value) (M : zM), zSm l l' → zLoop R m v M' f pc l st M → zLoop R m v M' f pc l' st M := by
  intro f
  induction f with
  | zero => intro _ _ _ _ _ _ h; exact h.elim
  | succ f ih =>
    intro pc l l' st M hs h
    obtain ⟨i, n, hd, h⟩ := h
    refine ⟨i, n, hd, ?_⟩
    have ih' : ∀ pc st M, zLoop R m v M' f pc l st M → zLoop R m v M' f pc l' st M := fun pc st M h => ih pc l l' st M hs h
    have hI : ∀ j d, zldI (zLoop R m v M' f) pc l st M j d → zldI (zLoop R m v M' f) pc l' st M j d := fun j d ⟨x, h1, h2⟩ => ⟨x, (hs.2.2 j).symm.trans h1, ih' _ _ _ h2⟩
    have hA : ∀ j d, zldA (zLoop R m v M' f) pc l st M j d → zldA (zLoop R m v M' f) pc l' st M j d := fun j d ⟨x, h1, h2⟩ => ⟨x, (hs.2.2 j).symm.trans h1, ih' _ _ _ h2⟩
    have hSI : ∀ j d, zstI m (zLoop R m v M' f) pc l st M j d → zstI m (zLoop R m v M' f) pc l' st M j d := fun j d ⟨h0, x, s, h1, h2⟩ => ⟨h0, x, s, h1, ih _ _ _ _ _ (zSm_st hs _ _) h2⟩
    have hSA : ∀ j d, zstA m (zLoop R m v M' f) pc l st M j d → zstA m (zLoop R m v M' f) pc l' st M j d := fun j d ⟨h0, x, s, h1, h2⟩ => ⟨h0, x, s, h1, ih _ _ _ _ _ (zSm_st hs _ _) h2⟩
    have hcs : ∀ y as rest pc, zCallS R (zLoop R m v M' f) pc l M y as rest → zCallS R (zLoop R m v M' f) pc l' M y as rest := by
      intro y as rest pc ⟨h8, w, M1, h1, h2⟩
      exact ⟨h8, w, M1, h1, ih' _ _ _ h2⟩
    have hbr : ∀ (p A B A' B' : Prop), (A → A') → (B → B') → zbr p A B → zbr p A' B' := fun p A B A' B' hA hB h => ⟨fun q => hA (h.1 q), fun q => hB (h.2 q)⟩
    cases i with
    | iload_n j => exact ⟨h.1, hI _ _ h.2⟩
    | iload j => exact ⟨h.1, hI _ _ h.2⟩
    | aload_n j => exact ⟨h.1, hA _ _ h.2⟩
    | aload j => exact ⟨h.1, hA _ _ h.2⟩
    | istore_n j => exact ⟨h.1, hSI _ _ h.2⟩
    | istore j => exact ⟨h.1, hSI _ _ h.2⟩
    | astore_n j => exact ⟨h.1, hSA _ _ h.2⟩
    | astore j => exact ⟨h.1, hSA _ _ h.2⟩
    | iinc j z => obtain ⟨e1, e2, x, h1, h2⟩ := h; exact ⟨e1, e2, x, (hs.2.2 j).symm.trans h1, ih _ _ _ _ _ (zSm_st hs _ _) h2⟩
    | ldc ix =>
      obtain ⟨e, h⟩ := h
      rcases h with ⟨x, h1, h⟩ | ⟨x, h1, h⟩
      · exact ⟨e, Or.inl ⟨x, h1, ih' _ _ _ h⟩⟩
      · exact ⟨e, Or.inr ⟨x, h1, ih' _ _ _ h⟩⟩
    | ifCond c off => obtain ⟨e, x, st', tgt, e1, e2, h⟩ := h; exact ⟨e, x, st', tgt, e1, e2, hbr _ _ _ _ _ (ih' _ _ _) (ih' _ _ _) h⟩
    | if_icmp c off => obtain ⟨e, x, y, st', tgt, e1, e2, h⟩ := h; exact ⟨e, x, y, st', tgt, e1, e2, hbr _ _ _ _ _ (ih' _ _ _) (ih' _ _ _) h⟩
    | ifnull off => obtain ⟨e, r, st', tgt, e1, e2, h⟩ := h; exact ⟨e, r, st', tgt, e1, e2, hbr _ _ _ _ _ (ih' _ _ _) (ih' _ _ _) h⟩
    | ifnonnull off => obtain ⟨e, r, st', tgt, e1, e2, h⟩ := h; exact ⟨e, r, st', tgt, e1, e2, hbr _ _ _ _ _ (ih' _ _ _) (ih' _ _ _) h⟩
    | tableswitch d lo hi offs =>
      obtain ⟨x, st', e, h⟩ := h
      exact ⟨x, st', e, hbr _ _ _ _ _ (fun ⟨t, e, h⟩ => ⟨t, e, ih' _ _ _ h⟩) (fun ⟨o, t, e1, e2, h⟩ => ⟨o, t, e1, e2, ih' _ _ _ h⟩) h⟩
    | putfield ix =>
      obtain ⟨e, w, a, st', c, f', e1, e2, e3, e4, h⟩ := h
      refine ⟨e, w, a, st', c, f', e1, e2, e3, e4, ?_⟩
      rcases h with ⟨e5, x, e6, h⟩ | ⟨e5, x, e6, e7, h⟩ | ⟨e5, x, e6, h⟩
      · exact Or.inl ⟨e5, x, e6, ih' _ _ _ h⟩
      · exact Or.inr (Or.inl ⟨e5, x, e6, e7, ih' _ _ _ h⟩)
      · exact Or.inr (Or.inr ⟨e5, x, e6, ih' _ _ _ h⟩)
    | newarray t =>
      obtain ⟨e, z, st', N, e1, e2, e3, e4, h⟩ := h
      refine ⟨e, z, st', N, e1, e2, e3, e4, ?_⟩
      rcases h with ⟨e5, h⟩ | ⟨e5, h⟩
      · exact Or.inl ⟨e5, ih' _ _ _ h⟩
      · exact Or.inr ⟨e5, ih' _ _ _ h⟩
    | multianewarray ix d =>
      obtain ⟨e, z, j, st', N, J, e1, e2, e3, e4, e5, e6, h⟩ := h
      refine ⟨e, z, j, st', N, J, e1, e2, e3, e4, e5, e6, ?_⟩
      rcases h with ⟨g1, g2, g3, h⟩ | ⟨g1, g2, y, K, g3, g4, g5, g6, h⟩
      · exact Or.inl ⟨g1, g2, g3, ih' _ _ _ h⟩
      · exact Or.inr ⟨g1, g2, y, K, g3, g4, g5, g6, ih' _ _ _ h⟩
    | invokevirtual ix =>
      obtain ⟨e, kd, y, b, as, rest, e1, e2, h⟩ := h
      refine ⟨e, kd, y, b, as, rest, e1, e2, ?_⟩
      rcases h with ⟨g1, g2, g3, h⟩ | ⟨g1, h⟩
      · exact Or.inl ⟨g1, g2, g3, hcs _ _ _ _ h⟩
      · exact Or.inr ⟨g1, hcs _ _ _ _ h⟩
    | invokestatic ix =>
      obtain ⟨e, kd, y, e1, h⟩ := h
      refine ⟨e, kd, y, e1, ?_⟩
      rcases h with ⟨g1, as, rest, g2, g3, h⟩ | ⟨g1, N, dp, sp, a, a0, rest, n0, n1, g2, g3, g4, g5, g6, g7, g8, g9, ga, h⟩ | ⟨g1, a, b, rest, g2, g3, h⟩ | ⟨g1, a, b, rest, g2, g3, h⟩
      · exact Or.inl ⟨g1, as, rest, g2, g3, hcs _ _ _ _ h⟩
      · exact Or.inr (Or.inl ⟨g1, N, dp, sp, a, a0, rest, n0, n1, g2, g3, g4, g5, g6, g7, g8, g9, ga, ih' _ _ _ h⟩)
      · exact Or.inr (Or.inr (Or.inl ⟨g1, a, b, rest, g2, g3, ih' _ _ _ h⟩))
      · exact Or.inr (Or.inr (Or.inr ⟨g1, a, b, rest, g2, g3, ih' _ _ _ h⟩))
    | invokespecial ix =>
      obtain ⟨e, kd, y, b, as, rest, e1, e2, h⟩ := h
      refine ⟨e, kd, y, b, as, rest, e1, e2, ?_⟩
      rcases h with ⟨g1, g2, g3, h⟩ | ⟨g1, g2, g3, h⟩
      · exact Or.inl ⟨g1, g2, g3, ih' _ _ _ h⟩
      · exact Or.inr ⟨g1, g2, g3, hcs _ _ _ _ h⟩
    | ireturn => exact h
    | lreturn => exact h
    | areturn => exact h
    | return_ => exact h
    | _ => first
      | exact h.elim
      | (obtain ⟨e1, h⟩ := h; exact ⟨e1, ih' _ _ _ h⟩)
      | (obtain ⟨e1, e2, h⟩ := h; exact ⟨e1, e2, ih' _ _ _ h⟩)
      | (obtain ⟨e1, e2, e3, h⟩ := h; exact ⟨e1, e2, e3, ih' _ _ _ h⟩)
      | (obtain ⟨e1, e2, e3, e4, h⟩ := h; exact ⟨e1, e2, e3, e4, ih' _ _ _ h⟩)
      | (obtain ⟨e1, e2, e3, e4, e5, h⟩ := h; exact ⟨e1, e2, e3, e4, e5, ih' _ _ _ h⟩)
      | (obtain ⟨e1, e2, e3, e4, e5, e6, h⟩ := h; exact ⟨e1, e2, e3, e4, e5, e6, ih' _ _ _ h⟩)
      | (obtain ⟨e1, e2, e3, e4, e5, e6, e7, h⟩ := h; exact ⟨e1, e2, e3, e4, e5, e6, e7, ih' _ _ _ h⟩)
      | (obtain ⟨e1, e2, e3, e4, e5, e6, e7, e8, h⟩ := h; exact ⟨e1, e2, e3, e4, e5, e6, e7, e8, ih' _ _ _ h⟩)
      | (obtain ⟨e1, e2, e3, e4, e5, e6, e7, e8, e9, h⟩ := h; exact ⟨e1, e2, e3, e4, e5, e6, e7, e8, e9, ih' _ _ _ h⟩)
      | (obtain ⟨e1, e2, e3, e4, e5, e6, e7, e8, e9, ea, h⟩ := h; exact ⟨e1, e2, e3, e4, e5, e6, e7, e8, e9, ea, ih' _ _ _ h⟩)
      | (obtain ⟨e1, e2, e3, e4, e5, e6, e7, e8, e9, ea, eb, h⟩ := h; exact ⟨e1, e2, e3, e4, e5, e6, e7, e8, e9, ea, eb, ih' _ _ _ h⟩)
      | (obtain ⟨e1, e2, e3, e4, e5, e6, e7, e8, e9, ea, eb, ec, h⟩ := h; exact ⟨e1, e2, e3, e4, e5, e6, e7, e8, e9, ea, eb, ec, ih' _ _ _ h⟩)
/-- sorted by their places -/
def zins (q : Nat × Value) : List (Nat × Value) → List (Nat × Value)
  | [] => [q]
  | r :: t => if Nat.ble q.1 r.1 then q :: r :: t else r :: zins q t
def znrm (l : List (Nat × Value)) : List (Nat × Value) := l.foldr zins []
def zkd (l : List (Nat × Value)) : Bool := match l with
  | [] => true
  | q :: t => !((zks t).contains q.1) && zkd t
theorem zkd_nd : ∀ {l : List (Nat × Value)}, zkd l = true → (zks l).Nodup
  | [], _ => List.nodup_nil
  | q :: t, h => by
    unfold zkd at h
    simp only [Bool.and_eq_true, Bool.not_eq_true', List.contains_eq_mem, decide_eq_false_iff_not] at h
    exact List.nodup_cons.mpr ⟨h.1, zkd_nd h.2⟩
theorem zins_ks (q : Nat × Value) : ∀ (l : List (Nat × Value)) (j : Nat), j ∈ zks (zins q l) ↔ j = q.1 ∨ j ∈ zks l
  | [], j => by show j ∈ [q.1] ↔ j = q.1 ∨ j ∈ []; simp
  | r :: t, j => by
    rw [zins]
    split
    · show j ∈ q.1 :: r.1 :: zks t ↔ j = q.1 ∨ j ∈ r.1 :: zks t; rw [List.mem_cons]
    · show j ∈ r.1 :: zks (zins q t) ↔ j = q.1 ∨ j ∈ r.1 :: zks t
      rw [List.mem_cons, zins_ks q t j, List.mem_cons]
      constructor
      · rintro (e | e | e)
        · exact Or.inr (Or.inl e)
        · exact Or.inl e
        · exact Or.inr (Or.inr e)
      · rintro (e | e | e)
        · exact Or.inr (Or.inl e)
        · exact Or.inl e
        · exact Or.inr (Or.inr e)
theorem zins_ok {q : Nat × Value} : ∀ {l : List (Nat × Value)}, q.1 ∉ zks l → (zks l).Nodup → (zks (zins q l)).Nodup ∧ ∀ j, zld (zins q l) j = if q.1 = j then some q.2 else zld l j
  | [], _, _ => ⟨List.nodup_cons.mpr ⟨List.not_mem_nil, List.nodup_nil⟩, fun j => zld_cons _ _ _⟩
  | r :: t, hq, hn => by
    have hq2 : q.1 ≠ r.1 ∧ q.1 ∉ zks t := by
      have : q.1 ∉ r.1 :: zks t := hq
      rw [List.mem_cons] at this
      exact ⟨fun e => this (Or.inl e), fun e => this (Or.inr e)⟩
    obtain ⟨h1, h2⟩ := List.nodup_cons.mp (show (r.1 :: zks t).Nodup from hn)
    rw [zins]
    split
    · exact ⟨List.nodup_cons.mpr ⟨hq, hn⟩, fun j => zld_cons _ _ _⟩
    · obtain ⟨a, b⟩ := zins_ok hq2.2 h2
      refine ⟨List.nodup_cons.mpr ⟨fun hm => ?_, a⟩, fun j => ?_⟩
      · rcases (zins_ks q t r.1).mp hm with e | e
        · exact hq2.1 e.symm
        · exact h1 e
      · rw [zld_cons, b j, zld_cons]
        by_cases e : r.1 = j
        · rw [if_pos e, if_pos e, if_neg (fun e2 => hq2.1 (e2.trans e.symm))]
        · rw [if_neg e, if_neg e]
theorem znrm_ok : ∀ {l : List (Nat × Value)}, (zks l).Nodup → (zks (znrm l)).Nodup ∧ (∀ j, j ∈ zks (znrm l) ↔ j ∈ zks l) ∧ ∀ j, zld (znrm l) j = zld l j
  | [], h => ⟨h, fun _ => Iff.rfl, fun _ => rfl⟩
  | q :: t, h => by
    obtain ⟨h1, h2⟩ := List.nodup_cons.mp (show (q.1 :: zks t).Nodup from h)
    obtain ⟨a, b, c⟩ := znrm_ok h2
    obtain ⟨e, f⟩ := zins_ok (q := q) (l := znrm t) (fun hm => h1 ((b _).mp hm)) a
    exact ⟨e, fun j => by
      show j ∈ zks (zins q (znrm t)) ↔ j ∈ q.1 :: zks t
      rw [zins_ks, List.mem_cons, b j], fun j => by
      show zld (zins q (znrm t)) j = _
      rw [f j, zld_cons, c j]⟩
theorem qW_srt {R : zRT} {m : Nat} {Q : Option Value → zM → Prop} {pc : Nat} {l l' : List (Nat × Value)} {st : List Value} {M : zM} (h1 : zkd l = true) (h2 : znrm l = l') (k : qW R m Q pc l' st M) : qW R m Q pc l st M := by
  subst h2
  obtain ⟨f, v, M', h, hq⟩ := k
  obtain ⟨a, -, c⟩ := znrm_ok (zkd_nd h1)
  exact ⟨f, v, M', zLoop_sm f pc _ _ st M ⟨a, zkd_nd h1, c⟩ h, hq⟩
end
section
/-! ===== contracts: clashes, chains ===== -/
def yap (T : yT) (i j : Nat) : Bool := (ybd T i).testBit j && (yao T i &&& yao T j) != 0
/-- how many j < n with i < j clash with i -/
def ycj (T : yT) (i : Nat) : Nat → Nat
  | 0 => 0
  | j + 1 => ycj T i j + (if i < j ∧ yap T i j = true then 1 else 0)
def ycl (T : yT) : Nat → Nat
  | 0 => 0
  | i + 1 => ycl T i + ycj T i (tn T)
theorem ycj_le (T : yT) (i : Nat) : ∀ j, ycj T i j ≤ j
  | 0 => Nat.le_refl _
  | j + 1 => by have := ycj_le T i j; rw [ycj]; split <;> omega
theorem ycj_0 (T : yT) (i : Nat) : ∀ j, j ≤ i + 1 → ycj T i j = 0
  | 0, _ => rfl
  | j + 1, h => by rw [ycj, ycj_0 T i j (by omega), if_neg (fun q => by omega)]
theorem yao_lt (T : yT) (i : Nat) : yao T i < 64 := or_lt (n := 6) (yac_lt _) (yac_lt _)
theorem ycj_t {T : yT} {i j : Nat} (h : i < j) (h1 : (ybd T i).testBit j = true) (h2 : ¬ yao T i &&& yao T j = 0) : ycj T i (j + 1) = ycj T i j + 1 := by
  rw [ycj, if_pos ⟨h, by unfold yap; rw [h1]; simp [h2]⟩]
theorem ycj_f {T : yT} {i j : Nat} (h : (ybd T i).testBit j = false ∨ yao T i &&& yao T j = 0) : ycj T i (j + 1) = ycj T i j := by
  rw [ycj, if_neg (fun q => by
    have q2 := q.2
    unfold yap at q2
    rcases h with e | e <;> rw [e] at q2 <;> simp at q2)]
  rfl
theorem d40_0 : decode (zB 40) 0 = .ok (.iconst 0, 1) := by decide +kernel
theorem d40_1 : decode (zB 40) 1 = .ok (.istore_n 1, 1) := by decide +kernel
theorem d40_2 : decode (zB 40) 2 = .ok (.iconst 0, 1) := by decide +kernel
theorem d40_3 : decode (zB 40) 3 = .ok (.istore_n 2, 1) := by decide +kernel
theorem d40_4 : decode (zB 40) 4 = .ok (.iload_n 2, 1) := by decide +kernel
theorem d40_5 : decode (zB 40) 5 = .ok (.aload_n 0, 1) := by decide +kernel
theorem d40_6 : decode (zB 40) 6 = .ok (.getfield 34, 3) := by decide +kernel
theorem d40_9 : decode (zB 40) 9 = .ok (.if_icmp .ge 62, 3) := by decide +kernel
theorem d40_12 : decode (zB 40) 12 = .ok (.aload_n 0, 1) := by decide +kernel
theorem d40_13 : decode (zB 40) 13 = .ok (.iload_n 2, 1) := by decide +kernel
theorem d40_14 : decode (zB 40) 14 = .ok (.invokevirtual 55, 3) := by decide +kernel
theorem d40_17 : decode (zB 40) 17 = .ok (.istore_n 3, 1) := by decide +kernel
theorem d40_18 : decode (zB 40) 18 = .ok (.iload_n 2, 1) := by decide +kernel
theorem d40_19 : decode (zB 40) 19 = .ok (.iconst 1, 1) := by decide +kernel
theorem d40_20 : decode (zB 40) 20 = .ok (.iadd, 1) := by decide +kernel
theorem d40_21 : decode (zB 40) 21 = .ok (.istore 4, 2) := by decide +kernel
theorem d40_23 : decode (zB 40) 23 = .ok (.iload 4, 2) := by decide +kernel
theorem d40_25 : decode (zB 40) 25 = .ok (.aload_n 0, 1) := by decide +kernel
theorem d40_26 : decode (zB 40) 26 = .ok (.getfield 34, 3) := by decide +kernel
theorem d40_29 : decode (zB 40) 29 = .ok (.if_icmp .ge 36, 3) := by decide +kernel
theorem d40_32 : decode (zB 40) 32 = .ok (.iload_n 3, 1) := by decide +kernel
theorem d40_33 : decode (zB 40) 33 = .ok (.iload 4, 2) := by decide +kernel
theorem d40_35 : decode (zB 40) 35 = .ok (.invokestatic 37, 3) := by decide +kernel
theorem d40_38 : decode (zB 40) 38 = .ok (.ifCond .eq 21, 3) := by decide +kernel
theorem d40_41 : decode (zB 40) 41 = .ok (.aload_n 0, 1) := by decide +kernel
theorem d40_42 : decode (zB 40) 42 = .ok (.iload_n 2, 1) := by decide +kernel
theorem d40_43 : decode (zB 40) 43 = .ok (.invokevirtual 63, 3) := by decide +kernel
theorem d40_46 : decode (zB 40) 46 = .ok (.aload_n 0, 1) := by decide +kernel
theorem d40_47 : decode (zB 40) 47 = .ok (.iload 4, 2) := by decide +kernel
theorem d40_49 : decode (zB 40) 49 = .ok (.invokevirtual 63, 3) := by decide +kernel
theorem d40_52 : decode (zB 40) 52 = .ok (.iand, 1) := by decide +kernel
theorem d40_53 : decode (zB 40) 53 = .ok (.ifCond .eq 6, 3) := by decide +kernel
theorem d40_56 : decode (zB 40) 56 = .ok (.iinc 1 1, 3) := by decide +kernel
theorem d40_59 : decode (zB 40) 59 = .ok (.iinc 4 1, 3) := by decide +kernel
theorem d40_62 : decode (zB 40) 62 = .ok (.goto (-39), 3) := by decide +kernel
theorem d40_65 : decode (zB 40) 65 = .ok (.iinc 2 1, 3) := by decide +kernel
theorem d40_68 : decode (zB 40) 68 = .ok (.goto (-64), 3) := by decide +kernel
theorem d40_71 : decode (zB 40) 71 = .ok (.iload_n 1, 1) := by decide +kernel
theorem d40_72 : decode (zB 40) 72 = .ok (.ireturn, 1) := by decide +kernel
theorem l40i {d : Nat} {M : zM} {Q : Option Value → zM → Prop} {a : Nat} {T : yT} {i c : Nat} (hp : SPr M a) (hr : RP M a T) (ho : OKT T) (hi : i < tn T) (k : qW (zEv (d + 3)) 40 Q 65 [(0, .ref a), (1, .int (nI (c + ycj T i (tn T)))), (2, .int (nI i)), (3, .int (nI (ybd T i))), (4, .int (nI (tn T)))] [] M) : ∀ (r j : Nat), j ≤ tn T → tn T < j + r → i < j → qW (zEv (d + 3)) 40 Q 23 [(0, .ref a), (1, .int (nI (c + ycj T i j))), (2, .int (nI i)), (3, .int (nI (ybd T i))), (4, .int (nI j))] [] M := by
  intro r
  induction r with
  | zero => intros; omega
  | succ r ih =>
    intro j  h1 h2 hj
    have hn := ho.n
    have hb1 := ybd_lt T i hn
    refine q_iload d40_23 rfl ?_
    refine q_aload_n d40_25 rfl ?_
    refine q_getv (c := 1) (f := 6) d40_26 ⟨rfl, by decide⟩ hp.1 hr.1 ?_
    refine nc_ge 65 d40_29 (by decide) (by omega) (by omega) (fun h29 => ?_) (fun h29 => ?_)
    · refine qW_srt rfl rfl ?_
      rw [show j = tn T by omega]; exact k
    · refine q_iload_n d40_32 rfl ?_
      refine q_iload d40_33 rfl ?_
      refine q_s2 d40_35 (Or.inr rfl) rfl (Nat.le_of_ble_eq_true rfl) (c35 (by omega) (by omega) ?_)
      refine b0_eq 59 d40_38 (by decide) (fun h38 => ?_) (fun h38 => ?_)
      · refine n_iinc 1 d40_59 (by decide) rfl rfl ?_
        refine q_goto 23 d40_62 (by decide) ?_
        refine qW_srt rfl rfl ?_
        first
        | (rw [show c + ycj T i j + 1 = c + ycj T i (j + 1) by rw [ycj_t (by omega) h38 h53]; rfl]; exact ih (j + 1) (by omega) (by omega) (by omega))
        | (rw [show ycj T i j = ycj T i (j + 1) by rw [ycj_f (Or.inr h53)]]; exact ih (j + 1) (by omega) (by omega) (by omega))
        | (rw [show ycj T i j = ycj T i (j + 1) by rw [ycj_f (Or.inl h38)]]; exact ih (j + 1) (by omega) (by omega) (by omega))
      · have ha1 : yao T i &&& yao T j < 2147483648 := Nat.lt_of_le_of_lt Nat.and_le_left (Nat.lt_trans (yao_lt T i) (by decide))
        refine q_aload_n d40_41 rfl ?_
        refine q_iload_n d40_42 rfl ?_
        refine q_v1 d40_43 rfl rfl hp.1 (Nat.le_of_ble_eq_true rfl) (c41 hp hr hi hn ?_)
        refine q_aload_n d40_46 rfl ?_
        refine q_iload d40_47 rfl ?_
        refine q_v1 d40_49 rfl rfl hp.1 (Nat.le_of_ble_eq_true rfl) (c41 hp hr (by omega) hn ?_)
        refine n_iand d40_52 ?_
        refine n0_eq 59 d40_53 (by decide) (by omega) (fun h53 => ?_) (fun h53 => ?_)
        · refine n_iinc 1 d40_59 (by decide) rfl rfl ?_
          refine q_goto 23 d40_62 (by decide) ?_
          refine qW_srt rfl rfl ?_
          first
          | (rw [show c + ycj T i j + 1 = c + ycj T i (j + 1) by rw [ycj_t (by omega) h38 h53]; rfl]; exact ih (j + 1) (by omega) (by omega) (by omega))
          | (rw [show ycj T i j = ycj T i (j + 1) by rw [ycj_f (Or.inr h53)]]; exact ih (j + 1) (by omega) (by omega) (by omega))
          | (rw [show ycj T i j = ycj T i (j + 1) by rw [ycj_f (Or.inl h38)]]; exact ih (j + 1) (by omega) (by omega) (by omega))
        · refine n_iinc 1 d40_56 (by decide) rfl rfl ?_
          refine n_iinc 1 d40_59 (by decide) rfl rfl ?_
          refine q_goto 23 d40_62 (by decide) ?_
          refine qW_srt rfl rfl ?_
          first
          | (rw [show c + ycj T i j + 1 = c + ycj T i (j + 1) by rw [ycj_t (by omega) h38 h53]; rfl]; exact ih (j + 1) (by omega) (by omega) (by omega))
          | (rw [show ycj T i j = ycj T i (j + 1) by rw [ycj_f (Or.inr h53)]]; exact ih (j + 1) (by omega) (by omega) (by omega))
          | (rw [show ycj T i j = ycj T i (j + 1) by rw [ycj_f (Or.inl h38)]]; exact ih (j + 1) (by omega) (by omega) (by omega))
theorem l40 {d : Nat} {M : zM} {Q : Option Value → zM → Prop} {a : Nat} {T : yT} (hp : SPr M a) (hr : RP M a T) (ho : OKT T) (k : Q (some (.int (nI (ycl T (tn T))))) M) : ∀ (r i : Nat) (a3 a4 : Value), i ≤ tn T → tn T < i + r → qW (zEv (d + 3)) 40 Q 4 [(0, .ref a), (1, .int (nI (ycl T i))), (2, .int (nI i)), (3, a3), (4, a4)] [] M := by
  intro r
  induction r with
  | zero => intros; omega
  | succ r ih =>
    intro i a3 a4 h1 h2 
    have hn := ho.n
    refine q_iload_n d40_4 rfl ?_
    refine q_aload_n d40_5 rfl ?_
    refine q_getv (c := 1) (f := 6) d40_6 ⟨rfl, by decide⟩ hp.1 hr.1 ?_
    refine nc_ge 71 d40_9 (by decide) (by omega) (by omega) (fun h9 => ?_) (fun h9 => ?_)
    · refine q_iload_n d40_71 rfl ?_
      refine q_iret d40_72 rfl ?_
      rw [show i = tn T by omega]; exact k
    · refine q_aload_n d40_12 rfl ?_
      refine q_iload_n d40_13 rfl ?_
      refine q_v1 d40_14 rfl rfl hp.1 (Nat.le_of_ble_eq_true rfl) (c39 hp hr ho (by omega) ?_)
      refine q_istore_n d40_17 (by decide) rfl ?_
      refine q_iload_n d40_18 rfl ?_
      refine q_iconstN (z := 1) d40_19 ?_
      refine n_iadd d40_20 ?_
      refine q_istore d40_21 (by decide) rfl ?_
      refine qW_srt rfl rfl ?_
      rw [show ycl T i = ycl T i + ycj T i (i + 1) by rw [ycj_0 T i _ (Nat.le_refl _)]; rfl]
      exact l40i hp hr ho (by omega) (by
        refine n_iinc (x := i) 1 d40_65 (by decide) rfl rfl ?_
        refine q_goto 4 d40_68 (by decide) ?_
        refine qW_srt rfl rfl ?_
        exact ih (i + 1) _ _ (by omega) (by omega)) (tn T + 1) (i + 1) (by omega) (by omega) (by omega)
theorem c40 {d : Nat} {M : zM} {Q : Option Value → zM → Prop} {a : Nat} {T : yT} (hp : SPr M a) (hr : RP M a T) (ho : OKT T) (k : Q (some (.int (nI (ycl T (tn T))))) M) : qC (d + 4) 40 [.ref a] M Q := by
  have hn := ho.n
  have h1n := ho.1
  refine qC_of (by decide) (Nat.le_of_ble_eq_true rfl) ?_
  refine q_iconstN (z := 0) d40_0 ?_
  refine q_istore_n d40_1 (by decide) rfl ?_
  refine q_iconstN (z := 0) d40_2 ?_
  refine q_istore_n d40_3 (by decide) rfl ?_
  refine q_iload_n d40_4 rfl ?_
  refine q_aload_n d40_5 rfl ?_
  refine q_getv (c := 1) (f := 6) d40_6 ⟨rfl, by decide⟩ hp.1 hr.1 ?_
  refine nc_ge 71 d40_9 (by decide) (by omega) (by omega) (fun h9 => ?_) (fun h9 => ?_)
  · refine q_iload_n d40_71 rfl ?_
    refine q_iret d40_72 rfl ?_
    omega
  · refine q_aload_n d40_12 rfl ?_
    refine q_iload_n d40_13 rfl ?_
    refine q_v1 d40_14 rfl rfl hp.1 (Nat.le_of_ble_eq_true rfl) (c39 hp hr ho (by omega) ?_)
    refine q_istore_n d40_17 (by decide) rfl ?_
    refine q_iload_n d40_18 rfl ?_
    refine q_iconstN (z := 1) d40_19 ?_
    refine n_iadd d40_20 ?_
    refine q_istore d40_21 (by decide) rfl ?_
    refine qW_srt rfl rfl ?_
    exact l40i (c := 0) (i := 0) hp hr ho (by omega) (by
      refine n_iinc (x := 0) 1 d40_65 (by decide) rfl rfl ?_
      refine q_goto 4 d40_68 (by decide) ?_
      refine qW_srt rfl rfl ?_
      exact l40 hp hr ho k (tn T + 1) 1 _ _ (by omega) (by omega)) (tn T + 1) 1 (by omega) (by omega) (by omega)
/-- how long a chain is that ends at i, looking at steps below j; c: those known -/
def yc1 (T : yT) (c : Nat → Nat) (i : Nat) : Nat → Nat
  | 0 => 1
  | j + 1 => if (ta T i).testBit j then max (yc1 T c i j) (c j + 1) else yc1 T c i j
def ycs (T : yT) : Nat → Nat → Nat
  | 0 => fun _ => 0
  | i + 1 => yu (ycs T i) i (yc1 T (ycs T i) i i)
def ylo (T : yT) : Nat → Nat
  | 0 => 0
  | i + 1 => max (ylo T i) (yc1 T (ycs T i) i i)
theorem yc1_le {T : yT} {c : Nat → Nat} {i b : Nat} (h : ∀ k, c k ≤ b) : ∀ j, yc1 T c i j ≤ b + 1
  | 0 => by show 1 ≤ b + 1; omega
  | j + 1 => by
    have := yc1_le (T := T) (i := i) h j
    have := h j
    rw [yc1]
    split
    · exact Nat.max_le.mpr ⟨by omega, by omega⟩
    · omega
theorem ycs_le (T : yT) : ∀ i k, ycs T i k ≤ i
  | 0, _ => Nat.le_refl _
  | i + 1, k => by
    show yu (ycs T i) i (yc1 T (ycs T i) i i) k ≤ i + 1
    by_cases e : k = i
    · subst e; rw [yu_s]; exact yc1_le (ycs_le T k) k
    · rw [yu_n e]; have := ycs_le T i k; omega
theorem ylo_le (T : yT) : ∀ i, ylo T i ≤ i
  | 0 => Nat.le_refl _
  | i + 1 => by
    have := ylo_le T i
    have := yc1_le (T := T) (i := i) (ycs_le T i) i
    rw [ylo]
    exact Nat.max_le.mpr ⟨by omega, by omega⟩
theorem d34_0 : decode (zB 34) 0 = .ok (.iconst 0, 1) := by decide +kernel
theorem d34_1 : decode (zB 34) 1 = .ok (.istore_n 1, 1) := by decide +kernel
theorem d34_2 : decode (zB 34) 2 = .ok (.iconst 0, 1) := by decide +kernel
theorem d34_3 : decode (zB 34) 3 = .ok (.istore_n 2, 1) := by decide +kernel
theorem d34_4 : decode (zB 34) 4 = .ok (.iload_n 2, 1) := by decide +kernel
theorem d34_5 : decode (zB 34) 5 = .ok (.aload_n 0, 1) := by decide +kernel
theorem d34_6 : decode (zB 34) 6 = .ok (.getfield 34, 3) := by decide +kernel
theorem d34_9 : decode (zB 34) 9 = .ok (.if_icmp .ge 76, 3) := by decide +kernel
theorem d34_12 : decode (zB 34) 12 = .ok (.aload_n 0, 1) := by decide +kernel
theorem d34_13 : decode (zB 34) 13 = .ok (.getfield 27, 3) := by decide +kernel
theorem d34_16 : decode (zB 34) 16 = .ok (.iload_n 2, 1) := by decide +kernel
theorem d34_17 : decode (zB 34) 17 = .ok (.iconst 1, 1) := by decide +kernel
theorem d34_18 : decode (zB 34) 18 = .ok (.iastore, 1) := by decide +kernel
theorem d34_19 : decode (zB 34) 19 = .ok (.iconst 0, 1) := by decide +kernel
theorem d34_20 : decode (zB 34) 20 = .ok (.istore_n 3, 1) := by decide +kernel
theorem d34_21 : decode (zB 34) 21 = .ok (.iload_n 3, 1) := by decide +kernel
theorem d34_22 : decode (zB 34) 22 = .ok (.iload_n 2, 1) := by decide +kernel
theorem d34_23 : decode (zB 34) 23 = .ok (.if_icmp .ge 45, 3) := by decide +kernel
theorem d34_26 : decode (zB 34) 26 = .ok (.aload_n 0, 1) := by decide +kernel
theorem d34_27 : decode (zB 34) 27 = .ok (.getfield 24, 3) := by decide +kernel
theorem d34_30 : decode (zB 34) 30 = .ok (.iload_n 2, 1) := by decide +kernel
theorem d34_31 : decode (zB 34) 31 = .ok (.iaload, 1) := by decide +kernel
theorem d34_32 : decode (zB 34) 32 = .ok (.iload_n 3, 1) := by decide +kernel
theorem d34_33 : decode (zB 34) 33 = .ok (.invokestatic 37, 3) := by decide +kernel
theorem d34_36 : decode (zB 34) 36 = .ok (.ifCond .eq 26, 3) := by decide +kernel
theorem d34_39 : decode (zB 34) 39 = .ok (.aload_n 0, 1) := by decide +kernel
theorem d34_40 : decode (zB 34) 40 = .ok (.getfield 27, 3) := by decide +kernel
theorem d34_43 : decode (zB 34) 43 = .ok (.iload_n 2, 1) := by decide +kernel
theorem d34_44 : decode (zB 34) 44 = .ok (.aload_n 0, 1) := by decide +kernel
theorem d34_45 : decode (zB 34) 45 = .ok (.getfield 27, 3) := by decide +kernel
theorem d34_48 : decode (zB 34) 48 = .ok (.iload_n 2, 1) := by decide +kernel
theorem d34_49 : decode (zB 34) 49 = .ok (.iaload, 1) := by decide +kernel
theorem d34_50 : decode (zB 34) 50 = .ok (.aload_n 0, 1) := by decide +kernel
theorem d34_51 : decode (zB 34) 51 = .ok (.getfield 27, 3) := by decide +kernel
theorem d34_54 : decode (zB 34) 54 = .ok (.iload_n 3, 1) := by decide +kernel
theorem d34_55 : decode (zB 34) 55 = .ok (.iaload, 1) := by decide +kernel
theorem d34_56 : decode (zB 34) 56 = .ok (.iconst 1, 1) := by decide +kernel
theorem d34_57 : decode (zB 34) 57 = .ok (.iadd, 1) := by decide +kernel
theorem d34_58 : decode (zB 34) 58 = .ok (.invokestatic 45, 3) := by decide +kernel
theorem d34_61 : decode (zB 34) 61 = .ok (.iastore, 1) := by decide +kernel
theorem d34_62 : decode (zB 34) 62 = .ok (.iinc 3 1, 3) := by decide +kernel
theorem d34_65 : decode (zB 34) 65 = .ok (.goto (-44), 3) := by decide +kernel
theorem d34_68 : decode (zB 34) 68 = .ok (.iload_n 1, 1) := by decide +kernel
theorem d34_69 : decode (zB 34) 69 = .ok (.aload_n 0, 1) := by decide +kernel
theorem d34_70 : decode (zB 34) 70 = .ok (.getfield 27, 3) := by decide +kernel
theorem d34_73 : decode (zB 34) 73 = .ok (.iload_n 2, 1) := by decide +kernel
theorem d34_74 : decode (zB 34) 74 = .ok (.iaload, 1) := by decide +kernel
theorem d34_75 : decode (zB 34) 75 = .ok (.invokestatic 45, 3) := by decide +kernel
theorem d34_78 : decode (zB 34) 78 = .ok (.istore_n 1, 1) := by decide +kernel
theorem d34_79 : decode (zB 34) 79 = .ok (.iinc 2 1, 3) := by decide +kernel
theorem d34_82 : decode (zB 34) 82 = .ok (.goto (-78), 3) := by decide +kernel
theorem d34_85 : decode (zB 34) 85 = .ok (.iload_n 1, 1) := by decide +kernel
theorem d34_86 : decode (zB 34) 86 = .ok (.ireturn, 1) := by decide +kernel
theorem l34i {d : Nat} {Q : Option Value → zM → Prop} {a : Nat} {T : yT} {i lo : Nat} {M0 : zM} (hp : SPr M0 a) (hr : RP M0 a T) (ho : OKT T) (hi : i < tn T) (k : ∀ M', (∀ q, q ≤ i → zi M' (a + 6) q = nI (ycs T (i + 1) q)) → Fi (fun b _ => b = a + 6) M0 M' → qW (zEv (d + 1)) 34 Q 68 [(0, .ref a), (1, .int (nI lo)), (2, .int (nI i)), (3, .int (nI i))] [] M') : ∀ (r j : Nat) (M1 : zM), j ≤ i → i < j + r → (∀ q, q < i → zi M1 (a + 6) q = nI (ycs T i q)) → zi M1 (a + 6) i = nI (yc1 T (ycs T i) i j) → Fi (fun b _ => b = a + 6) M0 M1 → qW (zEv (d + 1)) 34 Q 21 [(0, .ref a), (1, .int (nI lo)), (2, .int (nI i)), (3, .int (nI j))] [] M1 := by
  intro r
  induction r with
  | zero => intros; omega
  | succ r ih =>
    intro j M1 h1 h2 hq hc hF
    have hn := ho.n
    refine q_iload_n d34_21 rfl ?_
    refine q_iload_n d34_22 rfl ?_
    refine nc_ge 68 d34_23 (by decide) (by omega) (by omega) (fun h23 => ?_) (fun h23 => ?_)
    · refine qW_srt rfl rfl ?_
      rw [show j = i by omega] at hc ⊢
      refine k _ (fun q hq1 => ?_) hF
      show _ = nI (yu (ycs T i) i (yc1 T (ycs T i) i i) q)
      by_cases e : q = i
      · subst e; rw [yu_s]; exact hc
      · rw [yu_n e]; exact hq q (by omega)
    · have ha1 : ta T i < 4096 := ho.a hi
      have hb1 := yc1_le (T := T) (i := i) (ycs_le T i) j
      have hb2 := ycs_le T i j
      refine q_aload_n d34_26 rfl ?_
      refine q_getr (c := 1) (f := 4) d34_27 ⟨rfl, rfl⟩ (SPr_fi hp hF).1 ((SPr_fi hp hF).2 4 (by decide)).1 ?_
      refine q_iload_n d34_30 rfl ?_
      refine n_iald d34_31 ((SPr_fi hp hF).2 4 (by decide)).2 (by omega) (by decide) ((RP_fr hr hF.fr (fun b q h1 h2 e => by omega)).2.2 _ (by omega)).2.2.2.2 ?_
      refine q_iload_n d34_32 rfl ?_
      refine q_s2 d34_33 (Or.inr rfl) rfl (Nat.le_of_ble_eq_true rfl) (c35 (by omega) (by omega) ?_)
      refine b0_eq 62 d34_36 (by decide) (fun h36 => ?_) (fun h36 => ?_)
      · refine n_iinc 1 d34_62 (by decide) rfl rfl ?_
        refine q_goto 21 d34_65 (by decide) ?_
        refine qW_srt rfl rfl ?_
        first
        | (refine ih (j + 1) _ (by omega) (by omega) (fun q hq1 => ?_) ?_ (hF.wi rfl)
           · rw [wi_n (Or.inr (by omega))]; exact hq q hq1
           · rw [wi_s, yc1, if_pos h36])
        | exact ih (j + 1) _ (by omega) (by omega) hq (by rw [hc, yc1, h36, if_neg (by decide)]) hF
      · refine q_aload_n d34_39 rfl ?_
        refine q_getr (c := 1) (f := 5) d34_40 ⟨rfl, rfl⟩ (SPr_fi hp hF).1 ((SPr_fi hp hF).2 5 (by decide)).1 ?_
        refine q_iload_n d34_43 rfl ?_
        refine q_aload_n d34_44 rfl ?_
        refine q_getr (c := 1) (f := 5) d34_45 ⟨rfl, rfl⟩ (SPr_fi hp hF).1 ((SPr_fi hp hF).2 5 (by decide)).1 ?_
        refine q_iload_n d34_48 rfl ?_
        refine n_iald d34_49 ((SPr_fi hp hF).2 5 (by decide)).2 (by omega) (by decide) hc ?_
        refine q_aload_n d34_50 rfl ?_
        refine q_getr (c := 1) (f := 5) d34_51 ⟨rfl, rfl⟩ (SPr_fi hp hF).1 ((SPr_fi hp hF).2 5 (by decide)).1 ?_
        refine q_iload_n d34_54 rfl ?_
        refine n_iald d34_55 ((SPr_fi hp hF).2 5 (by decide)).2 (by omega) (by decide) (hq _ (by omega)) ?_
        refine q_iconstN (z := 1) d34_56 ?_
        refine n_iadd d34_57 ?_
        refine q_max d34_58 rfl (Nat.le_of_ble_eq_true rfl) ?_
        rw [n_maxN (by omega) (by omega)]
        refine n_iast d34_61 ((SPr_fi hp hF).2 5 (by decide)).2 (by omega) (by decide) ?_
        refine n_iinc 1 d34_62 (by decide) rfl rfl ?_
        refine q_goto 21 d34_65 (by decide) ?_
        refine qW_srt rfl rfl ?_
        first
        | (refine ih (j + 1) _ (by omega) (by omega) (fun q hq1 => ?_) ?_ (hF.wi rfl)
           · rw [wi_n (Or.inr (by omega))]; exact hq q hq1
           · rw [wi_s, yc1, if_pos h36])
        | exact ih (j + 1) _ (by omega) (by omega) hq (by rw [hc, yc1, h36, if_neg (by decide)]) hF
theorem l34 {d : Nat} {Q : Option Value → zM → Prop} {a : Nat} {T : yT} {M0 : zM} (hp : SPr M0 a) (hr : RP M0 a T) (ho : OKT T) (k : ∀ M', Fi (fun b _ => b = a + 6) M0 M' → Q (some (.int (nI (ylo T (tn T))))) M') : ∀ (r i : Nat) (a3 : Value) (M1 : zM), i ≤ tn T → tn T < i + r → (∀ q, q < i → zi M1 (a + 6) q = nI (ycs T i q)) → Fi (fun b _ => b = a + 6) M0 M1 → qW (zEv (d + 1)) 34 Q 4 [(0, .ref a), (1, .int (nI (ylo T i))), (2, .int (nI i)), (3, a3)] [] M1 := by
  intro r
  induction r with
  | zero => intros; omega
  | succ r ih =>
    intro i a3 M1 h1 h2 hq hF
    have hn := ho.n
    refine q_iload_n d34_4 rfl ?_
    refine q_aload_n d34_5 rfl ?_
    refine q_getv (c := 1) (f := 6) d34_6 ⟨rfl, by decide⟩ (SPr_fi hp hF).1 (RP_fr hr hF.fr (fun b q h1 h2 e => by omega)).1 ?_
    refine nc_ge 85 d34_9 (by decide) (by omega) (by omega) (fun h9 => ?_) (fun h9 => ?_)
    · refine q_iload_n d34_85 rfl ?_
      refine q_iret d34_86 rfl ?_
      rw [show i = tn T by omega]; exact k _ hF
    · refine q_aload_n d34_12 rfl ?_
      refine q_getr (c := 1) (f := 5) d34_13 ⟨rfl, rfl⟩ (SPr_fi hp hF).1 ((SPr_fi hp hF).2 5 (by decide)).1 ?_
      refine q_iload_n d34_16 rfl ?_
      refine q_iconstN (z := 1) d34_17 ?_
      refine n_iast d34_18 ((SPr_fi hp hF).2 5 (by decide)).2 (by omega) (by decide) ?_
      refine q_iconstN (z := 0) d34_19 ?_
      refine q_istore_n d34_20 (by decide) rfl ?_
      refine qW_srt rfl rfl ?_
      exact l34i (lo := ylo T i) hp hr ho (by omega) (fun M2 hq2 hF2 => by
        have hn2 := ho.n
        have hb1 := yc1_le (T := T) (i := i) (ycs_le T i) i
        have hb3 := ylo_le T i
        have hc0 : zi M2 (a + 6) i = nI (yc1 T (ycs T i) i i) := (hq2 i (Nat.le_refl _)).trans (congrArg nI (yu_s _ _ _))
        refine q_iload_n d34_68 rfl ?_
        refine q_aload_n d34_69 rfl ?_
        refine q_getr (c := 1) (f := 5) d34_70 ⟨rfl, rfl⟩ (SPr_fi hp hF2).1 ((SPr_fi hp hF2).2 5 (by decide)).1 ?_
        refine q_iload_n d34_73 rfl ?_
        refine n_iald d34_74 ((SPr_fi hp hF2).2 5 (by decide)).2 (by omega) (by decide) hc0 ?_
        refine q_max d34_75 rfl (Nat.le_of_ble_eq_true rfl) ?_
        rw [n_maxN (by omega) (by omega)]
        refine q_istore_n d34_78 (by decide) rfl ?_
        refine n_iinc (x := i) 1 d34_79 (by decide) rfl rfl ?_
        refine q_goto 4 d34_82 (by decide) ?_
        refine qW_srt rfl rfl ?_
        exact ih (i + 1) _ _ (by omega) (by omega) (fun q hq1 => hq2 q (by omega)) hF2) (i + 1) 0 _ (by omega) (by omega) (fun q hq1 => (wi_n (Or.inr (by omega))).trans (hq q hq1)) (wi_s _ _ _ _) (hF.wi rfl)
theorem c34 {d : Nat} {M : zM} {Q : Option Value → zM → Prop} {a : Nat} {T : yT} (hp : SPr M a) (hr : RP M a T) (ho : OKT T) (k : ∀ M', Fi (fun b _ => b = a + 6) M M' → Q (some (.int (nI (ylo T (tn T))))) M') : qC (d + 2) 34 [.ref a] M Q := by
  have hn := ho.n
  have h1n := ho.1
  refine qC_of (by decide) (Nat.le_of_ble_eq_true rfl) ?_
  refine q_iconstN (z := 0) d34_0 ?_
  refine q_istore_n d34_1 (by decide) rfl ?_
  refine q_iconstN (z := 0) d34_2 ?_
  refine q_istore_n d34_3 (by decide) rfl ?_
  refine q_iload_n d34_4 rfl ?_
  refine q_aload_n d34_5 rfl ?_
  refine q_getv (c := 1) (f := 6) d34_6 ⟨rfl, by decide⟩ hp.1 hr.1 ?_
  refine nc_ge 85 d34_9 (by decide) (by omega) (by omega) (fun h9 => ?_) (fun h9 => ?_)
  · refine q_iload_n d34_85 rfl ?_
    refine q_iret d34_86 rfl ?_
    omega
  · refine q_aload_n d34_12 rfl ?_
    refine q_getr (c := 1) (f := 5) d34_13 ⟨rfl, rfl⟩ hp.1 (hp.2 5 (by decide)).1 ?_
    refine q_iload_n d34_16 rfl ?_
    refine q_iconstN (z := 1) d34_17 ?_
    refine n_iast d34_18 (hp.2 5 (by decide)).2 (by omega) (by decide) ?_
    refine q_iconstN (z := 0) d34_19 ?_
    refine q_istore_n d34_20 (by decide) rfl ?_
    refine qW_srt rfl rfl ?_
    exact l34i (lo := 0) hp hr ho (by omega) (fun M2 hq2 hF2 => by
      have hn2 := ho.n
      have hb1 := yc1_le (T := T) (i := 0) (ycs_le T 0) 0
      have hb3 := ylo_le T 0
      have hc0 : zi M2 (a + 6) 0 = nI (yc1 T (ycs T 0) 0 0) := (hq2 0 (Nat.le_refl _)).trans (congrArg nI (yu_s _ _ _))
      refine q_iload_n d34_68 rfl ?_
      refine q_aload_n d34_69 rfl ?_
      refine q_getr (c := 1) (f := 5) d34_70 ⟨rfl, rfl⟩ (SPr_fi hp hF2).1 ((SPr_fi hp hF2).2 5 (by decide)).1 ?_
      refine q_iload_n d34_73 rfl ?_
      refine n_iald d34_74 ((SPr_fi hp hF2).2 5 (by decide)).2 (by omega) (by decide) hc0 ?_
      refine q_max d34_75 rfl (Nat.le_of_ble_eq_true rfl) ?_
      rw [n_maxN (by omega) (by omega)]
      refine q_istore_n d34_78 (by decide) rfl ?_
      refine n_iinc (x := 0) 1 d34_79 (by decide) rfl rfl ?_
      refine q_goto 4 d34_82 (by decide) ?_
      refine qW_srt rfl rfl ?_
      exact l34 hp hr ho k (tn T + 1) 1 _ _ (by omega) (by omega) (fun q hq1 => hq2 q (by omega)) hF2) (0 + 1) 0 _ (by omega) (by omega) (fun q hq1 => absurd hq1 (by omega)) (wi_s _ _ _ _) ((Fi.refl _ _).wi rfl)
end
section
/-! ===== contracts: RISKY sets ===== -/
/-- how many RISKY sets there are with just these of the steps below s, r steps from there -/
def yrk (T : yT) : Nat → Nat → Nat → (Nat → Int32) → Nat
  | 0, _, set, b => if ybl T (b, 0, 0) (ynx T set) then 1 else 0
  | r + 1, s, set, b =>
    if zdf (ta T s) set = 0 ∧ yob T (b, 0, 0) s (tu T s) 1 = 0 then yrk T r (s + 1) set b + yrk T r (s + 1) (set ||| 2 ^ s) (ych T (b, 0, 0) s (tu T s) 1).1
    else yrk T r (s + 1) set b
theorem ypu_1 {P P' : yP} {x m : Int32} (h : P.1 = P'.1) : (ypu P x m).1 = (ypu P' x m).1 := by
  unfold ypu; cases zix x 6 <;> simp only [h]
theorem yex_1 {P P' : yP} {x z : Int32} (h : P.1 = P'.1) : (yex P x z).1 = (yex P' x z).1 := by
  unfold yex; cases zix x 6 <;> cases zix z 6 <;> simp only [h]
theorem ych_1 {T : yT} {P P' : yP} {i : Nat} {n w : Int32} (h : P.1 = P'.1) : (ych T P i n w).1 = (ych T P' i n w).1 := by
  have h2 : (ypu (ypu P (tf T i) (w * yf1 (tk T i) n)) (ts T i) (w * yf2 (tk T i) n)).1 = (ypu (ypu P' (tf T i) (w * yf1 (tk T i) n)) (ts T i) (w * yf2 (tk T i) n)).1 := ypu_1 (ypu_1 h)
  unfold ych
  simp only []
  split
  · exact h2
  · split
    · exact yex_1 h2
    · split
      · exact h2
      · exact h2
theorem yob_1 {T : yT} {P P' : yP} {i : Nat} {n w : Int32} (h : P.1 = P'.1) : yob T P i n w = yob T P' i n w := by
  unfold yob ybe; rw [h]
theorem i_c0 (b z : Int32) : b + 1 * z + -1 * z = b := by rw [Int32.one_mul, m1_mul, Int32.add_assoc, Int32.add_right_neg, Int32.add_zero]
theorem i_c2 (b n : Int32) : b + 1 * -n + 1 * n + -1 * -n + -1 * n = b := by rw [Int32_c1, Int32_c1]
theorem ych_inv {T : yT} {P : yP} {i : Nat} {n : Int32} (hT : OKT T) (hi : i < tn T) : (ych T (ych T P i n 1) i n (-1)).1 = P.1 := by
  obtain ⟨k6, -, a5, an5, s24, sn, -, -⟩ := hT.2.2.2 i hi
  by_cases k5 : tk T i = 5
  · have e1 : (ych T P i n 1).1 = P.1 := by
      unfold ych
      rw [if_neg (by omega), if_neg (by omega), a5 k5, sn (by omega) (by omega), ypu_n, ypu_n]
      split <;> rfl
    rw [ych_1 e1]
    unfold ych
    rw [if_neg (by omega), if_neg (by omega), a5 k5, sn (by omega) (by omega), ypu_n, ypu_n]
    split <;> rfl
  · obtain ⟨a, ha, ea⟩ := an5 k5
    by_cases k24 : tk T i = 2 ∨ tk T i = 4
    · obtain ⟨b, hb, eb⟩ := s24 k24
      rcases k24 with k | k
      · have f1 : ∀ (P : yP) (w : Int32), (ych T P i n w).1 = yu (yu P.1 a (P.1 a + w * -n)) b (yu P.1 a (P.1 a + w * -n) b + w * n) := fun P w => by
          unfold ych
          rw [if_neg (by omega), if_neg (by omega), if_neg (by omega), ea, eb, ypu_a ha, ypu_a hb, k]; rfl
        rw [f1, f1]
        funext q
        by_cases e : b = a
        · subst e
          by_cases q1 : q = b
          · subst q1; simp only [yu_s]; exact i_c2 _ _
          · simp only [yu_n q1]
        · by_cases q1 : q = b
          · subst q1; simp only [yu_s, yu_n e, yu_n (fun h => e h.symm)]; exact i_c0 _ _
          · by_cases q2 : q = a
            · subst q2; simp only [yu_s, yu_n q1, yu_n (fun h => q1 h.symm)]; exact i_c0 _ _
            · simp only [yu_n q1, yu_n q2]
      · have f1 : ∀ (P : yP) (w : Int32), (ych T P i n w).1 = yu (yu P.1 a (P.1 b)) b (P.1 a) := fun P w => by
          have g : ∀ (P : yP) (c : Nat), c < 6 → ypu P (nI c) (w * 0) = P := fun P c hc => by
            rw [ypu_a hc, Int32.mul_zero, Int32.add_zero]
            have : yu P.1 c (P.1 c) = P.1 := by
              funext q; by_cases h : q = c
              · subst h; rw [yu_s]
              · rw [yu_n h]
            rw [this]
          unfold ych
          rw [if_neg (by omega), if_pos k, ea, eb, k]
          show (yex (ypu (ypu P (nI a) (w * 0)) (nI b) (w * 0)) (nI a) (nI b)).1 = _
          rw [g P a ha, g P b hb]
          unfold yex
          rw [zix_in ha (by omega), zix_in hb (by omega)]
        rw [f1, f1]
        funext q
        by_cases e : b = a
        · subst e
          by_cases q1 : q = b
          · subst q1; simp only [yu_s]
          · simp only [yu_n q1]
        · by_cases q1 : q = b
          · subst q1; simp only [yu_s, yu_n e, yu_n (fun h => e h.symm)]
          · by_cases q2 : q = a
            · subst q2; simp only [yu_s, yu_n q1, yu_n (fun h => q1 h.symm)]
            · simp only [yu_n q1, yu_n q2]
    · have f1 : ∀ (P : yP) (w : Int32), (ych T P i n w).1 = yu P.1 a (P.1 a + w * yf1 (tk T i) n) := fun P w => by
        unfold ych
        rw [sn (by omega) (by omega), ypu_n, ea, ypu_a ha]
        split
        · rfl
        · rw [if_neg (by omega)]; split <;> rfl
      rw [f1, f1]
      funext q
      by_cases q1 : q = a
      · subst q1; simp only [yu_s]; exact i_c0 _ _
      · simp only [yu_n q1]
theorem d43_0 : decode (zB 43) 0 = .ok (.iload_n 2, 1) := by decide +kernel
theorem d43_1 : decode (zB 43) 1 = .ok (.aload_n 0, 1) := by decide +kernel
theorem d43_2 : decode (zB 43) 2 = .ok (.getfield 80, 3) := by decide +kernel
theorem d43_5 : decode (zB 43) 5 = .ok (.if_icmp .lt 22, 3) := by decide +kernel
theorem d43_8 : decode (zB 43) 8 = .ok (.aload_n 1, 1) := by decide +kernel
theorem d43_9 : decode (zB 43) 9 = .ok (.aload_n 0, 1) := by decide +kernel
theorem d43_10 : decode (zB 43) 10 = .ok (.aload_n 0, 1) := by decide +kernel
theorem d43_11 : decode (zB 43) 11 = .ok (.iload_n 3, 1) := by decide +kernel
theorem d43_12 : decode (zB 43) 12 = .ok (.invokevirtual 306, 3) := by decide +kernel
theorem d43_15 : decode (zB 43) 15 = .ok (.invokevirtual 309, 3) := by decide +kernel
theorem d43_18 : decode (zB 43) 18 = .ok (.ifCond .eq 7, 3) := by decide +kernel
theorem d43_21 : decode (zB 43) 21 = .ok (.iconst 1, 1) := by decide +kernel
theorem d43_22 : decode (zB 43) 22 = .ok (.goto 4, 3) := by decide +kernel
theorem d43_25 : decode (zB 43) 25 = .ok (.iconst 0, 1) := by decide +kernel
theorem d43_26 : decode (zB 43) 26 = .ok (.ireturn, 1) := by decide +kernel
theorem d43_27 : decode (zB 43) 27 = .ok (.aload_n 0, 1) := by decide +kernel
theorem d43_28 : decode (zB 43) 28 = .ok (.aload_n 1, 1) := by decide +kernel
theorem d43_29 : decode (zB 43) 29 = .ok (.iload_n 2, 1) := by decide +kernel
theorem d43_30 : decode (zB 43) 30 = .ok (.iconst 1, 1) := by decide +kernel
theorem d43_31 : decode (zB 43) 31 = .ok (.iadd, 1) := by decide +kernel
theorem d43_32 : decode (zB 43) 32 = .ok (.iload_n 3, 1) := by decide +kernel
theorem d43_33 : decode (zB 43) 33 = .ok (.invokestatic 104, 3) := by decide +kernel
theorem d43_36 : decode (zB 43) 36 = .ok (.istore 4, 2) := by decide +kernel
theorem d43_38 : decode (zB 43) 38 = .ok (.aload_n 0, 1) := by decide +kernel
theorem d43_39 : decode (zB 43) 39 = .ok (.getfield 127, 3) := by decide +kernel
theorem d43_42 : decode (zB 43) 42 = .ok (.iload_n 2, 1) := by decide +kernel
theorem d43_43 : decode (zB 43) 43 = .ok (.iaload, 1) := by decide +kernel
theorem d43_44 : decode (zB 43) 44 = .ok (.istore 5, 2) := by decide +kernel
theorem d43_46 : decode (zB 43) 46 = .ok (.aload_n 0, 1) := by decide +kernel
theorem d43_47 : decode (zB 43) 47 = .ok (.getfield 130, 3) := by decide +kernel
theorem d43_50 : decode (zB 43) 50 = .ok (.iload_n 2, 1) := by decide +kernel
theorem d43_51 : decode (zB 43) 51 = .ok (.iaload, 1) := by decide +kernel
theorem d43_52 : decode (zB 43) 52 = .ok (.iload_n 3, 1) := by decide +kernel
theorem d43_53 : decode (zB 43) 53 = .ok (.iconst (-1), 1) := by decide +kernel
theorem d43_54 : decode (zB 43) 54 = .ok (.ixor, 1) := by decide +kernel
theorem d43_55 : decode (zB 43) 55 = .ok (.iand, 1) := by decide +kernel
theorem d43_56 : decode (zB 43) 56 = .ok (.ifCond .ne 7, 3) := by decide +kernel
theorem d43_59 : decode (zB 43) 59 = .ok (.iconst 1, 1) := by decide +kernel
theorem d43_60 : decode (zB 43) 60 = .ok (.goto 4, 3) := by decide +kernel
theorem d43_63 : decode (zB 43) 63 = .ok (.iconst 0, 1) := by decide +kernel
theorem d43_64 : decode (zB 43) 64 = .ok (.istore 6, 2) := by decide +kernel
theorem d43_66 : decode (zB 43) 66 = .ok (.iload 6, 2) := by decide +kernel
theorem d43_68 : decode (zB 43) 68 = .ok (.ifCond .eq 51, 3) := by decide +kernel
theorem d43_71 : decode (zB 43) 71 = .ok (.aload_n 1, 1) := by decide +kernel
theorem d43_72 : decode (zB 43) 72 = .ok (.aload_n 0, 1) := by decide +kernel
theorem d43_73 : decode (zB 43) 73 = .ok (.iload_n 2, 1) := by decide +kernel
theorem d43_74 : decode (zB 43) 74 = .ok (.iload 5, 2) := by decide +kernel
theorem d43_76 : decode (zB 43) 76 = .ok (.iconst 1, 1) := by decide +kernel
theorem d43_77 : decode (zB 43) 77 = .ok (.invokevirtual 313, 3) := by decide +kernel
theorem d43_80 : decode (zB 43) 80 = .ok (.ifCond .ne 39, 3) := by decide +kernel
theorem d43_83 : decode (zB 43) 83 = .ok (.aload_n 1, 1) := by decide +kernel
theorem d43_84 : decode (zB 43) 84 = .ok (.aload_n 0, 1) := by decide +kernel
theorem d43_85 : decode (zB 43) 85 = .ok (.iload_n 2, 1) := by decide +kernel
theorem d43_86 : decode (zB 43) 86 = .ok (.iload 5, 2) := by decide +kernel
theorem d43_88 : decode (zB 43) 88 = .ok (.iconst 1, 1) := by decide +kernel
theorem d43_89 : decode (zB 43) 89 = .ok (.invokevirtual 317, 3) := by decide +kernel
theorem d43_92 : decode (zB 43) 92 = .ok (.iload 4, 2) := by decide +kernel
theorem d43_94 : decode (zB 43) 94 = .ok (.aload_n 0, 1) := by decide +kernel
theorem d43_95 : decode (zB 43) 95 = .ok (.aload_n 1, 1) := by decide +kernel
theorem d43_96 : decode (zB 43) 96 = .ok (.iload_n 2, 1) := by decide +kernel
theorem d43_97 : decode (zB 43) 97 = .ok (.iconst 1, 1) := by decide +kernel
theorem d43_98 : decode (zB 43) 98 = .ok (.iadd, 1) := by decide +kernel
theorem d43_99 : decode (zB 43) 99 = .ok (.iload_n 3, 1) := by decide +kernel
theorem d43_100 : decode (zB 43) 100 = .ok (.iconst 1, 1) := by decide +kernel
theorem d43_101 : decode (zB 43) 101 = .ok (.iload_n 2, 1) := by decide +kernel
theorem d43_102 : decode (zB 43) 102 = .ok (.ishl, 1) := by decide +kernel
theorem d43_103 : decode (zB 43) 103 = .ok (.ior, 1) := by decide +kernel
theorem d43_104 : decode (zB 43) 104 = .ok (.invokestatic 104, 3) := by decide +kernel
theorem d43_107 : decode (zB 43) 107 = .ok (.iadd, 1) := by decide +kernel
theorem d43_108 : decode (zB 43) 108 = .ok (.istore 4, 2) := by decide +kernel
theorem d43_110 : decode (zB 43) 110 = .ok (.aload_n 1, 1) := by decide +kernel
theorem d43_111 : decode (zB 43) 111 = .ok (.aload_n 0, 1) := by decide +kernel
theorem d43_112 : decode (zB 43) 112 = .ok (.iload_n 2, 1) := by decide +kernel
theorem d43_113 : decode (zB 43) 113 = .ok (.iload 5, 2) := by decide +kernel
theorem d43_115 : decode (zB 43) 115 = .ok (.iconst (-1), 1) := by decide +kernel
theorem d43_116 : decode (zB 43) 116 = .ok (.invokevirtual 317, 3) := by decide +kernel
theorem d43_119 : decode (zB 43) 119 = .ok (.iload 4, 2) := by decide +kernel
theorem d43_121 : decode (zB 43) 121 = .ok (.ireturn, 1) := by decide +kernel
theorem c43 {d u a : Nat} {T : yT} (ho : OKT T) (hau : a + 7 ≤ u) : ∀ (r s set : Nat) (P : yP) (M : zM) {Q : Option Value → zM → Prop}, s + r = tn T → set < 4096 → SPu M u → RPu M u P → SPr M a → RP M a T → (∀ M' P', P'.1 = P.1 → RPu M' u P' → Fi (FU u) M M' → Q (some (.int (nI (yrk T r s set P.1)))) M') → qC (d + r + 4) 43 [.ref a, .ref u, .int (nI s), .int (nI set)] M Q := by
  have hn := ho.n
  intro r
  induction r with
  | zero =>
    intro s set P M Q hs hset hu hP hp hr k
    refine qC_of (by decide) (Nat.le_of_ble_eq_true rfl) ?_
    refine q_iload_n d43_0 rfl ?_
    refine q_aload_n d43_1 rfl ?_
    refine q_getv (c := 1) (f := 6) d43_2 ⟨rfl, by decide⟩ hp.1 hr.1 ?_
    refine nc_lt 27 d43_5 (by decide) (by omega) (by omega) (fun h5 => (False.elim (by omega))) (fun h5 => ?_)
    refine q_aload_n d43_8 rfl ?_
    refine q_aload_n d43_9 rfl ?_
    refine q_aload_n d43_10 rfl ?_
    refine q_iload_n d43_11 rfl ?_
    refine q_v1 d43_12 rfl rfl hp.1 (Nat.le_of_ble_eq_true rfl) (c44 hp hr ho hset ?_)
    refine q_v2 d43_15 rfl rfl hu.1 (Nat.le_of_ble_eq_true rfl) (c45 hu hP hp hr ho (ymk_lt12 _ hn) ?_)
    refine b0_eq 25 d43_18 (by decide) (fun h18 => ?_) (fun h18 => ?_)
    · refine q_iconstN (z := 0) d43_25 ?_
      refine q_iret d43_26 rfl ?_
      first
      | exact nK (k _ P rfl hP (Fi.refl _ _)) (by rw [yrk, if_pos (show ybl T (P.1, 0, 0) (ynx T set) = true from h18)])
      | exact nK (k _ P rfl hP (Fi.refl _ _)) (by rw [yrk, if_neg (show ¬ ybl T (P.1, 0, 0) (ynx T set) = true by rw [show ybl T (P.1, 0, 0) (ynx T set) = false from h18]; decide)])
    · refine q_iconstN (z := 1) d43_21 ?_
      refine q_goto 26 d43_22 (by decide) ?_
      refine q_iret d43_26 rfl ?_
      first
      | exact nK (k _ P rfl hP (Fi.refl _ _)) (by rw [yrk, if_pos (show ybl T (P.1, 0, 0) (ynx T set) = true from h18)])
      | exact nK (k _ P rfl hP (Fi.refl _ _)) (by rw [yrk, if_neg (show ¬ ybl T (P.1, 0, 0) (ynx T set) = true by rw [show ybl T (P.1, 0, 0) (ynx T set) = false from h18]; decide)])
  | succ r ih =>
    intro s set P M Q hs hset hu hP hp hr k
    have hi : s < tn T := by omega
    refine qC_of (d := d + r + 4) (by decide) (Nat.le_of_ble_eq_true rfl) ?_
    refine q_iload_n d43_0 rfl ?_
    refine q_aload_n d43_1 rfl ?_
    refine q_getv (c := 1) (f := 6) d43_2 ⟨rfl, by decide⟩ hp.1 hr.1 ?_
    refine nc_lt 27 d43_5 (by decide) (by omega) (by omega) (fun h5 => ?_) (fun h5 => (False.elim (by omega)))
    refine q_aload_n d43_27 rfl ?_
    refine q_aload_n d43_28 rfl ?_
    refine q_iload_n d43_29 rfl ?_
    refine q_iconstN (z := 1) d43_30 ?_
    refine n_iadd d43_31 ?_
    refine q_iload_n d43_32 rfl ?_
    refine q_s4 d43_33 (Or.inl rfl) rfl (Nat.le_of_ble_eq_true rfl) (ih (s + 1) set P _ (by omega) hset hu hP hp hr (fun M1 P1 e1 hP1 f1 => ?_))
    have hu1 := SPu_fi hu f1
    have hp1 := SPr_fi hp f1
    have hr1 := RP_fr hr f1.fr (FU_x hau)
    refine q_istore d43_36 (by decide) rfl ?_
    refine q_aload_n d43_38 rfl ?_
    refine q_getr (c := 1) (f := 3) d43_39 ⟨rfl, rfl⟩ hp1.1 (hp1.2 3 (by decide)).1 ?_
    refine q_iload_n d43_42 rfl ?_
    refine n_iald d43_43 (hp1.2 3 (by decide)).2 (by omega) (by decide) (hr1.2.2 _ (by omega)).2.2.2.1 ?_
    refine q_istore d43_44 (by decide) rfl ?_
    have hza := zdf_12 (b := set) (ho.a hi)
    refine q_aload_n d43_46 rfl ?_
    refine q_getr (c := 1) (f := 4) d43_47 ⟨rfl, rfl⟩ hp1.1 (hp1.2 4 (by decide)).1 ?_
    refine q_iload_n d43_50 rfl ?_
    refine n_iald d43_51 (hp1.2 4 (by decide)).2 (by omega) (by decide) (hr1.2.2 _ (by omega)).2.2.2.2 ?_
    refine q_iload_n d43_52 rfl ?_
    refine q_iconst (x := (-1)) d43_53 rfl ?_
    refine q_ixor d43_54 ?_
    refine n_iandn d43_55 ?_
    refine n0_ne 63 d43_56 (by decide) (by omega) (fun h56 => ?_) (fun h56 => ?_)
    · refine q_iconstN (z := 0) d43_63 ?_
      refine q_istore d43_64 (by decide) rfl ?_
      refine q_iload d43_66 rfl ?_
      refine n0_eq 119 d43_68 (by decide) (by decide) (fun _ => ?_) (fun q => absurd q (by decide))
      refine q_iload d43_119 rfl ?_
      refine q_iret d43_121 rfl ?_
      first
      | (refine nK (k _ _ ?_ hP4 (((f1.trans f2).trans f3).trans f4)) ?_
         · exact ((ych_1 e3).trans (ych_inv ho hi)).trans e1
         · rw [yrk, if_pos ⟨h56, (yob_1 (P := (P.1, 0, 0)) (P' := P1) e1.symm).trans h80⟩, ych_1 (P := P1) (P' := (P.1, 0, 0)) e1])
      | exact nK (k _ P1 e1 hP1 f1) (by rw [yrk, if_neg (fun q => h80 ((yob_1 (P := P1) (P' := (P.1, 0, 0)) e1).trans q.2))])
      | exact nK (k _ P1 e1 hP1 f1) (by rw [yrk, if_neg (fun q => h56 q.1)])
    · refine q_iconstN (z := 1) d43_59 ?_
      refine q_goto 64 d43_60 (by decide) ?_
      refine q_istore d43_64 (by decide) rfl ?_
      refine q_iload d43_66 rfl ?_
      refine n0_eq 119 d43_68 (by decide) (by decide) (fun q => absurd q (by decide)) (fun _ => ?_)
      refine q_aload_n d43_71 rfl ?_
      refine q_aload_n d43_72 rfl ?_
      refine q_iload_n d43_73 rfl ?_
      refine q_iload d43_74 rfl ?_
      refine q_iconstN (z := 1) d43_76 ?_
      refine q_v4 d43_77 rfl rfl hu1.1 (Nat.le_of_ble_eq_true rfl) (c46 (w := 1) hu1 hP1 hp1 hr1 ho hi ?_)
      refine i0_ne 119 d43_80 (by decide) (fun h80 => ?_) (fun h80 => ?_)
      · refine q_iload d43_119 rfl ?_
        refine q_iret d43_121 rfl ?_
        first
        | (refine nK (k _ _ ?_ hP4 (((f1.trans f2).trans f3).trans f4)) ?_
           · exact ((ych_1 e3).trans (ych_inv ho hi)).trans e1
           · rw [yrk, if_pos ⟨h56, (yob_1 (P := (P.1, 0, 0)) (P' := P1) e1.symm).trans h80⟩, ych_1 (P := P1) (P' := (P.1, 0, 0)) e1])
        | exact nK (k _ P1 e1 hP1 f1) (by rw [yrk, if_neg (fun q => h80 ((yob_1 (P := P1) (P' := (P.1, 0, 0)) e1).trans q.2))])
        | exact nK (k _ P1 e1 hP1 f1) (by rw [yrk, if_neg (fun q => h56 q.1)])
      · refine q_aload_n d43_83 rfl ?_
        refine q_aload_n d43_84 rfl ?_
        refine q_iload_n d43_85 rfl ?_
        refine q_iload d43_86 rfl ?_
        refine q_iconstN (z := 1) d43_88 ?_
        refine q_v4 d43_89 rfl rfl hu1.1 (Nat.le_of_ble_eq_true rfl) (c51 (w := 1) hu1 hP1 hp1 hr1 ho hi hau (fun M2 hP2 f2 => ?_))
        have hu2 := SPu_fi hu1 f2
        have hp2 := SPr_fi hp1 f2
        have hr2 := RP_fr hr1 f2.fr (FU_x hau)
        refine q_iload d43_92 rfl ?_
        refine q_aload_n d43_94 rfl ?_
        refine q_aload_n d43_95 rfl ?_
        refine q_iload_n d43_96 rfl ?_
        refine q_iconstN (z := 1) d43_97 ?_
        refine n_iadd d43_98 ?_
        refine q_iload_n d43_99 rfl ?_
        refine q_iconstN (z := 1) d43_100 ?_
        refine q_iload_n d43_101 rfl ?_
        refine n_ishl1 d43_102 (by omega) ?_
        refine n_ior d43_103 ?_
        refine q_s4 d43_104 (Or.inl rfl) rfl (Nat.le_of_ble_eq_true rfl) (ih (s + 1) (set ||| 2 ^ s) _ _ (by omega) (or_lt (n := 12) hset (pow_lt (by omega))) hu2 hP2 hp2 hr2 (fun M3 P3 e3 hP3 f3 => ?_))
        have hu3 := SPu_fi hu2 f3
        have hp3 := SPr_fi hp2 f3
        have hr3 := RP_fr hr2 f3.fr (FU_x hau)
        refine n_iadd d43_107 ?_
        refine q_istore d43_108 (by decide) rfl ?_
        refine q_aload_n d43_110 rfl ?_
        refine q_aload_n d43_111 rfl ?_
        refine q_iload_n d43_112 rfl ?_
        refine q_iload d43_113 rfl ?_
        refine q_iconst (x := (-1)) d43_115 rfl ?_
        refine q_v4 d43_116 rfl rfl hu3.1 (Nat.le_of_ble_eq_true rfl) (c51 hu3 hP3 hp3 hr3 ho hi hau (fun M4 hP4 f4 => ?_))
        refine q_iload d43_119 rfl ?_
        refine q_iret d43_121 rfl ?_
        first
        | (refine nK (k _ _ ?_ hP4 (((f1.trans f2).trans f3).trans f4)) ?_
           · exact ((ych_1 e3).trans (ych_inv ho hi)).trans e1
           · rw [yrk, if_pos ⟨h56, (yob_1 (P := (P.1, 0, 0)) (P' := P1) e1.symm).trans h80⟩, ych_1 (P := P1) (P' := (P.1, 0, 0)) e1])
        | exact nK (k _ P1 e1 hP1 f1) (by rw [yrk, if_neg (fun q => h80 ((yob_1 (P := P1) (P' := (P.1, 0, 0)) e1).trans q.2))])
        | exact nK (k _ P1 e1 hP1 f1) (by rw [yrk, if_neg (fun q => h56 q.1)])
end
section
/-! ===== contracts: ORDERS ===== -/
/-- ORDERS: sums of ways -/
def ysm (f : Nat → Int64) : Nat → Int64
  | 0 => 0
  | n + 1 => ysm f n + f n
theorem ysm_ext {f g : Nat → Int64} : ∀ {n : Nat}, (∀ i, i < n → f i = g i) → ysm f n = ysm g n
  | 0, _ => rfl
  | n + 1, h => by rw [ysm, ysm, ysm_ext (fun i hi => h i (by omega)), h n (by omega)]
theorem ysm_add {f g : Nat → Int64} {v : Int64} {j : Nat} : ∀ {n : Nat}, j < n → g j = f j + v → (∀ i, i < n → i ≠ j → g i = f i) → ysm g n = ysm f n + v
  | 0, h, _, _ => absurd h (Nat.not_lt_zero _)
  | n + 1, h, hj, ho => by
    rw [ysm, ysm]
    by_cases e : j = n
    · subst e
      rw [ysm_ext (fun i hi => ho i (by omega) (by omega)), hj, Int64.add_assoc]
    · rw [ysm_add (v := v) (by omega) hj (fun i hi he => ho i (by omega) he), ho n (by omega) (by omega), Int64.add_assoc, Int64.add_comm v, ← Int64.add_assoc]
theorem ysm_0 {f : Nat → Int64} : ∀ {n : Nat}, (∀ i, i < n → f i = 0) → ysm f n = 0
  | 0, _ => rfl
  | n + 1, h => by rw [ysm, ysm_0 (fun i hi => h i (by omega)), h n (by omega)]; rfl
def ytm (T : yT) (t i : Nat) : Bool := t.testBit i && zdf (ta T i) (zdf t (2 ^ i)) == 0
def yov (T : yT) (c : Nat → Int64) (t : Nat) : Int64 := if t = 0 then 1 else ysm (fun i => if ytm T t i then c (zdf t (2 ^ i)) else 0) (tn T)
def ygs (T : yT) : Nat → Nat → Int64
  | 0 => fun _ => 0
  | t + 1 => yu (ygs T t) t (yov T (ygs T t) t)
/-- in how many ways a set comes -/
def yg (T : yT) (t : Nat) : Int64 := yov T (ygs T t) t
theorem ygs_v {T : yT} : ∀ {S x : Nat}, x < S → ygs T S x = yg T x
  | 0, _, h => absurd h (Nat.not_lt_zero _)
  | S + 1, x, h => by
    show yu (ygs T S) S (yov T (ygs T S) S) x = _
    by_cases e : x = S
    · subst e; rw [yu_s]; rfl
    · rw [yu_n e]; exact ygs_v (by omega)
theorem bit_lt {t i : Nat} (h : t.testBit i = true) : zdf t (2 ^ i) < t := by
  have h1 : zdf t (2 ^ i) ≠ t := fun e => by
    have := bit_df t i i
    rw [e, h] at this; simp at this
  have h2 : zdf t (2 ^ i) ≤ t := by
    have : zdf t (2 ^ i) = t &&& zdf t (2 ^ i) := by
      apply Nat.eq_of_testBit_eq
      intro k
      rw [Nat.testBit_and, bit_df]; cases t.testBit k <;> rfl
    rw [this]; exact Nat.and_le_left
  omega
theorem ytm_b {T : yT} {t i : Nat} (h : ytm T t i = true) : t.testBit i = true := by unfold ytm at h; simp only [Bool.and_eq_true] at h; exact h.1
theorem yg_eq (T : yT) (t : Nat) : yg T t = if t = 0 then 1 else ysm (fun i => if ytm T t i then yg T (zdf t (2 ^ i)) else 0) (tn T) := by
  unfold yg yov
  split
  · rfl
  · refine ysm_ext (fun i hi => ?_)
    by_cases h : ytm T t i = true
    · rw [if_pos h, if_pos h]; exact ygs_v (bit_lt (ytm_b h))
    · rw [if_neg h, if_neg h]
/-- what is told when the sets below S are through, of S the steps below j -/
def ypw (T : yT) (S j t : Nat) : Int64 := if t = 0 then 1 else ysm (fun i => if ytm T t i && (decide (zdf t (2 ^ i) < S) || (zdf t (2 ^ i) == S && decide (i < j))) then yg T (zdf t (2 ^ i)) else 0) (tn T)
theorem ypw_v {T : yT} {S j t : Nat} (h : t ≤ S) : ypw T S j t = yg T t := by
  rw [yg_eq]
  unfold ypw
  split
  · rfl
  · refine ysm_ext (fun i hi => ?_)
    by_cases e : ytm T t i = true
    · have := bit_lt (ytm_b e)
      rw [if_pos e, if_pos (by rw [e, decide_eq_true (show zdf t (2 ^ i) < S by omega)]; rfl)]
    · rw [if_neg e, if_neg (by simp [e])]
theorem ypw_n {T : yT} {S t : Nat} : ypw T S (tn T) t = ypw T (S + 1) 0 t := by
  unfold ypw
  split
  · rfl
  · refine ysm_ext (fun i hi => ?_)
    have : (decide (zdf t (2 ^ i) < S) || (zdf t (2 ^ i) == S && decide (i < tn T))) = (decide (zdf t (2 ^ i) < S + 1) || (zdf t (2 ^ i) == S + 1 && decide (i < 0))) := by
      rw [decide_eq_true hi, Bool.and_true, decide_eq_false (Nat.not_lt_zero i), Bool.and_false, Bool.or_false]
      rcases Nat.lt_trichotomy (zdf t (2 ^ i)) S with q | q | q
      · rw [decide_eq_true q, decide_eq_true (by omega)]; rfl
      · rw [q]; simp
      · rw [decide_eq_false (by omega), decide_eq_false (by omega), beq_false_of_ne (by omega)]; rfl
    rw [this]
theorem ypw_0 {T : yT} {t : Nat} : ypw T 0 0 t = if t = 0 then 1 else 0 := by
  unfold ypw
  split
  · rfl
  · refine ysm_0 (fun i hi => ?_)
    rw [if_neg]
    rw [decide_eq_false (Nat.not_lt_zero _), decide_eq_false (Nat.not_lt_zero _), Bool.and_false, Bool.or_false, Bool.and_false]; decide
theorem or_df {S j : Nat} (h : S.testBit j = false) : zdf (S ||| 2 ^ j) (2 ^ j) = S := by
  apply Nat.eq_of_testBit_eq
  intro k
  rw [bit_df, bit_or]
  by_cases e : k = j
  · subst e; rw [h]; simp
  · simp [e]
theorem df_or {t j : Nat} (h : t.testBit j = true) : zdf t (2 ^ j) ||| 2 ^ j = t := by
  apply Nat.eq_of_testBit_eq
  intro k
  rw [bit_or, bit_df]
  by_cases e : k = j
  · subst e; rw [h]; simp
  · simp [e]
theorem ynx_b {T : yT} {S j : Nat} : (ynx T S).testBit j = (decide (j < tn T) && (!S.testBit j && zdf (ta T j) S == 0)) := ymk_bit _ _ _
theorem ypw_t {T : yT} {S j : Nat} (hj : j < tn T) (h : (ynx T S).testBit j = true) : ypw T S (j + 1) (S ||| 2 ^ j) = ypw T S j (S ||| 2 ^ j) + yg T S := by
  rw [ynx_b, decide_eq_true hj, Bool.true_and, Bool.and_eq_true, Bool.not_eq_true'] at h
  have hd := or_df h.1
  have hb : (S ||| 2 ^ j).testBit j = true := by rw [bit_or]; simp
  have h0 : S ||| 2 ^ j ≠ 0 := fun e => by rw [e, Nat.zero_testBit] at hb; cases hb
  have hm : ytm T (S ||| 2 ^ j) j = true := by unfold ytm; rw [hd, hb, h.2]; rfl
  unfold ypw
  rw [if_neg h0, if_neg h0]
  refine ysm_add hj ?_ (fun i hi he => ?_)
  · simp only [hd, hm]
    rw [if_pos (by simp), if_neg (by simp)]; exact (Int64.zero_add _).symm
  · have : decide (i < j + 1) = decide (i < j) := by simp only [decide_eq_decide]; omega
    simp only [this]
theorem ypw_f {T : yT} {S j t : Nat} (hj : j < tn T) (h : (ynx T S).testBit j = true → yg T S = 0 ∨ t ≠ S ||| 2 ^ j) : ypw T S (j + 1) t = ypw T S j t := by
  unfold ypw
  split
  · rfl
  · refine ysm_ext (fun i hi => ?_)
    by_cases e : i = j
    · subst e
      by_cases hm : ytm T t i = true
      · by_cases hx : zdf t (2 ^ i) = S
        · have hb := ytm_b hm
          have ht : t = S ||| 2 ^ i := by rw [← hx, df_or hb]
          have hn : (ynx T S).testBit i = true := by
            rw [ynx_b, decide_eq_true hi]
            unfold ytm at hm
            rw [hx, hb] at hm
            have : S.testBit i = false := by rw [← hx, bit_df]; simp
            rw [this]; exact hm
          rcases h hn with q | q
          · rw [hx, q]; split <;> split <;> rfl
          · exact absurd ht q
        · rw [show (zdf t (2 ^ i) == S) = false from beq_false_of_ne hx]; simp
      · rw [show ytm T t i = false by simpa using hm]; simp
    · have : decide (i < j + 1) = decide (i < j) := by simp only [decide_eq_decide]; omega
      rw [this]
/-- only the row of longs b is written -/
def Fl (b : Nat) (M M' : zM) : Prop := M'.1 = M.1 ∧ M'.2.1 = M.2.1 ∧ M'.2.2.2 = M.2.2.2 ∧ ∀ c, c ≠ b → ∀ j, zl M' c j = zl M c j
theorem Fl.refl (b : Nat) (M : zM) : Fl b M M := ⟨rfl, rfl, rfl, fun _ _ _ => rfl⟩
theorem Fl.wl {b j : Nat} {M M' : zM} {v : Int64} (h : Fl b M M') : Fl b M (zwl M' b j v) := ⟨h.1, h.2.1, h.2.2.1, fun c hc q => by rw [wl_eq, if_neg (fun e => hc e.1)]; exact h.2.2.2 c hc q⟩
theorem Fl.i {b : Nat} {M M' : zM} (h : Fl b M M') (a k : Nat) : zi M' a k = zi M a k := congrFun (congrFun h.1 a) k
theorem Fl.r {b : Nat} {M M' : zM} (h : Fl b M M') (a k : Nat) : zr M' a k = zr M a k := congrFun (congrFun h.2.1 a) k
theorem Fl.k {b : Nat} {M M' : zM} (h : Fl b M M') (a : Nat) : zk M' a = zk M a := congrFun (congrArg (fun q => q.1) h.2.2.1) a
theorem SPr_fl {b : Nat} {M M' : zM} {a : Nat} (h : SPr M a) (f : Fl b M M') : SPr M' a := ⟨(f.k _).trans h.1, fun g hg => ⟨(f.r _ _).trans (h.2 g hg).1, (f.k _).trans (h.2 g hg).2⟩⟩
theorem RP_fl {b : Nat} {M M' : zM} {a : Nat} {T : yT} (h : RP M a T) (f : Fl b M M') : RP M' a T := ⟨(f.i _ _).trans h.1, (f.i _ _).trans h.2.1, fun k hk => ⟨(f.i _ _).trans (h.2.2 k hk).1, (f.i _ _).trans (h.2.2 k hk).2.1, (f.i _ _).trans (h.2.2 k hk).2.2.1, (f.i _ _).trans (h.2.2 k hk).2.2.2.1, (f.i _ _).trans (h.2.2 k hk).2.2.2.2⟩⟩
theorem wl_s {M : zM} {a k : Nat} {v : Int64} : zl (zwl M a k v) a k = v := by rw [wl_eq, if_pos ⟨rfl, rfl⟩]
theorem wl_n {M : zM} {a k b j : Nat} {v : Int64} (h : b ≠ a ∨ j ≠ k) : zl (zwl M a k v) b j = zl M b j := by rw [wl_eq, if_neg (by omega)]
theorem d55_0 : decode (zB 55) 0 = .ok (.aload_n 0, 1) := by decide +kernel
theorem d55_1 : decode (zB 55) 1 = .ok (.invokevirtual 41, 3) := by decide +kernel
theorem d55_4 : decode (zB 55) 4 = .ok (.istore_n 2, 1) := by decide +kernel
theorem d55_5 : decode (zB 55) 5 = .ok (.aload_n 1, 1) := by decide +kernel
theorem d55_6 : decode (zB 55) 6 = .ok (.arraylength, 1) := by decide +kernel
theorem d55_7 : decode (zB 55) 7 = .ok (.iload_n 2, 1) := by decide +kernel
theorem d55_8 : decode (zB 55) 8 = .ok (.if_icmp .gt 5, 3) := by decide +kernel
theorem d55_11 : decode (zB 55) 11 = .ok (.lconst 0, 1) := by decide +kernel
theorem d55_12 : decode (zB 55) 12 = .ok (.lreturn, 1) := by decide +kernel
theorem d55_13 : decode (zB 55) 13 = .ok (.iconst 1, 1) := by decide +kernel
theorem d55_14 : decode (zB 55) 14 = .ok (.istore_n 3, 1) := by decide +kernel
theorem d55_15 : decode (zB 55) 15 = .ok (.iload_n 3, 1) := by decide +kernel
theorem d55_16 : decode (zB 55) 16 = .ok (.iload_n 2, 1) := by decide +kernel
theorem d55_17 : decode (zB 55) 17 = .ok (.if_icmp .gt 13, 3) := by decide +kernel
theorem d55_20 : decode (zB 55) 20 = .ok (.aload_n 1, 1) := by decide +kernel
theorem d55_21 : decode (zB 55) 21 = .ok (.iload_n 3, 1) := by decide +kernel
theorem d55_22 : decode (zB 55) 22 = .ok (.lconst 0, 1) := by decide +kernel
theorem d55_23 : decode (zB 55) 23 = .ok (.lastore, 1) := by decide +kernel
theorem d55_24 : decode (zB 55) 24 = .ok (.iinc 3 1, 3) := by decide +kernel
theorem d55_27 : decode (zB 55) 27 = .ok (.goto (-12), 3) := by decide +kernel
theorem d55_30 : decode (zB 55) 30 = .ok (.aload_n 1, 1) := by decide +kernel
theorem d55_31 : decode (zB 55) 31 = .ok (.iconst 0, 1) := by decide +kernel
theorem d55_32 : decode (zB 55) 32 = .ok (.lconst 1, 1) := by decide +kernel
theorem d55_33 : decode (zB 55) 33 = .ok (.lastore, 1) := by decide +kernel
theorem d55_34 : decode (zB 55) 34 = .ok (.iconst 0, 1) := by decide +kernel
theorem d55_35 : decode (zB 55) 35 = .ok (.istore_n 3, 1) := by decide +kernel
theorem d55_36 : decode (zB 55) 36 = .ok (.iload_n 3, 1) := by decide +kernel
theorem d55_37 : decode (zB 55) 37 = .ok (.iload_n 2, 1) := by decide +kernel
theorem d55_38 : decode (zB 55) 38 = .ok (.if_icmp .ge 70, 3) := by decide +kernel
theorem d55_41 : decode (zB 55) 41 = .ok (.aload_n 1, 1) := by decide +kernel
theorem d55_42 : decode (zB 55) 42 = .ok (.iload_n 3, 1) := by decide +kernel
theorem d55_43 : decode (zB 55) 43 = .ok (.laload, 1) := by decide +kernel
theorem d55_44 : decode (zB 55) 44 = .ok (.lconst 0, 1) := by decide +kernel
theorem d55_45 : decode (zB 55) 45 = .ok (.lcmp, 1) := by decide +kernel
theorem d55_46 : decode (zB 55) 46 = .ok (.ifCond .ne 7, 3) := by decide +kernel
theorem d55_49 : decode (zB 55) 49 = .ok (.iconst 0, 1) := by decide +kernel
theorem d55_50 : decode (zB 55) 50 = .ok (.goto 8, 3) := by decide +kernel
theorem d55_53 : decode (zB 55) 53 = .ok (.aload_n 0, 1) := by decide +kernel
theorem d55_54 : decode (zB 55) 54 = .ok (.iload_n 3, 1) := by decide +kernel
theorem d55_55 : decode (zB 55) 55 = .ok (.invokevirtual 66, 3) := by decide +kernel
theorem d55_58 : decode (zB 55) 58 = .ok (.istore 4, 2) := by decide +kernel
theorem d55_60 : decode (zB 55) 60 = .ok (.iconst 0, 1) := by decide +kernel
theorem d55_61 : decode (zB 55) 61 = .ok (.istore 5, 2) := by decide +kernel
theorem d55_63 : decode (zB 55) 63 = .ok (.iload 5, 2) := by decide +kernel
theorem d55_65 : decode (zB 55) 65 = .ok (.aload_n 0, 1) := by decide +kernel
theorem d55_66 : decode (zB 55) 66 = .ok (.getfield 34, 3) := by decide +kernel
theorem d55_69 : decode (zB 55) 69 = .ok (.if_icmp .ge 33, 3) := by decide +kernel
theorem d55_72 : decode (zB 55) 72 = .ok (.iload 4, 2) := by decide +kernel
theorem d55_74 : decode (zB 55) 74 = .ok (.iload 5, 2) := by decide +kernel
theorem d55_76 : decode (zB 55) 76 = .ok (.invokestatic 37, 3) := by decide +kernel
theorem d55_79 : decode (zB 55) 79 = .ok (.ifCond .eq 17, 3) := by decide +kernel
theorem d55_82 : decode (zB 55) 82 = .ok (.aload_n 1, 1) := by decide +kernel
theorem d55_83 : decode (zB 55) 83 = .ok (.iload_n 3, 1) := by decide +kernel
theorem d55_84 : decode (zB 55) 84 = .ok (.iconst 1, 1) := by decide +kernel
theorem d55_85 : decode (zB 55) 85 = .ok (.iload 5, 2) := by decide +kernel
theorem d55_87 : decode (zB 55) 87 = .ok (.ishl, 1) := by decide +kernel
theorem d55_88 : decode (zB 55) 88 = .ok (.ior, 1) := by decide +kernel
theorem d55_89 : decode (zB 55) 89 = .ok (.dup2, 1) := by decide +kernel
theorem d55_90 : decode (zB 55) 90 = .ok (.laload, 1) := by decide +kernel
theorem d55_91 : decode (zB 55) 91 = .ok (.aload_n 1, 1) := by decide +kernel
theorem d55_92 : decode (zB 55) 92 = .ok (.iload_n 3, 1) := by decide +kernel
theorem d55_93 : decode (zB 55) 93 = .ok (.laload, 1) := by decide +kernel
theorem d55_94 : decode (zB 55) 94 = .ok (.ladd, 1) := by decide +kernel
theorem d55_95 : decode (zB 55) 95 = .ok (.lastore, 1) := by decide +kernel
theorem d55_96 : decode (zB 55) 96 = .ok (.iinc 5 1, 3) := by decide +kernel
theorem d55_99 : decode (zB 55) 99 = .ok (.goto (-36), 3) := by decide +kernel
theorem d55_102 : decode (zB 55) 102 = .ok (.iinc 3 1, 3) := by decide +kernel
theorem d55_105 : decode (zB 55) 105 = .ok (.goto (-69), 3) := by decide +kernel
theorem d55_108 : decode (zB 55) 108 = .ok (.aload_n 1, 1) := by decide +kernel
theorem d55_109 : decode (zB 55) 109 = .ok (.iload_n 2, 1) := by decide +kernel
theorem d55_110 : decode (zB 55) 110 = .ok (.laload, 1) := by decide +kernel
theorem d55_111 : decode (zB 55) 111 = .ok (.lreturn, 1) := by decide +kernel
theorem l55i {d : Nat} {Q : Option Value → zM → Prop} {a b : Nat} {T : yT} {M0 : zM} {S x : Nat} (hp : SPr M0 a) (hr : RP M0 a T) (ho : OKT T) (hb : zk M0 b = (21, 4096)) (hS : S < 2 ^ tn T - 1) (hx : x = if yg T S = 0 then 0 else ynx T S) (k : ∀ M', (∀ t, t < 2 ^ tn T → zl M' b t = ypw T S (tn T) t) → Fl b M0 M' → qW (zEv (d + 2)) 55 Q 102 [(0, .ref a), (1, .ref b), (2, .int (nI (2 ^ tn T - 1))), (3, .int (nI S)), (4, .int (nI x)), (5, .int (nI (tn T)))] [] M') : ∀ (r i : Nat) (M1 : zM), i ≤ tn T → tn T < i + r → (∀ t, t < 2 ^ tn T → zl M1 b t = ypw T S i t) → Fl b M0 M1 → qW (zEv (d + 2)) 55 Q 63 [(0, .ref a), (1, .ref b), (2, .int (nI (2 ^ tn T - 1))), (3, .int (nI S)), (4, .int (nI x)), (5, .int (nI i))] [] M1 := by
  intro r
  induction r with
  | zero => intros; omega
  | succ r ih =>
    intro i M1 h1 h2 hw hF
    have hn := ho.n
    have hz : 2 ^ tn T ≤ 4096 := pow_12 hn
    have hz0 : 0 < 2 ^ tn T := Nat.two_pow_pos _
    have hnx : ynx T S < 4096 := ymk_lt12 _ hn
    have hx4 : x < 4096 := by rw [hx]; split <;> omega
    refine q_iload d55_63 rfl ?_
    refine q_aload_n d55_65 rfl ?_
    refine q_getv (c := 1) (f := 6) d55_66 ⟨rfl, by decide⟩ (SPr_fl hp hF).1 (RP_fl hr hF).1 ?_
    refine nc_ge 102 d55_69 (by decide) (by omega) (by omega) (fun h69 => ?_) (fun h69 => ?_)
    · refine qW_srt rfl rfl ?_
      rw [show i = tn T by omega] at hw ⊢
      exact k _ hw hF
    · refine q_iload d55_72 rfl ?_
      refine q_iload d55_74 rfl ?_
      refine q_s2 d55_76 (Or.inr rfl) rfl (Nat.le_of_ble_eq_true rfl) (c35 (by omega) (by omega) ?_)
      refine b0_eq 96 d55_79 (by decide) (fun h79 => ?_) (fun h79 => ?_)
      · refine n_iinc 1 d55_96 (by decide) rfl rfl ?_
        refine q_goto 63 d55_99 (by decide) ?_
        refine qW_srt rfl rfl ?_
        first
        | (have hg : ¬ yg T S = 0 := fun q => by rw [hx, if_pos q, Nat.zero_testBit] at h79; cases h79
           rw [hx, if_neg hg] at h79
           refine ih (i + 1) _ (by omega) (by omega) (fun t ht => ?_) hF.wl
           by_cases e : t = S ||| 2 ^ i
           · subst e; rw [wl_s, ypw_t (by omega) h79, ypw_v (t := S) (Nat.le_refl S)]
           · rw [wl_n (Or.inr e), hw t ht]; exact (ypw_f (by omega) (fun _ => Or.inr e)).symm)
        | (refine ih (i + 1) _ (by omega) (by omega) (fun t ht => ?_) hF
           rw [hw t ht]
           refine (ypw_f (by omega) (fun q => ?_)).symm
           by_cases hg : yg T S = 0
           · exact Or.inl hg
           · rw [hx, if_neg hg, q] at h79; cases h79)
      · have hor : S ||| 2 ^ i < 2 ^ tn T := or_lt (by omega) (pow_lt (by omega))
        refine q_aload_n d55_82 rfl ?_
        refine q_iload_n d55_83 rfl ?_
        refine q_iconstN (z := 1) d55_84 ?_
        refine q_iload d55_85 rfl ?_
        refine n_ishl1 d55_87 (by omega) ?_
        refine n_ior d55_88 ?_
        refine q_dup2 d55_89 rfl rfl ?_
        refine n_lald d55_90 ((hF.k _).trans hb) (by omega) (by decide) (hw _ hor) ?_
        refine q_aload_n d55_91 rfl ?_
        refine q_iload_n d55_92 rfl ?_
        refine n_lald d55_93 ((hF.k _).trans hb) (by omega) (by decide) (hw _ (by omega)) ?_
        refine q_ladd d55_94 ?_
        refine n_last d55_95 ((hF.k _).trans hb) (by omega) (by decide) ?_
        refine n_iinc 1 d55_96 (by decide) rfl rfl ?_
        refine q_goto 63 d55_99 (by decide) ?_
        refine qW_srt rfl rfl ?_
        first
        | (have hg : ¬ yg T S = 0 := fun q => by rw [hx, if_pos q, Nat.zero_testBit] at h79; cases h79
           rw [hx, if_neg hg] at h79
           refine ih (i + 1) _ (by omega) (by omega) (fun t ht => ?_) hF.wl
           by_cases e : t = S ||| 2 ^ i
           · subst e; rw [wl_s, ypw_t (by omega) h79, ypw_v (t := S) (Nat.le_refl S)]
           · rw [wl_n (Or.inr e), hw t ht]; exact (ypw_f (by omega) (fun _ => Or.inr e)).symm)
        | (refine ih (i + 1) _ (by omega) (by omega) (fun t ht => ?_) hF
           rw [hw t ht]
           refine (ypw_f (by omega) (fun q => ?_)).symm
           by_cases hg : yg T S = 0
           · exact Or.inl hg
           · rw [hx, if_neg hg, q] at h79; cases h79)
theorem l55 {d : Nat} {Q : Option Value → zM → Prop} {a b : Nat} {T : yT} {M0 : zM} (hp : SPr M0 a) (hr : RP M0 a T) (ho : OKT T) (hb : zk M0 b = (21, 4096)) (k : ∀ M', Fl b M0 M' → Q (some (.long (yg T (2 ^ tn T - 1)))) M') : ∀ (r i : Nat) (a4 a5 : Value) (M1 : zM), i ≤ (2 ^ tn T - 1) → (2 ^ tn T - 1) < i + r → (∀ t, t < 2 ^ tn T → zl M1 b t = ypw T i 0 t) → Fl b M0 M1 → qW (zEv (d + 2)) 55 Q 36 [(0, .ref a), (1, .ref b), (2, .int (nI (2 ^ tn T - 1))), (3, .int (nI i)), (4, a4), (5, a5)] [] M1 := by
  intro r
  induction r with
  | zero => intros; omega
  | succ r ih =>
    intro i a4 a5 M1 h1 h2 hw hF
    have hn := ho.n
    have hz : 2 ^ tn T ≤ 4096 := pow_12 hn
    have hz0 : 0 < 2 ^ tn T := Nat.two_pow_pos _
    refine q_iload_n d55_36 rfl ?_
    refine q_iload_n d55_37 rfl ?_
    refine nc_ge 108 d55_38 (by decide) (by omega) (by omega) (fun h38 => ?_) (fun h38 => ?_)
    · refine q_aload_n d55_108 rfl ?_
      refine q_iload_n d55_109 rfl ?_
      refine n_lald d55_110 ((hF.k _).trans hb) (by omega) (by decide) ((hw _ (by omega)).trans (ypw_v (by omega))) ?_
      refine q_lret d55_111 rfl ?_
      exact k _ hF
    · refine q_aload_n d55_41 rfl ?_
      refine q_iload_n d55_42 rfl ?_
      refine n_lald d55_43 ((hF.k _).trans hb) (by omega) (by decide) ((hw i (by omega)).trans (ypw_v (Nat.le_refl i))) ?_
      refine q_lconst (x := 0) d55_44 rfl ?_
      refine q_lcmp d55_45 ?_
      refine i0_ne 53 d55_46 (by decide) (fun h46 => ?_) (fun h46 => ?_)
      · refine q_aload_n d55_53 rfl ?_
        refine q_iload_n d55_54 rfl ?_
        refine q_v1 d55_55 rfl rfl (SPr_fl hp hF).1 (Nat.le_of_ble_eq_true rfl) (c44 (SPr_fl hp hF) (RP_fl hr hF) ho (by omega) ?_)
        refine q_istore d55_58 (by decide) rfl ?_
        refine q_iconstN (z := 0) d55_60 ?_
        refine q_istore d55_61 (by decide) rfl ?_
        refine qW_srt rfl rfl ?_
        exact l55i (S := i) hp hr ho hb (by omega) (by first | (rw [if_neg (fun q => h46 ((lg_cmp_eq _ _).mpr q))]) | (rw [if_pos ((lg_cmp_eq _ _).mp h46)])) (fun M2 hw2 hF2 => by
          refine n_iinc (x := i) 1 d55_102 (by decide) rfl rfl ?_
          refine q_goto 36 d55_105 (by decide) ?_
          refine qW_srt rfl rfl ?_
          exact ih (i + 1) _ _ _ (by omega) (by omega) (fun t ht => (hw2 t ht).trans ypw_n) hF2) (tn T + 1) 0 _ (by omega) (by omega) hw hF
      · refine q_iconstN (z := 0) d55_49 ?_
        refine q_goto 58 d55_50 (by decide) ?_
        refine q_istore d55_58 (by decide) rfl ?_
        refine q_iconstN (z := 0) d55_60 ?_
        refine q_istore d55_61 (by decide) rfl ?_
        refine qW_srt rfl rfl ?_
        exact l55i (S := i) hp hr ho hb (by omega) (by first | (rw [if_neg (fun q => h46 ((lg_cmp_eq _ _).mpr q))]) | (rw [if_pos ((lg_cmp_eq _ _).mp h46)])) (fun M2 hw2 hF2 => by
          refine n_iinc (x := i) 1 d55_102 (by decide) rfl rfl ?_
          refine q_goto 36 d55_105 (by decide) ?_
          refine qW_srt rfl rfl ?_
          exact ih (i + 1) _ _ _ (by omega) (by omega) (fun t ht => (hw2 t ht).trans ypw_n) hF2) (tn T + 1) 0 _ (by omega) (by omega) hw hF
theorem l55z {d : Nat} {Q : Option Value → zM → Prop} {a b : Nat} {T : yT} {M0 : zM} (hp : SPr M0 a) (hr : RP M0 a T) (ho : OKT T) (hb : zk M0 b = (21, 4096)) (k : ∀ M', (∀ t, t < 2 ^ tn T → zl M' b t = ypw T 0 0 t) → Fl b M0 M' → qW (zEv (d + 2)) 55 Q 36 [(0, .ref a), (1, .ref b), (2, .int (nI (2 ^ tn T - 1))), (3, .int (nI 0))] [] M') : ∀ (r i : Nat) (M1 : zM), i ≤ (2 ^ tn T) → (2 ^ tn T) < i + r → (∀ t, 1 ≤ t → t < i → zl M1 b t = 0) → Fl b M0 M1 → 1 ≤ i → qW (zEv (d + 2)) 55 Q 15 [(0, .ref a), (1, .ref b), (2, .int (nI (2 ^ tn T - 1))), (3, .int (nI i))] [] M1 := by
  intro r
  induction r with
  | zero => intros; omega
  | succ r ih =>
    intro i M1 h1 h2 hw hF hi1
    have hn := ho.n
    have hz : 2 ^ tn T ≤ 4096 := pow_12 hn
    have hz0 : 0 < 2 ^ tn T := Nat.two_pow_pos _
    refine q_iload_n d55_15 rfl ?_
    refine q_iload_n d55_16 rfl ?_
    refine nc_gt 30 d55_17 (by decide) (by omega) (by omega) (fun h17 => ?_) (fun h17 => ?_)
    · refine q_aload_n d55_30 rfl ?_
      refine q_iconstN (z := 0) d55_31 ?_
      refine q_lconst (x := 1) d55_32 rfl ?_
      refine n_last d55_33 ((hF.k _).trans hb) (by omega) (by decide) ?_
      refine q_iconstN (z := 0) d55_34 ?_
      refine q_istore_n d55_35 (by decide) rfl ?_
      refine qW_srt rfl rfl ?_
      refine k _ (fun t ht => ?_) hF.wl
      rw [ypw_0]
      by_cases e : t = 0
      · subst e; rw [if_pos rfl]; exact wl_s
      · rw [if_neg e, wl_n (Or.inr e)]; exact hw t (by omega) (by omega)
    · refine q_aload_n d55_20 rfl ?_
      refine q_iload_n d55_21 rfl ?_
      refine q_lconst (x := 0) d55_22 rfl ?_
      refine n_last d55_23 ((hF.k _).trans hb) (by omega) (by decide) ?_
      refine n_iinc 1 d55_24 (by decide) rfl rfl ?_
      refine q_goto 15 d55_27 (by decide) ?_
      refine qW_srt rfl rfl ?_
      exact ih (i + 1) _ (by omega) (by omega) (fun t h1 h3 => by
        by_cases e : t = i
        · subst e; exact wl_s
        · rw [wl_n (Or.inr e)]; exact hw t h1 (by omega)) hF.wl (by omega)
theorem c55 {d : Nat} {M : zM} {Q : Option Value → zM → Prop} {a b : Nat} {T : yT} (hp : SPr M a) (hr : RP M a T) (ho : OKT T) (hb : zk M b = (21, 4096)) (k : ∀ M', Fl b M M' → Q (some (.long (yg T (2 ^ tn T - 1)))) M') : qC (d + 3) 55 [.ref a, .ref b] M Q := by
  have hn := ho.n
  have hz : 2 ^ tn T ≤ 4096 := pow_12 hn
  have hz0 : 2 ≤ 2 ^ tn T := by have h1 := ho.1; exact Nat.le_trans (Nat.le_of_eq (Nat.pow_one 2).symm) (Nat.pow_le_pow_right (by omega) h1)
  refine qC_of (by decide) (Nat.le_of_ble_eq_true rfl) ?_
  refine q_aload_n d55_0 rfl ?_
  refine q_v0 d55_1 rfl rfl hp.1 (Nat.le_of_ble_eq_true rfl) (c37 hp hr hn ?_)
  refine q_istore_n d55_4 (by decide) rfl ?_
  refine q_aload_n d55_5 rfl ?_
  refine n_alen d55_6 (Or.inr hb) ?_
  refine q_iload_n d55_7 rfl ?_
  refine nc_gt 13 d55_8 (by decide) (by omega) (by omega) (fun h8 => ?_) (fun h8 => (False.elim (by omega)))
  refine q_iconstN (z := 1) d55_13 ?_
  refine q_istore_n d55_14 (by decide) rfl ?_
  refine qW_srt rfl rfl ?_
  exact l55z hp hr ho hb (fun M1 hw hF => by
      refine q_iload_n d55_36 rfl ?_
      refine q_iload_n d55_37 rfl ?_
      refine nc_ge 108 d55_38 (by decide) (by omega) (by omega) (fun h38 => ?_) (fun h38 => ?_)
      · refine q_aload_n d55_108 rfl ?_
        refine q_iload_n d55_109 rfl ?_
        refine n_lald d55_110 ((hF.k _).trans hb) (by omega) (by decide) ((hw _ (by omega)).trans (ypw_v (by omega))) ?_
        refine q_lret d55_111 rfl ?_
        exact k _ hF
      · refine q_aload_n d55_41 rfl ?_
        refine q_iload_n d55_42 rfl ?_
        refine n_lald d55_43 ((hF.k _).trans hb) (by omega) (by decide) ((hw 0 (by omega)).trans (ypw_v (Nat.le_refl 0))) ?_
        refine q_lconst (x := 0) d55_44 rfl ?_
        refine q_lcmp d55_45 ?_
        refine i0_ne 53 d55_46 (by decide) (fun h46 => ?_) (fun h46 => ?_)
        · refine q_aload_n d55_53 rfl ?_
          refine q_iload_n d55_54 rfl ?_
          refine q_v1 d55_55 rfl rfl (SPr_fl hp hF).1 (Nat.le_of_ble_eq_true rfl) (c44 (SPr_fl hp hF) (RP_fl hr hF) ho (by omega) ?_)
          refine q_istore d55_58 (by decide) rfl ?_
          refine q_iconstN (z := 0) d55_60 ?_
          refine q_istore d55_61 (by decide) rfl ?_
          refine qW_srt rfl rfl ?_
          exact l55i (S := 0) hp hr ho hb (by omega) (by first | (rw [if_neg (fun q => h46 ((lg_cmp_eq _ _).mpr q))]) | (rw [if_pos ((lg_cmp_eq _ _).mp h46)])) (fun M2 hw2 hF2 => by
            refine n_iinc (x := 0) 1 d55_102 (by decide) rfl rfl ?_
            refine q_goto 36 d55_105 (by decide) ?_
            refine qW_srt rfl rfl ?_
            exact l55 hp hr ho hb k (2 ^ tn T) 1 _ _ _ (by omega) (by omega) (fun t ht => (hw2 t ht).trans ypw_n) hF2) (tn T + 1) 0 _ (by omega) (by omega) hw hF
        · refine q_iconstN (z := 0) d55_49 ?_
          refine q_goto 58 d55_50 (by decide) ?_
          refine q_istore d55_58 (by decide) rfl ?_
          refine q_iconstN (z := 0) d55_60 ?_
          refine q_istore d55_61 (by decide) rfl ?_
          refine qW_srt rfl rfl ?_
          exact l55i (S := 0) hp hr ho hb (by omega) (by first | (rw [if_neg (fun q => h46 ((lg_cmp_eq _ _).mpr q))]) | (rw [if_pos ((lg_cmp_eq _ _).mp h46)])) (fun M2 hw2 hF2 => by
            refine n_iinc (x := 0) 1 d55_102 (by decide) rfl rfl ?_
            refine q_goto 36 d55_105 (by decide) ?_
            refine qW_srt rfl rfl ?_
            exact l55 hp hr ho hb k (2 ^ tn T) 1 _ _ _ (by omega) (by omega) (fun t ht => (hw2 t ht).trans ypw_n) hF2) (tn T + 1) 0 _ (by omega) (by omega) hw hF) (2 ^ tn T + 1) 1 M (by omega) (by omega) (fun t h1 h2 => absurd h2 (by omega)) (Fl.refl _ _) (by omega)
end
