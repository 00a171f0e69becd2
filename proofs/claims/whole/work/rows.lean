section
-- ===== PART A: goes FIRST, ahead of the names: the tables' words, and 'selects' of the private methods out of them =====
/-- a private method of a class that the tables say can be made, by its rows of tables_1 -/
def lw_okq (q : MethodName × Nat) : Prop := (q.1.cls ≠ "java/lang/invoke/MethodHandle" ∧ q.1.cls ≠ "java/lang/invoke/VarHandle") ∧ Cond.instantiable q.1.cls q.2 ∈ tables_1 ∧ Cond.privateMethod q.1 ∈ tables_1 ∧ Cond.instanceMethod q.1 ∈ tables_1
theorem lw_p0 : lw_okq (⟨"PromiseScopes$StageGraph", "noteTurn", "(LPromiseScopes$Stage;)V"⟩, 5) := ⟨⟨by decide +kernel, by decide +kernel⟩, List.mem_of_getElem? (i := 27) (by decide +kernel), List.mem_of_getElem? (i := 132) (by decide +kernel), List.mem_of_getElem? (i := 133) (by decide +kernel)⟩
theorem lw_p1 : lw_okq (⟨"PromiseScopes$StageGraph", "queueAllThatAreAble", "()V"⟩, 5) := ⟨⟨by decide +kernel, by decide +kernel⟩, List.mem_of_getElem? (i := 27) (by decide +kernel), List.mem_of_getElem? (i := 136) (by decide +kernel), List.mem_of_getElem? (i := 137) (by decide +kernel)⟩
theorem lw_p2 : lw_okq (⟨"PromiseScopes$StageGraph", "advance", "(LPromiseScopes$Stage;)V"⟩, 5) := ⟨⟨by decide +kernel, by decide +kernel⟩, List.mem_of_getElem? (i := 27) (by decide +kernel), List.mem_of_getElem? (i := 160) (by decide +kernel), List.mem_of_getElem? (i := 161) (by decide +kernel)⟩
theorem lw_p3 : lw_okq (⟨"PromiseScopes$StageGraph", "decide", "(LPromiseScopes$Stage;)V"⟩, 5) := ⟨⟨by decide +kernel, by decide +kernel⟩, List.mem_of_getElem? (i := 27) (by decide +kernel), List.mem_of_getElem? (i := 164) (by decide +kernel), List.mem_of_getElem? (i := 165) (by decide +kernel)⟩
theorem lw_p4 : lw_okq (⟨"PromiseScopes$StageGraph", "compose", "(LPromiseScopes$Stage;LPromiseScopes$Stage;)V"⟩, 5) := ⟨⟨by decide +kernel, by decide +kernel⟩, List.mem_of_getElem? (i := 27) (by decide +kernel), List.mem_of_getElem? (i := 199) (by decide +kernel), List.mem_of_getElem? (i := 200) (by decide +kernel)⟩
theorem lw_p5 : lw_okq (⟨"PromiseScopes$ScopeTree", "hasUnclosedBelow", "(LPromiseScopes$Scope;)Z"⟩, 6) := ⟨⟨by decide +kernel, by decide +kernel⟩, List.mem_of_getElem? (i := 69) (by decide +kernel), List.mem_of_getElem? (i := 301) (by decide +kernel), List.mem_of_getElem? (i := 302) (by decide +kernel)⟩
theorem lw_p6 : lw_okq (⟨"PromiseScopes$ScopeTree", "giveResult", "(LPromiseScopes$Scope;LPromiseScopes$StageGraph;)V"⟩, 6) := ⟨⟨by decide +kernel, by decide +kernel⟩, List.mem_of_getElem? (i := 69) (by decide +kernel), List.mem_of_getElem? (i := 305) (by decide +kernel), List.mem_of_getElem? (i := 306) (by decide +kernel)⟩
theorem lw_p7 : lw_okq (⟨"PromiseScopes$ScopeTree", "succeeded", "(LPromiseScopes$Scope;)Z"⟩, 6) := ⟨⟨by decide +kernel, by decide +kernel⟩, List.mem_of_getElem? (i := 69) (by decide +kernel), List.mem_of_getElem? (i := 310) (by decide +kernel), List.mem_of_getElem? (i := 311) (by decide +kernel)⟩
theorem lw_p8 : lw_okq (⟨"PromiseScopes$ScopeTree", "valueOf", "(LPromiseScopes$Scope;)I"⟩, 6) := ⟨⟨by decide +kernel, by decide +kernel⟩, List.mem_of_getElem? (i := 69) (by decide +kernel), List.mem_of_getElem? (i := 314) (by decide +kernel), List.mem_of_getElem? (i := 315) (by decide +kernel)⟩
theorem lw_p9 : lw_okq (⟨"PromiseScopes$ScopeTree", "firstEnded", "(LPromiseScopes$Scope;I)LPromiseScopes$Task;"⟩, 6) := ⟨⟨by decide +kernel, by decide +kernel⟩, List.mem_of_getElem? (i := 69) (by decide +kernel), List.mem_of_getElem? (i := 318) (by decide +kernel), List.mem_of_getElem? (i := 319) (by decide +kernel)⟩
theorem lw_p10 : lw_okq (⟨"PromiseScopes$ScopeTree", "cancelTasks", "(LPromiseScopes$Scope;)V"⟩, 6) := ⟨⟨by decide +kernel, by decide +kernel⟩, List.mem_of_getElem? (i := 69) (by decide +kernel), List.mem_of_getElem? (i := 331) (by decide +kernel), List.mem_of_getElem? (i := 332) (by decide +kernel)⟩
theorem lw_p11 : lw_okq (⟨"PromiseScopes$ScopeTree", "stopLateScopes", "()V"⟩, 6) := ⟨⟨by decide +kernel, by decide +kernel⟩, List.mem_of_getElem? (i := 69) (by decide +kernel), List.mem_of_getElem? (i := 343) (by decide +kernel), List.mem_of_getElem? (i := 344) (by decide +kernel)⟩
theorem lw_p12 : lw_okq (⟨"PromiseScopes$ScopeTree", "noteEnd", "(LPromiseScopes$Task;)V"⟩, 6) := ⟨⟨by decide +kernel, by decide +kernel⟩, List.mem_of_getElem? (i := 69) (by decide +kernel), List.mem_of_getElem? (i := 358) (by decide +kernel), List.mem_of_getElem? (i := 359) (by decide +kernel)⟩
theorem lw_p13 : lw_okq (⟨"java/lang/Throwable", "fillInStackTrace", "(I)Ljava/lang/Throwable;"⟩, 6) := ⟨⟨by decide +kernel, by decide +kernel⟩, List.mem_of_getElem? (i := 429) (by decide +kernel), List.mem_of_getElem? (i := 427) (by decide +kernel), List.mem_of_getElem? (i := 428) (by decide +kernel)⟩
theorem lw_p14 : lw_okq (⟨"PromiseScopesModel", "make", "(IIIJIIZ)I"⟩, 44) := ⟨⟨by decide +kernel, by decide +kernel⟩, List.mem_of_getElem? (i := 757) (by decide +kernel), List.mem_of_getElem? (i := 905) (by decide +kernel), List.mem_of_getElem? (i := 906) (by decide +kernel)⟩
theorem lw_p15 : lw_okq (⟨"PromiseScopesModel", "scan", "()V"⟩, 44) := ⟨⟨by decide +kernel, by decide +kernel⟩, List.mem_of_getElem? (i := 757) (by decide +kernel), List.mem_of_getElem? (i := 909) (by decide +kernel), List.mem_of_getElem? (i := 910) (by decide +kernel)⟩
def lw_privs_1 : List (MethodName × Nat) := [(⟨"PromiseScopes$StageGraph", "noteTurn", "(LPromiseScopes$Stage;)V"⟩, 5), (⟨"PromiseScopes$StageGraph", "queueAllThatAreAble", "()V"⟩, 5), (⟨"PromiseScopes$StageGraph", "advance", "(LPromiseScopes$Stage;)V"⟩, 5), (⟨"PromiseScopes$StageGraph", "decide", "(LPromiseScopes$Stage;)V"⟩, 5), (⟨"PromiseScopes$StageGraph", "compose", "(LPromiseScopes$Stage;LPromiseScopes$Stage;)V"⟩, 5), (⟨"PromiseScopes$ScopeTree", "hasUnclosedBelow", "(LPromiseScopes$Scope;)Z"⟩, 6), (⟨"PromiseScopes$ScopeTree", "giveResult", "(LPromiseScopes$Scope;LPromiseScopes$StageGraph;)V"⟩, 6), (⟨"PromiseScopes$ScopeTree", "succeeded", "(LPromiseScopes$Scope;)Z"⟩, 6), (⟨"PromiseScopes$ScopeTree", "valueOf", "(LPromiseScopes$Scope;)I"⟩, 6), (⟨"PromiseScopes$ScopeTree", "firstEnded", "(LPromiseScopes$Scope;I)LPromiseScopes$Task;"⟩, 6), (⟨"PromiseScopes$ScopeTree", "cancelTasks", "(LPromiseScopes$Scope;)V"⟩, 6), (⟨"PromiseScopes$ScopeTree", "stopLateScopes", "()V"⟩, 6), (⟨"PromiseScopes$ScopeTree", "noteEnd", "(LPromiseScopes$Task;)V"⟩, 6), (⟨"java/lang/Throwable", "fillInStackTrace", "(I)Ljava/lang/Throwable;"⟩, 6), (⟨"PromiseScopesModel", "make", "(IIIJIIZ)I"⟩, 44), (⟨"PromiseScopesModel", "scan", "()V"⟩, 44)]
theorem lw_r1 : ∀ q ∈ lw_privs_1, lw_okq q := List.forall_mem_cons.mpr ⟨lw_p0, List.forall_mem_cons.mpr ⟨lw_p1, List.forall_mem_cons.mpr ⟨lw_p2, List.forall_mem_cons.mpr ⟨lw_p3, List.forall_mem_cons.mpr ⟨lw_p4, List.forall_mem_cons.mpr ⟨lw_p5, List.forall_mem_cons.mpr ⟨lw_p6, List.forall_mem_cons.mpr ⟨lw_p7, List.forall_mem_cons.mpr ⟨lw_p8, List.forall_mem_cons.mpr ⟨lw_p9, List.forall_mem_cons.mpr ⟨lw_p10, List.forall_mem_cons.mpr ⟨lw_p11, List.forall_mem_cons.mpr ⟨lw_p12, List.forall_mem_cons.mpr ⟨lw_p13, List.forall_mem_cons.mpr ⟨lw_p14, List.forall_mem_cons.mpr ⟨lw_p15, fun _ h => absurd h List.not_mem_nil⟩⟩⟩⟩⟩⟩⟩⟩⟩⟩⟩⟩⟩⟩⟩⟩
theorem lw_p16 : lw_okq (⟨"PromiseScopesModel", "settled", "(I)Z"⟩, 44) := ⟨⟨by decide +kernel, by decide +kernel⟩, List.mem_of_getElem? (i := 757) (by decide +kernel), List.mem_of_getElem? (i := 913) (by decide +kernel), List.mem_of_getElem? (i := 914) (by decide +kernel)⟩
theorem lw_p17 : lw_okq (⟨"PromiseScopesModel", "isAble", "(I)Z"⟩, 44) := ⟨⟨by decide +kernel, by decide +kernel⟩, List.mem_of_getElem? (i := 757) (by decide +kernel), List.mem_of_getElem? (i := 917) (by decide +kernel), List.mem_of_getElem? (i := 918) (by decide +kernel)⟩
theorem lw_p18 : lw_okq (⟨"PromiseScopesModel", "come", "(IZ)Z"⟩, 44) := ⟨⟨by decide +kernel, by decide +kernel⟩, List.mem_of_getElem? (i := 757) (by decide +kernel), List.mem_of_getElem? (i := 921) (by decide +kernel), List.mem_of_getElem? (i := 922) (by decide +kernel)⟩
theorem lw_p19 : lw_okq (⟨"PromiseScopesModel", "isStage", "(I)Z"⟩, 44) := ⟨⟨by decide +kernel, by decide +kernel⟩, List.mem_of_getElem? (i := 757) (by decide +kernel), List.mem_of_getElem? (i := 929) (by decide +kernel), List.mem_of_getElem? (i := 930) (by decide +kernel)⟩
theorem lw_p20 : lw_okq (⟨"PromiseScopesModel", "workOff", "()V"⟩, 44) := ⟨⟨by decide +kernel, by decide +kernel⟩, List.mem_of_getElem? (i := 757) (by decide +kernel), List.mem_of_getElem? (i := 933) (by decide +kernel), List.mem_of_getElem? (i := 934) (by decide +kernel)⟩
theorem lw_p21 : lw_okq (⟨"PromiseScopesModel", "resolve", "(I)V"⟩, 44) := ⟨⟨by decide +kernel, by decide +kernel⟩, List.mem_of_getElem? (i := 757) (by decide +kernel), List.mem_of_getElem? (i := 937) (by decide +kernel), List.mem_of_getElem? (i := 938) (by decide +kernel)⟩
theorem lw_p22 : lw_okq (⟨"PromiseScopesModel", "copy", "(II)V"⟩, 44) := ⟨⟨by decide +kernel, by decide +kernel⟩, List.mem_of_getElem? (i := 757) (by decide +kernel), List.mem_of_getElem? (i := 941) (by decide +kernel), List.mem_of_getElem? (i := 942) (by decide +kernel)⟩
theorem lw_p23 : lw_okq (⟨"PromiseScopesModel", "give", "(III)V"⟩, 44) := ⟨⟨by decide +kernel, by decide +kernel⟩, List.mem_of_getElem? (i := 757) (by decide +kernel), List.mem_of_getElem? (i := 945) (by decide +kernel), List.mem_of_getElem? (i := 946) (by decide +kernel)⟩
theorem lw_p24 : lw_okq (⟨"PromiseScopesModel", "one", "(II)V"⟩, 44) := ⟨⟨by decide +kernel, by decide +kernel⟩, List.mem_of_getElem? (i := 757) (by decide +kernel), List.mem_of_getElem? (i := 949) (by decide +kernel), List.mem_of_getElem? (i := 950) (by decide +kernel)⟩
theorem lw_p25 : lw_okq (⟨"PromiseScopesModel", "apply", "(III)V"⟩, 44) := ⟨⟨by decide +kernel, by decide +kernel⟩, List.mem_of_getElem? (i := 757) (by decide +kernel), List.mem_of_getElem? (i := 953) (by decide +kernel), List.mem_of_getElem? (i := 954) (by decide +kernel)⟩
theorem lw_p26 : lw_okq (⟨"PromiseScopesModel", "giveMade", "(I)V"⟩, 44) := ⟨⟨by decide +kernel, by decide +kernel⟩, List.mem_of_getElem? (i := 757) (by decide +kernel), List.mem_of_getElem? (i := 957) (by decide +kernel), List.mem_of_getElem? (i := 958) (by decide +kernel)⟩
theorem lw_p27 : lw_okq (⟨"PromiseScopesModel", "all", "(I)V"⟩, 44) := ⟨⟨by decide +kernel, by decide +kernel⟩, List.mem_of_getElem? (i := 757) (by decide +kernel), List.mem_of_getElem? (i := 961) (by decide +kernel), List.mem_of_getElem? (i := 962) (by decide +kernel)⟩
theorem lw_p28 : lw_okq (⟨"PromiseScopesModel", "earliest", "(I)I"⟩, 44) := ⟨⟨by decide +kernel, by decide +kernel⟩, List.mem_of_getElem? (i := 757) (by decide +kernel), List.mem_of_getElem? (i := 965) (by decide +kernel), List.mem_of_getElem? (i := 966) (by decide +kernel)⟩
theorem lw_p29 : lw_okq (⟨"PromiseScopesModel", "settle", "(III)Z"⟩, 44) := ⟨⟨by decide +kernel, by decide +kernel⟩, List.mem_of_getElem? (i := 757) (by decide +kernel), List.mem_of_getElem? (i := 981) (by decide +kernel), List.mem_of_getElem? (i := 982) (by decide +kernel)⟩
theorem lw_p30 : lw_okq (⟨"PromiseScopesModel", "isOpen", "(I)Z"⟩, 44) := ⟨⟨by decide +kernel, by decide +kernel⟩, List.mem_of_getElem? (i := 757) (by decide +kernel), List.mem_of_getElem? (i := 1013) (by decide +kernel), List.mem_of_getElem? (i := 1014) (by decide +kernel)⟩
theorem lw_p31 : lw_okq (⟨"PromiseScopesModel", "isScope", "(I)Z"⟩, 44) := ⟨⟨by decide +kernel, by decide +kernel⟩, List.mem_of_getElem? (i := 757) (by decide +kernel), List.mem_of_getElem? (i := 1017) (by decide +kernel), List.mem_of_getElem? (i := 1018) (by decide +kernel)⟩
def lw_privs_2 : List (MethodName × Nat) := [(⟨"PromiseScopesModel", "settled", "(I)Z"⟩, 44), (⟨"PromiseScopesModel", "isAble", "(I)Z"⟩, 44), (⟨"PromiseScopesModel", "come", "(IZ)Z"⟩, 44), (⟨"PromiseScopesModel", "isStage", "(I)Z"⟩, 44), (⟨"PromiseScopesModel", "workOff", "()V"⟩, 44), (⟨"PromiseScopesModel", "resolve", "(I)V"⟩, 44), (⟨"PromiseScopesModel", "copy", "(II)V"⟩, 44), (⟨"PromiseScopesModel", "give", "(III)V"⟩, 44), (⟨"PromiseScopesModel", "one", "(II)V"⟩, 44), (⟨"PromiseScopesModel", "apply", "(III)V"⟩, 44), (⟨"PromiseScopesModel", "giveMade", "(I)V"⟩, 44), (⟨"PromiseScopesModel", "all", "(I)V"⟩, 44), (⟨"PromiseScopesModel", "earliest", "(I)I"⟩, 44), (⟨"PromiseScopesModel", "settle", "(III)Z"⟩, 44), (⟨"PromiseScopesModel", "isOpen", "(I)Z"⟩, 44), (⟨"PromiseScopesModel", "isScope", "(I)Z"⟩, 44)]
theorem lw_r2 : ∀ q ∈ lw_privs_2, lw_okq q := List.forall_mem_cons.mpr ⟨lw_p16, List.forall_mem_cons.mpr ⟨lw_p17, List.forall_mem_cons.mpr ⟨lw_p18, List.forall_mem_cons.mpr ⟨lw_p19, List.forall_mem_cons.mpr ⟨lw_p20, List.forall_mem_cons.mpr ⟨lw_p21, List.forall_mem_cons.mpr ⟨lw_p22, List.forall_mem_cons.mpr ⟨lw_p23, List.forall_mem_cons.mpr ⟨lw_p24, List.forall_mem_cons.mpr ⟨lw_p25, List.forall_mem_cons.mpr ⟨lw_p26, List.forall_mem_cons.mpr ⟨lw_p27, List.forall_mem_cons.mpr ⟨lw_p28, List.forall_mem_cons.mpr ⟨lw_p29, List.forall_mem_cons.mpr ⟨lw_p30, List.forall_mem_cons.mpr ⟨lw_p31, fun _ h => absurd h List.not_mem_nil⟩⟩⟩⟩⟩⟩⟩⟩⟩⟩⟩⟩⟩⟩⟩⟩
theorem lw_p32 : lw_okq (⟨"PromiseScopesModel", "look", "(II)I"⟩, 44) := ⟨⟨by decide +kernel, by decide +kernel⟩, List.mem_of_getElem? (i := 757) (by decide +kernel), List.mem_of_getElem? (i := 1029) (by decide +kernel), List.mem_of_getElem? (i := 1030) (by decide +kernel)⟩
theorem lw_p33 : lw_okq (⟨"PromiseScopesModel", "below", "(II)Z"⟩, 44) := ⟨⟨by decide +kernel, by decide +kernel⟩, List.mem_of_getElem? (i := 757) (by decide +kernel), List.mem_of_getElem? (i := 1041) (by decide +kernel), List.mem_of_getElem? (i := 1042) (by decide +kernel)⟩
theorem lw_p34 : lw_okq (⟨"PromiseScopesModel", "closeAll", "()V"⟩, 44) := ⟨⟨by decide +kernel, by decide +kernel⟩, List.mem_of_getElem? (i := 757) (by decide +kernel), List.mem_of_getElem? (i := 1045) (by decide +kernel), List.mem_of_getElem? (i := 1046) (by decide +kernel)⟩
theorem lw_p35 : lw_okq (⟨"PromiseScopesModel", "running", "(I)I"⟩, 44) := ⟨⟨by decide +kernel, by decide +kernel⟩, List.mem_of_getElem? (i := 757) (by decide +kernel), List.mem_of_getElem? (i := 1049) (by decide +kernel), List.mem_of_getElem? (i := 1050) (by decide +kernel)⟩
theorem lw_p36 : lw_okq (⟨"PromiseScopesModel", "conclude", "(I)V"⟩, 44) := ⟨⟨by decide +kernel, by decide +kernel⟩, List.mem_of_getElem? (i := 757) (by decide +kernel), List.mem_of_getElem? (i := 1053) (by decide +kernel), List.mem_of_getElem? (i := 1054) (by decide +kernel)⟩
theorem lw_p37 : lw_okq (⟨"PromiseScopesModel", "stop", "(I)V"⟩, 44) := ⟨⟨by decide +kernel, by decide +kernel⟩, List.mem_of_getElem? (i := 757) (by decide +kernel), List.mem_of_getElem? (i := 1061) (by decide +kernel), List.mem_of_getElem? (i := 1062) (by decide +kernel)⟩
theorem lw_p38 : lw_okq (⟨"PromiseScopesModel", "pass", "()I"⟩, 44) := ⟨⟨by decide +kernel, by decide +kernel⟩, List.mem_of_getElem? (i := 757) (by decide +kernel), List.mem_of_getElem? (i := 1069) (by decide +kernel), List.mem_of_getElem? (i := 1070) (by decide +kernel)⟩
theorem lw_p39 : lw_okq (⟨"PromiseScopesModel", "effective", "(I)I"⟩, 44) := ⟨⟨by decide +kernel, by decide +kernel⟩, List.mem_of_getElem? (i := 757) (by decide +kernel), List.mem_of_getElem? (i := 1073) (by decide +kernel), List.mem_of_getElem? (i := 1074) (by decide +kernel)⟩
theorem lw_p40 : lw_okq (⟨"PromiseScopesModel", "end", "(I)V"⟩, 44) := ⟨⟨by decide +kernel, by decide +kernel⟩, List.mem_of_getElem? (i := 757) (by decide +kernel), List.mem_of_getElem? (i := 1077) (by decide +kernel), List.mem_of_getElem? (i := 1078) (by decide +kernel)⟩
def lw_privs_3 : List (MethodName × Nat) := [(⟨"PromiseScopesModel", "look", "(II)I"⟩, 44), (⟨"PromiseScopesModel", "below", "(II)Z"⟩, 44), (⟨"PromiseScopesModel", "closeAll", "()V"⟩, 44), (⟨"PromiseScopesModel", "running", "(I)I"⟩, 44), (⟨"PromiseScopesModel", "conclude", "(I)V"⟩, 44), (⟨"PromiseScopesModel", "stop", "(I)V"⟩, 44), (⟨"PromiseScopesModel", "pass", "()I"⟩, 44), (⟨"PromiseScopesModel", "effective", "(I)I"⟩, 44), (⟨"PromiseScopesModel", "end", "(I)V"⟩, 44)]
theorem lw_r3 : ∀ q ∈ lw_privs_3, lw_okq q := List.forall_mem_cons.mpr ⟨lw_p32, List.forall_mem_cons.mpr ⟨lw_p33, List.forall_mem_cons.mpr ⟨lw_p34, List.forall_mem_cons.mpr ⟨lw_p35, List.forall_mem_cons.mpr ⟨lw_p36, List.forall_mem_cons.mpr ⟨lw_p37, List.forall_mem_cons.mpr ⟨lw_p38, List.forall_mem_cons.mpr ⟨lw_p39, List.forall_mem_cons.mpr ⟨lw_p40, fun _ h => absurd h List.not_mem_nil⟩⟩⟩⟩⟩⟩⟩⟩⟩
def lw_privs : List (MethodName × Nat) := lw_privs_1 ++ (lw_privs_2 ++ (lw_privs_3))
def lw_tbl : List Cond := k2_sels lw_privs ++ tables_1
theorem lw_privs_ok : ∀ q ∈ lw_privs, lw_okq q := by
  show ∀ q ∈ lw_privs_1 ++ (lw_privs_2 ++ (lw_privs_3)), lw_okq q
  exact List.forall_mem_append.mpr ⟨lw_r1, List.forall_mem_append.mpr ⟨lw_r2, lw_r3⟩⟩
end
section
/-! Names: the classes with their fields, the methods, the shape of the cells (by gen_names.py). -/
def T_Ps : u_T := fun k => match k with
  | 0 => ("PromiseScopes", "graph", "LPromiseScopes$StageGraph;", true)
  | _ => ("PromiseScopes", "tree", "LPromiseScopes$ScopeTree;", true)
def ty_Ps : Nat → FieldType := fun k => match k with
  | 0 => .object "PromiseScopes$StageGraph"
  | _ => .object "PromiseScopes$ScopeTree"
theorem nm_Ps : ∀ a, a < 2 → ∀ b, b < 2 → a ≠ b → (T_Ps a).2.1 ≠ (T_Ps b).2.1 := by decide +kernel
theorem ty_Ps_ok : ∀ k, k < 2 → parseFieldDescriptor (T_Ps k).2.2.1 = some (ty_Ps k) := by decide +kernel
def T_Graph : u_T := fun k => match k with
  | 0 => ("PromiseScopes$StageGraph", "stages", "[LPromiseScopes$Stage;", true)
  | 1 => ("PromiseScopes$StageGraph", "line", "LPromiseScopes$StageQueue;", true)
  | 2 => ("PromiseScopes$StageGraph", "pool", "LPromiseScopes$StageQueue;", true)
  | 3 => ("PromiseScopes$StageGraph", "made", "I", false)
  | _ => ("PromiseScopes$StageGraph", "settled", "I", false)
def ty_Graph : Nat → FieldType := fun k => match k with
  | 0 => .array (.object "PromiseScopes$Stage")
  | 1 => .object "PromiseScopes$StageQueue"
  | 2 => .object "PromiseScopes$StageQueue"
  | 3 => .int
  | _ => .int
theorem nm_Graph : ∀ a, a < 5 → ∀ b, b < 5 → a ≠ b → (T_Graph a).2.1 ≠ (T_Graph b).2.1 := by decide +kernel
theorem ty_Graph_ok : ∀ k, k < 5 → parseFieldDescriptor (T_Graph k).2.2.1 = some (ty_Graph k) := by decide +kernel
def T_Queue : u_T := fun k => match k with
  | 0 => ("PromiseScopes$StageQueue", "ring", "[LPromiseScopes$Stage;", true)
  | 1 => ("PromiseScopes$StageQueue", "front", "I", false)
  | _ => ("PromiseScopes$StageQueue", "size", "I", false)
def ty_Queue : Nat → FieldType := fun k => match k with
  | 0 => .array (.object "PromiseScopes$Stage")
  | 1 => .int
  | _ => .int
theorem nm_Queue : ∀ a, a < 3 → ∀ b, b < 3 → a ≠ b → (T_Queue a).2.1 ≠ (T_Queue b).2.1 := by decide +kernel
theorem ty_Queue_ok : ∀ k, k < 3 → parseFieldDescriptor (T_Queue k).2.2.1 = some (ty_Queue k) := by decide +kernel
def T_Stage : u_T := fun k => match k with
  | 0 => ("PromiseScopes$Stage", "number", "I", true)
  | 1 => ("PromiseScopes$Stage", "kind", "I", true)
  | 2 => ("PromiseScopes$Stage", "function", "I", true)
  | 3 => ("PromiseScopes$Stage", "a", "I", true)
  | 4 => ("PromiseScopes$Stage", "async", "Z", true)
  | 5 => ("PromiseScopes$Stage", "inputs", "[LPromiseScopes$Stage;", true)
  | 6 => ("PromiseScopes$Stage", "state", "I", false)
  | 7 => ("PromiseScopes$Stage", "content", "I", false)
  | 8 => ("PromiseScopes$Stage", "turn", "I", false)
  | 9 => ("PromiseScopes$Stage", "awaited", "LPromiseScopes$Stage;", false)
  | _ => ("PromiseScopes$Stage", "queued", "Z", false)
def ty_Stage : Nat → FieldType := fun k => match k with
  | 0 => .int
  | 1 => .int
  | 2 => .int
  | 3 => .int
  | 4 => .boolean
  | 5 => .array (.object "PromiseScopes$Stage")
  | 6 => .int
  | 7 => .int
  | 8 => .int
  | 9 => .object "PromiseScopes$Stage"
  | _ => .boolean
theorem nm_Stage : ∀ a, a < 11 → ∀ b, b < 11 → a ≠ b → (T_Stage a).2.1 ≠ (T_Stage b).2.1 := by decide +kernel
theorem ty_Stage_ok : ∀ k, k < 11 → parseFieldDescriptor (T_Stage k).2.2.1 = some (ty_Stage k) := by decide +kernel
def T_Scope : u_T := fun k => match k with
  | 0 => ("PromiseScopes$Scope", "number", "I", true)
  | 1 => ("PromiseScopes$Scope", "parent", "LPromiseScopes$Scope;", true)
  | 2 => ("PromiseScopes$Scope", "policy", "I", true)
  | 3 => ("PromiseScopes$Scope", "deadline", "I", true)
  | 4 => ("PromiseScopes$Scope", "result", "LPromiseScopes$Stage;", true)
  | 5 => ("PromiseScopes$Scope", "values", "[I", true)
  | 6 => ("PromiseScopes$Scope", "binds", "[Z", true)
  | 7 => ("PromiseScopes$Scope", "state", "I", false)
  | 8 => ("PromiseScopes$Scope", "stopped", "Z", false)
  | _ => ("PromiseScopes$Scope", "late", "Z", false)
def ty_Scope : Nat → FieldType := fun k => match k with
  | 0 => .int
  | 1 => .object "PromiseScopes$Scope"
  | 2 => .int
  | 3 => .int
  | 4 => .object "PromiseScopes$Stage"
  | 5 => .array (.int)
  | 6 => .array (.boolean)
  | 7 => .int
  | 8 => .boolean
  | _ => .boolean
theorem nm_Scope : ∀ a, a < 10 → ∀ b, b < 10 → a ≠ b → (T_Scope a).2.1 ≠ (T_Scope b).2.1 := by decide +kernel
theorem ty_Scope_ok : ∀ k, k < 10 → parseFieldDescriptor (T_Scope k).2.2.1 = some (ty_Scope k) := by decide +kernel
def T_Task : u_T := fun k => match k with
  | 0 => ("PromiseScopes$Task", "owner", "LPromiseScopes$Scope;", true)
  | 1 => ("PromiseScopes$Task", "cost", "I", true)
  | 2 => ("PromiseScopes$Task", "function", "I", true)
  | 3 => ("PromiseScopes$Task", "a", "I", true)
  | 4 => ("PromiseScopes$Task", "x", "I", true)
  | 5 => ("PromiseScopes$Task", "state", "I", false)
  | 6 => ("PromiseScopes$Task", "worked", "I", false)
  | 7 => ("PromiseScopes$Task", "content", "I", false)
  | _ => ("PromiseScopes$Task", "turn", "I", false)
def ty_Task : Nat → FieldType := fun k => match k with
  | 0 => .object "PromiseScopes$Scope"
  | 1 => .int
  | 2 => .int
  | 3 => .int
  | 4 => .int
  | 5 => .int
  | 6 => .int
  | 7 => .int
  | _ => .int
theorem nm_Task : ∀ a, a < 9 → ∀ b, b < 9 → a ≠ b → (T_Task a).2.1 ≠ (T_Task b).2.1 := by decide +kernel
theorem ty_Task_ok : ∀ k, k < 9 → parseFieldDescriptor (T_Task k).2.2.1 = some (ty_Task k) := by decide +kernel
def T_Tree : u_T := fun k => match k with
  | 0 => ("PromiseScopes$ScopeTree", "scopes", "[LPromiseScopes$Scope;", true)
  | 1 => ("PromiseScopes$ScopeTree", "tasks", "[LPromiseScopes$Task;", true)
  | 2 => ("PromiseScopes$ScopeTree", "scopesMade", "I", false)
  | 3 => ("PromiseScopes$ScopeTree", "tasksMade", "I", false)
  | 4 => ("PromiseScopes$ScopeTree", "time", "I", false)
  | _ => ("PromiseScopes$ScopeTree", "tasksEnded", "I", false)
def ty_Tree : Nat → FieldType := fun k => match k with
  | 0 => .array (.object "PromiseScopes$Scope")
  | 1 => .array (.object "PromiseScopes$Task")
  | 2 => .int
  | 3 => .int
  | 4 => .int
  | _ => .int
theorem nm_Tree : ∀ a, a < 6 → ∀ b, b < 6 → a ≠ b → (T_Tree a).2.1 ≠ (T_Tree b).2.1 := by decide +kernel
theorem ty_Tree_ok : ∀ k, k < 6 → parseFieldDescriptor (T_Tree k).2.2.1 = some (ty_Tree k) := by decide +kernel
def T_Mod : u_T := fun k => match k with
  | 0 => ("PromiseScopesModel", "thrown", "I", false)
  | 1 => ("PromiseScopesModel", "stages", "I", false)
  | 2 => ("PromiseScopesModel", "state", "[I", false)
  | 3 => ("PromiseScopesModel", "value", "[I", false)
  | 4 => ("PromiseScopesModel", "came", "[I", false)
  | 5 => ("PromiseScopesModel", "clock", "I", false)
  | 6 => ("PromiseScopesModel", "kind", "[I", false)
  | 7 => ("PromiseScopesModel", "function", "[I", false)
  | 8 => ("PromiseScopesModel", "number", "[I", false)
  | 9 => ("PromiseScopesModel", "first", "[I", false)
  | 10 => ("PromiseScopesModel", "second", "[I", false)
  | 11 => ("PromiseScopesModel", "inputs", "[J", false)
  | 12 => ("PromiseScopesModel", "apart", "[Z", false)
  | 13 => ("PromiseScopesModel", "awaits", "[I", false)
  | 14 => ("PromiseScopesModel", "queued", "[Z", false)
  | 15 => ("PromiseScopesModel", "lineFrom", "I", false)
  | 16 => ("PromiseScopesModel", "lineTo", "I", false)
  | 17 => ("PromiseScopesModel", "line", "[I", false)
  | 18 => ("PromiseScopesModel", "pooled", "I", false)
  | 19 => ("PromiseScopesModel", "pool", "[I", false)
  | 20 => ("PromiseScopesModel", "made", "I", false)
  | 21 => ("PromiseScopesModel", "threw", "I", false)
  | 22 => ("PromiseScopesModel", "scopes", "I", false)
  | 23 => ("PromiseScopesModel", "parent", "[I", false)
  | 24 => ("PromiseScopesModel", "policy", "[I", false)
  | 25 => ("PromiseScopesModel", "deadline", "[I", false)
  | 26 => ("PromiseScopesModel", "mode", "[I", false)
  | 27 => ("PromiseScopesModel", "result", "[I", false)
  | 28 => ("PromiseScopesModel", "stopped", "[Z", false)
  | 29 => ("PromiseScopesModel", "late", "[Z", false)
  | 30 => ("PromiseScopesModel", "firstDone", "[I", false)
  | 31 => ("PromiseScopesModel", "firstFailed", "[I", false)
  | 32 => ("PromiseScopesModel", "binds", "[Z", false)
  | 33 => ("PromiseScopesModel", "bound", "[I", false)
  | 34 => ("PromiseScopesModel", "time", "I", false)
  | 35 => ("PromiseScopesModel", "tasks", "I", false)
  | 36 => ("PromiseScopesModel", "home", "[I", false)
  | 37 => ("PromiseScopesModel", "cost", "[I", false)
  | 38 => ("PromiseScopesModel", "does", "[I", false)
  | 39 => ("PromiseScopesModel", "with", "[I", false)
  | 40 => ("PromiseScopesModel", "given", "[I", false)
  | 41 => ("PromiseScopesModel", "how", "[I", false)
  | 42 => ("PromiseScopesModel", "worked", "[I", false)
  | _ => ("PromiseScopesModel", "came2", "[I", false)
def ty_Mod : Nat → FieldType := fun k => match k with
  | 0 => .int
  | 1 => .int
  | 2 => .array (.int)
  | 3 => .array (.int)
  | 4 => .array (.int)
  | 5 => .int
  | 6 => .array (.int)
  | 7 => .array (.int)
  | 8 => .array (.int)
  | 9 => .array (.int)
  | 10 => .array (.int)
  | 11 => .array (.long)
  | 12 => .array (.boolean)
  | 13 => .array (.int)
  | 14 => .array (.boolean)
  | 15 => .int
  | 16 => .int
  | 17 => .array (.int)
  | 18 => .int
  | 19 => .array (.int)
  | 20 => .int
  | 21 => .int
  | 22 => .int
  | 23 => .array (.int)
  | 24 => .array (.int)
  | 25 => .array (.int)
  | 26 => .array (.int)
  | 27 => .array (.int)
  | 28 => .array (.boolean)
  | 29 => .array (.boolean)
  | 30 => .array (.int)
  | 31 => .array (.int)
  | 32 => .array (.boolean)
  | 33 => .array (.int)
  | 34 => .int
  | 35 => .int
  | 36 => .array (.int)
  | 37 => .array (.int)
  | 38 => .array (.int)
  | 39 => .array (.int)
  | 40 => .array (.int)
  | 41 => .array (.int)
  | 42 => .array (.int)
  | _ => .array (.int)
theorem nm_Mod : ∀ a, a < 44 → ∀ b, b < 44 → a ≠ b → (T_Mod a).2.1 ≠ (T_Mod b).2.1 := by decide +kernel
theorem ty_Mod_ok : ∀ k, k < 44 → parseFieldDescriptor (T_Mod k).2.2.1 = some (ty_Mod k) := by decide +kernel
abbrev ps_cl : List vw_C := [("PromiseScopes", T_Ps, 2), ("PromiseScopes$StageGraph", T_Graph, 5), ("PromiseScopes$StageQueue", T_Queue, 3), ("PromiseScopes$Stage", T_Stage, 11), ("PromiseScopes$Scope", T_Scope, 10), ("PromiseScopes$Task", T_Task, 9), ("PromiseScopes$ScopeTree", T_Tree, 6), ("PromiseScopesModel", T_Mod, 44)]
abbrev y_Ps_init : MethodName := ⟨"PromiseScopes", "<init>", "()V"⟩
abbrev c_Ps_init : ByteArray := prog_1_method_1_code
abbrev y_Graph_init : MethodName := ⟨"PromiseScopes$StageGraph", "<init>", "()V"⟩
abbrev c_Graph_init : ByteArray := prog_6_method_1_code
abbrev y_Queue_init : MethodName := ⟨"PromiseScopes$StageQueue", "<init>", "()V"⟩
abbrev c_Queue_init : ByteArray := prog_7_method_1_code
abbrev y_Tree_init : MethodName := ⟨"PromiseScopes$ScopeTree", "<init>", "()V"⟩
abbrev c_Tree_init : ByteArray := prog_4_method_1_code
abbrev y_Ps_complete : MethodName := ⟨"PromiseScopes", "complete", "(II)Z"⟩
abbrev c_Ps_complete : ByteArray := prog_1_method_6_code
abbrev y_Graph_settleIfPending : MethodName := ⟨"PromiseScopes$StageGraph", "settleIfPending", "(III)Z"⟩
abbrev c_Graph_settleIfPending : ByteArray := prog_6_method_14_code
abbrev y_Graph_find : MethodName := ⟨"PromiseScopes$StageGraph", "find", "(I)LPromiseScopes$Stage;"⟩
abbrev c_Graph_find : ByteArray := prog_6_method_5_code
abbrev y_Graph_has : MethodName := ⟨"PromiseScopes$StageGraph", "has", "(I)Z"⟩
abbrev c_Graph_has : ByteArray := prog_6_method_3_code
abbrev y_Graph_settle : MethodName := ⟨"PromiseScopes$StageGraph", "settle", "(LPromiseScopes$Stage;II)V"⟩
abbrev c_Graph_settle : ByteArray := prog_6_method_13_code
abbrev y_Stage_become : MethodName := ⟨"PromiseScopes$Stage", "become", "(II)V"⟩
abbrev c_Stage_become : ByteArray := prog_5_method_4_code
abbrev y_Graph_noteTurn : MethodName := ⟨"PromiseScopes$StageGraph", "noteTurn", "(LPromiseScopes$Stage;)V"⟩
abbrev c_Graph_noteTurn : ByteArray := prog_6_method_15_code
abbrev y_Graph_queueAllThatAreAble : MethodName := ⟨"PromiseScopes$StageGraph", "queueAllThatAreAble", "()V"⟩
abbrev c_Graph_queueAllThatAreAble : ByteArray := prog_6_method_19_code
abbrev y_Stage_isAble : MethodName := ⟨"PromiseScopes$Stage", "isAble", "()Z"⟩
abbrev c_Stage_isAble : ByteArray := prog_5_method_2_code
abbrev y_Stage_goesToPool : MethodName := ⟨"PromiseScopes$Stage", "goesToPool", "()Z"⟩
abbrev c_Stage_goesToPool : ByteArray := prog_5_method_3_code
abbrev y_Queue_append : MethodName := ⟨"PromiseScopes$StageQueue", "append", "(LPromiseScopes$Stage;)V"⟩
abbrev c_Queue_append : ByteArray := prog_7_method_3_code
abbrev y_Graph_workOffLine : MethodName := ⟨"PromiseScopes$StageGraph", "workOffLine", "()V"⟩
abbrev c_Graph_workOffLine : ByteArray := prog_6_method_16_code
abbrev y_Queue_takeFront : MethodName := ⟨"PromiseScopes$StageQueue", "takeFront", "()LPromiseScopes$Stage;"⟩
abbrev c_Queue_takeFront : ByteArray := prog_7_method_4_code
abbrev y_Graph_advance : MethodName := ⟨"PromiseScopes$StageGraph", "advance", "(LPromiseScopes$Stage;)V"⟩
abbrev c_Graph_advance : ByteArray := prog_6_method_18_code
abbrev y_Graph_decide : MethodName := ⟨"PromiseScopes$StageGraph", "decide", "(LPromiseScopes$Stage;)V"⟩
abbrev c_Graph_decide : ByteArray := prog_6_method_20_code
abbrev y_Stage_applyTo : MethodName := ⟨"PromiseScopes$Stage", "applyTo", "(LPromiseScopes$Stage;)V"⟩
abbrev c_Stage_applyTo : ByteArray := prog_5_method_7_code
abbrev y_Stage_useFunction : MethodName := ⟨"PromiseScopes$Stage", "useFunction", "(I)V"⟩
abbrev c_Stage_useFunction : ByteArray := prog_5_method_6_code
abbrev y_Fn_thrownFor : MethodName := ⟨"PromiseScopes$Functions", "thrownFor", "(III)I"⟩
abbrev c_Fn_thrownFor : ByteArray := prog_2_method_3_code
abbrev y_Fn_madeOf : MethodName := ⟨"PromiseScopes$Functions", "madeOf", "(III)I"⟩
abbrev c_Fn_madeOf : ByteArray := prog_2_method_4_code
abbrev y_Stage_follow : MethodName := ⟨"PromiseScopes$Stage", "follow", "(LPromiseScopes$Stage;)V"⟩
abbrev c_Stage_follow : ByteArray := prog_5_method_5_code
abbrev y_Stage_recoverFrom : MethodName := ⟨"PromiseScopes$Stage", "recoverFrom", "(LPromiseScopes$Stage;)V"⟩
abbrev c_Stage_recoverFrom : ByteArray := prog_5_method_8_code
abbrev y_Stage_handle : MethodName := ⟨"PromiseScopes$Stage", "handle", "(LPromiseScopes$Stage;)V"⟩
abbrev c_Stage_handle : ByteArray := prog_5_method_9_code
abbrev y_Stage_watch : MethodName := ⟨"PromiseScopes$Stage", "watch", "(LPromiseScopes$Stage;)V"⟩
abbrev c_Stage_watch : ByteArray := prog_5_method_10_code
abbrev y_Graph_compose : MethodName := ⟨"PromiseScopes$StageGraph", "compose", "(LPromiseScopes$Stage;LPromiseScopes$Stage;)V"⟩
abbrev c_Graph_compose : ByteArray := prog_6_method_21_code
abbrev y_Stage_combine : MethodName := ⟨"PromiseScopes$Stage", "combine", "(LPromiseScopes$Stage;LPromiseScopes$Stage;)V"⟩
abbrev c_Stage_combine : ByteArray := prog_5_method_11_code
abbrev y_Stage_firstSettledInput : MethodName := ⟨"PromiseScopes$Stage", "firstSettledInput", "()LPromiseScopes$Stage;"⟩
abbrev c_Stage_firstSettledInput : ByteArray := prog_5_method_13_code
abbrev y_Stage_sumUp : MethodName := ⟨"PromiseScopes$Stage", "sumUp", "()V"⟩
abbrev c_Stage_sumUp : ByteArray := prog_5_method_12_code
abbrev y_Ps_fail : MethodName := ⟨"PromiseScopes", "fail", "(II)Z"⟩
abbrev c_Ps_fail : ByteArray := prog_1_method_7_code
abbrev y_Ps_cancel : MethodName := ⟨"PromiseScopes", "cancel", "(I)Z"⟩
abbrev c_Ps_cancel : ByteArray := prog_1_method_8_code
abbrev y_Ps_work : MethodName := ⟨"PromiseScopes", "work", "(I)I"⟩
abbrev c_Ps_work : ByteArray := prog_1_method_9_code
abbrev y_Ps_isStepCount : MethodName := ⟨"PromiseScopes", "isStepCount", "(I)Z"⟩
abbrev c_Ps_isStepCount : ByteArray := prog_1_method_22_code
abbrev y_Graph_advancePool : MethodName := ⟨"PromiseScopes$StageGraph", "advancePool", "()Z"⟩
abbrev c_Graph_advancePool : ByteArray := prog_6_method_17_code
abbrev y_Ps_stage : MethodName := ⟨"PromiseScopes", "stage", "(II)I"⟩
abbrev c_Ps_stage : ByteArray := prog_1_method_11_code
abbrev y_Graph_placeInPool : MethodName := ⟨"PromiseScopes$StageGraph", "placeInPool", "(LPromiseScopes$Stage;)I"⟩
abbrev c_Graph_placeInPool : ByteArray := prog_6_method_7_code
abbrev y_Queue_placeOf : MethodName := ⟨"PromiseScopes$StageQueue", "placeOf", "(LPromiseScopes$Stage;)I"⟩
abbrev c_Queue_placeOf : ByteArray := prog_7_method_5_code
abbrev y_Ps_count : MethodName := ⟨"PromiseScopes", "count", "(I)I"⟩
abbrev c_Ps_count : ByteArray := prog_1_method_12_code
abbrev y_Graph_poolSize : MethodName := ⟨"PromiseScopes$StageGraph", "poolSize", "()I"⟩
abbrev c_Graph_poolSize : ByteArray := prog_6_method_6_code
abbrev y_Queue_length : MethodName := ⟨"PromiseScopes$StageQueue", "length", "()I"⟩
abbrev c_Queue_length : ByteArray := prog_7_method_2_code
abbrev y_Ps_bind : MethodName := ⟨"PromiseScopes", "bind", "(III)Z"⟩
abbrev c_Ps_bind : ByteArray := prog_1_method_14_code
abbrev y_Tree_findOpen : MethodName := ⟨"PromiseScopes$ScopeTree", "findOpen", "(I)LPromiseScopes$Scope;"⟩
abbrev c_Tree_findOpen : ByteArray := prog_4_method_5_code
abbrev y_Tree_find : MethodName := ⟨"PromiseScopes$ScopeTree", "find", "(I)LPromiseScopes$Scope;"⟩
abbrev c_Tree_find : ByteArray := prog_4_method_4_code
abbrev y_Scope_isKey : MethodName := ⟨"PromiseScopes$Scope", "isKey", "(I)Z"⟩
abbrev c_Scope_isKey : ByteArray := prog_3_method_2_code
abbrev y_Scope_keep : MethodName := ⟨"PromiseScopes$Scope", "keep", "(II)V"⟩
abbrev c_Scope_keep : ByteArray := prog_3_method_4_code
abbrev y_Ps_joinScope : MethodName := ⟨"PromiseScopes", "joinScope", "(I)Z"⟩
abbrev c_Ps_joinScope : ByteArray := prog_1_method_16_code
abbrev y_Tree_hasOpenBelow : MethodName := ⟨"PromiseScopes$ScopeTree", "hasOpenBelow", "(LPromiseScopes$Scope;)Z"⟩
abbrev c_Tree_hasOpenBelow : ByteArray := prog_4_method_10_code
abbrev y_Scope_isBelow : MethodName := ⟨"PromiseScopes$Scope", "isBelow", "(LPromiseScopes$Scope;)Z"⟩
abbrev c_Scope_isBelow : ByteArray := prog_3_method_6_code
abbrev y_Tree_closeAllThatCan : MethodName := ⟨"PromiseScopes$ScopeTree", "closeAllThatCan", "(LPromiseScopes$StageGraph;)V"⟩
abbrev c_Tree_closeAllThatCan : ByteArray := prog_4_method_17_code
abbrev y_Tree_countTasks : MethodName := ⟨"PromiseScopes$ScopeTree", "countTasks", "(LPromiseScopes$Scope;I)I"⟩
abbrev c_Tree_countTasks : ByteArray := prog_4_method_9_code
abbrev y_Tree_hasUnclosedBelow : MethodName := ⟨"PromiseScopes$ScopeTree", "hasUnclosedBelow", "(LPromiseScopes$Scope;)Z"⟩
abbrev c_Tree_hasUnclosedBelow : ByteArray := prog_4_method_11_code
abbrev y_Tree_giveResult : MethodName := ⟨"PromiseScopes$ScopeTree", "giveResult", "(LPromiseScopes$Scope;LPromiseScopes$StageGraph;)V"⟩
abbrev c_Tree_giveResult : ByteArray := prog_4_method_18_code
abbrev y_Tree_succeeded : MethodName := ⟨"PromiseScopes$ScopeTree", "succeeded", "(LPromiseScopes$Scope;)Z"⟩
abbrev c_Tree_succeeded : ByteArray := prog_4_method_19_code
abbrev y_Tree_valueOf : MethodName := ⟨"PromiseScopes$ScopeTree", "valueOf", "(LPromiseScopes$Scope;)I"⟩
abbrev c_Tree_valueOf : ByteArray := prog_4_method_20_code
abbrev y_Tree_firstEnded : MethodName := ⟨"PromiseScopes$ScopeTree", "firstEnded", "(LPromiseScopes$Scope;I)LPromiseScopes$Task;"⟩
abbrev c_Tree_firstEnded : ByteArray := prog_4_method_21_code
abbrev y_Ps_cancelScope : MethodName := ⟨"PromiseScopes", "cancelScope", "(I)Z"⟩
abbrev c_Ps_cancelScope : ByteArray := prog_1_method_17_code
abbrev y_Tree_stop : MethodName := ⟨"PromiseScopes$ScopeTree", "stop", "(LPromiseScopes$Scope;)V"⟩
abbrev c_Tree_stop : ByteArray := prog_4_method_12_code
abbrev y_Tree_cancelTasks : MethodName := ⟨"PromiseScopes$ScopeTree", "cancelTasks", "(LPromiseScopes$Scope;)V"⟩
abbrev c_Tree_cancelTasks : ByteArray := prog_4_method_13_code
abbrev y_Ps_tick : MethodName := ⟨"PromiseScopes", "tick", "(I)I"⟩
abbrev c_Ps_tick : ByteArray := prog_1_method_18_code
abbrev y_Tree_passOneTick : MethodName := ⟨"PromiseScopes$ScopeTree", "passOneTick", "()I"⟩
abbrev c_Tree_passOneTick : ByteArray := prog_4_method_14_code
abbrev y_Tree_stopLateScopes : MethodName := ⟨"PromiseScopes$ScopeTree", "stopLateScopes", "()V"⟩
abbrev c_Tree_stopLateScopes : ByteArray := prog_4_method_15_code
abbrev y_Scope_isPastDeadline : MethodName := ⟨"PromiseScopes$Scope", "isPastDeadline", "(I)Z"⟩
abbrev c_Scope_isPastDeadline : ByteArray := prog_3_method_7_code
abbrev y_Task_workOnce : MethodName := ⟨"PromiseScopes$Task", "workOnce", "()V"⟩
abbrev c_Task_workOnce : ByteArray := prog_8_method_3_code
abbrev y_Tree_noteEnd : MethodName := ⟨"PromiseScopes$ScopeTree", "noteEnd", "(LPromiseScopes$Task;)V"⟩
abbrev c_Tree_noteEnd : ByteArray := prog_4_method_16_code
abbrev y_Scope_isStoppedBy : MethodName := ⟨"PromiseScopes$Scope", "isStoppedBy", "(LPromiseScopes$Task;)Z"⟩
abbrev c_Scope_isStoppedBy : ByteArray := prog_3_method_8_code
abbrev y_Ps_scope : MethodName := ⟨"PromiseScopes", "scope", "(II)I"⟩
abbrev c_Ps_scope : ByteArray := prog_1_method_19_code
abbrev y_Ps_task : MethodName := ⟨"PromiseScopes", "task", "(II)I"⟩
abbrev c_Ps_task : ByteArray := prog_1_method_21_code
abbrev y_Tree_findTask : MethodName := ⟨"PromiseScopes$ScopeTree", "findTask", "(I)LPromiseScopes$Task;"⟩
abbrev c_Tree_findTask : ByteArray := prog_4_method_6_code
abbrev y_Law_source : MethodName := ⟨"PromiseScopesLaw", "source", "(LPromiseScopes;[J)I"⟩
abbrev c_Law_source : ByteArray := method_3_code
abbrev y_Ps_source : MethodName := ⟨"PromiseScopes", "source", "()I"⟩
abbrev c_Ps_source : ByteArray := prog_1_method_2_code
abbrev y_Graph_isFull : MethodName := ⟨"PromiseScopes$StageGraph", "isFull", "()Z"⟩
abbrev c_Graph_isFull : ByteArray := prog_6_method_2_code
abbrev y_Graph_addSource : MethodName := ⟨"PromiseScopes$StageGraph", "addSource", "()LPromiseScopes$Stage;"⟩
abbrev c_Graph_addSource : ByteArray := prog_6_method_11_code
abbrev y_Graph_addStage : MethodName := ⟨"PromiseScopes$StageGraph", "addStage", "([LPromiseScopes$Stage;IIIZ)LPromiseScopes$Stage;"⟩
abbrev c_Graph_addStage : ByteArray := prog_6_method_12_code
abbrev y_Stage_init : MethodName := ⟨"PromiseScopes$Stage", "<init>", "(IIIIZ[LPromiseScopes$Stage;)V"⟩
abbrev c_Stage_init : ByteArray := prog_5_method_1_code
abbrev y_Law_then : MethodName := ⟨"PromiseScopesLaw", "then", "(LPromiseScopes;IIIIZ[J)I"⟩
abbrev c_Law_then : ByteArray := method_4_code
abbrev y_Ps_then : MethodName := ⟨"PromiseScopes", "then", "(IIIIZ)I"⟩
abbrev c_Ps_then : ByteArray := prog_1_method_3_code
abbrev y_Fn_has : MethodName := ⟨"PromiseScopes$Functions", "has", "(I)Z"⟩
abbrev c_Fn_has : ByteArray := prog_2_method_2_code
abbrev y_Graph_inputsOf : MethodName := ⟨"PromiseScopes$StageGraph", "inputsOf", "(I)[LPromiseScopes$Stage;"⟩
abbrev c_Graph_inputsOf : ByteArray := prog_6_method_8_code
abbrev y_Law_both : MethodName := ⟨"PromiseScopesLaw", "both", "(LPromiseScopes;IIIIIZ[J)I"⟩
abbrev c_Law_both : ByteArray := method_5_code
abbrev y_Ps_both : MethodName := ⟨"PromiseScopes", "both", "(IIIIIZ)I"⟩
abbrev c_Ps_both : ByteArray := prog_1_method_4_code
abbrev y_Graph_inputsOf2 : MethodName := ⟨"PromiseScopes$StageGraph", "inputsOf", "(II)[LPromiseScopes$Stage;"⟩
abbrev c_Graph_inputsOf2 : ByteArray := prog_6_method_9_code
abbrev y_Law_several : MethodName := ⟨"PromiseScopesLaw", "several", "(LPromiseScopes;JI[J)I"⟩
abbrev c_Law_several : ByteArray := method_6_code
abbrev y_Ps_several : MethodName := ⟨"PromiseScopes", "several", "(JI)I"⟩
abbrev c_Ps_several : ByteArray := prog_1_method_5_code
abbrev y_Graph_hasAll : MethodName := ⟨"PromiseScopes$StageGraph", "hasAll", "(J)Z"⟩
abbrev c_Graph_hasAll : ByteArray := prog_6_method_4_code
abbrev y_Graph_inputsOfSet : MethodName := ⟨"PromiseScopes$StageGraph", "inputsOfSet", "(J)[LPromiseScopes$Stage;"⟩
abbrev c_Graph_inputsOfSet : ByteArray := prog_6_method_10_code
abbrev y_Long_bitCount : MethodName := ⟨"java/lang/Long", "bitCount", "(J)I"⟩
abbrev c_Long_bitCount : ByteArray := prog_14_method_50_code
abbrev y_Law_join : MethodName := ⟨"PromiseScopesLaw", "join", "(LPromiseScopes;I[J)I"⟩
abbrev c_Law_join : ByteArray := method_7_code
abbrev y_Ps_join : MethodName := ⟨"PromiseScopes", "join", "(I)I"⟩
abbrev c_Ps_join : ByteArray := prog_1_method_10_code
abbrev y_Law_open : MethodName := ⟨"PromiseScopesLaw", "open", "(LPromiseScopes;III[J)I"⟩
abbrev c_Law_open : ByteArray := method_8_code
abbrev y_Ps_open : MethodName := ⟨"PromiseScopes", "open", "(III)I"⟩
abbrev c_Ps_open : ByteArray := prog_1_method_13_code
abbrev y_Tree_isFullOfScopes : MethodName := ⟨"PromiseScopes$ScopeTree", "isFullOfScopes", "()Z"⟩
abbrev c_Tree_isFullOfScopes : ByteArray := prog_4_method_2_code
abbrev y_Tree_addScope : MethodName := ⟨"PromiseScopes$ScopeTree", "addScope", "(LPromiseScopes$Scope;IILPromiseScopes$Stage;)I"⟩
abbrev c_Tree_addScope : ByteArray := prog_4_method_7_code
abbrev y_Scope_effectiveDeadline : MethodName := ⟨"PromiseScopes$Scope", "effectiveDeadline", "(LPromiseScopes$Scope;I)I"⟩
abbrev c_Scope_effectiveDeadline : ByteArray := prog_3_method_3_code
abbrev y_Math_min : MethodName := ⟨"java/lang/Math", "min", "(II)I"⟩
abbrev c_Math_min : ByteArray := prog_15_method_69_code
abbrev y_Scope_init : MethodName := ⟨"PromiseScopes$Scope", "<init>", "(ILPromiseScopes$Scope;IILPromiseScopes$Stage;)V"⟩
abbrev c_Scope_init : ByteArray := prog_3_method_1_code
abbrev y_Law_fork : MethodName := ⟨"PromiseScopesLaw", "fork", "(LPromiseScopes;IIII[J)I"⟩
abbrev c_Law_fork : ByteArray := method_9_code
abbrev y_Ps_fork : MethodName := ⟨"PromiseScopes", "fork", "(IIII)I"⟩
abbrev c_Ps_fork : ByteArray := prog_1_method_15_code
abbrev y_Task_isCost : MethodName := ⟨"PromiseScopes$Task", "isCost", "(I)Z"⟩
abbrev c_Task_isCost : ByteArray := prog_8_method_2_code
abbrev y_Tree_isFullOfTasks : MethodName := ⟨"PromiseScopes$ScopeTree", "isFullOfTasks", "()Z"⟩
abbrev c_Tree_isFullOfTasks : ByteArray := prog_4_method_3_code
abbrev y_Tree_addTask : MethodName := ⟨"PromiseScopes$ScopeTree", "addTask", "(LPromiseScopes$Scope;III)I"⟩
abbrev c_Tree_addTask : ByteArray := prog_4_method_8_code
abbrev y_Scope_lookUp : MethodName := ⟨"PromiseScopes$Scope", "lookUp", "(I)I"⟩
abbrev c_Scope_lookUp : ByteArray := prog_3_method_5_code
abbrev y_Task_init : MethodName := ⟨"PromiseScopes$Task", "<init>", "(LPromiseScopes$Scope;IIII)V"⟩
abbrev c_Task_init : ByteArray := prog_8_method_1_code
abbrev y_Law_bound : MethodName := ⟨"PromiseScopesLaw", "bound", "(LPromiseScopes;II[J)I"⟩
abbrev c_Law_bound : ByteArray := method_10_code
abbrev y_Ps_bound : MethodName := ⟨"PromiseScopes", "bound", "(II)I"⟩
abbrev c_Ps_bound : ByteArray := prog_1_method_20_code
abbrev y_Mod_init : MethodName := ⟨"PromiseScopesModel", "<init>", "()V"⟩
abbrev c_Mod_init : ByteArray := prog_10_method_1_code
abbrev y_Mod_thrown : MethodName := ⟨"PromiseScopesModel", "thrown", "()I"⟩
abbrev c_Mod_thrown : ByteArray := prog_10_method_2_code
abbrev y_Mod_source : MethodName := ⟨"PromiseScopesModel", "source", "()I"⟩
abbrev c_Mod_source : ByteArray := prog_10_method_18_code
abbrev y_Mod_make : MethodName := ⟨"PromiseScopesModel", "make", "(IIIJIIZ)I"⟩
abbrev c_Mod_make : ByteArray := prog_10_method_17_code
abbrev y_Mod_scan : MethodName := ⟨"PromiseScopesModel", "scan", "()V"⟩
abbrev c_Mod_scan : ByteArray := prog_10_method_8_code
abbrev y_Mod_settled : MethodName := ⟨"PromiseScopesModel", "settled", "(I)Z"⟩
abbrev c_Mod_settled : ByteArray := prog_10_method_5_code
abbrev y_Mod_isAble : MethodName := ⟨"PromiseScopesModel", "isAble", "(I)Z"⟩
abbrev c_Mod_isAble : ByteArray := prog_10_method_7_code
abbrev y_Mod_come : MethodName := ⟨"PromiseScopesModel", "come", "(IZ)Z"⟩
abbrev c_Mod_come : ByteArray := prog_10_method_6_code
abbrev y_Mod_then : MethodName := ⟨"PromiseScopesModel", "then", "(IIIIZ)I"⟩
abbrev c_Mod_then : ByteArray := prog_10_method_19_code
abbrev y_Mod_isStage : MethodName := ⟨"PromiseScopesModel", "isStage", "(I)Z"⟩
abbrev c_Mod_isStage : ByteArray := prog_10_method_4_code
abbrev y_Mod_workOff : MethodName := ⟨"PromiseScopesModel", "workOff", "()V"⟩
abbrev c_Mod_workOff : ByteArray := prog_10_method_16_code
abbrev y_Mod_resolve : MethodName := ⟨"PromiseScopesModel", "resolve", "(I)V"⟩
abbrev c_Mod_resolve : ByteArray := prog_10_method_15_code
abbrev y_Mod_copy : MethodName := ⟨"PromiseScopesModel", "copy", "(II)V"⟩
abbrev c_Mod_copy : ByteArray := prog_10_method_11_code
abbrev y_Mod_give : MethodName := ⟨"PromiseScopesModel", "give", "(III)V"⟩
abbrev c_Mod_give : ByteArray := prog_10_method_9_code
abbrev y_Mod_one : MethodName := ⟨"PromiseScopesModel", "one", "(II)V"⟩
abbrev c_Mod_one : ByteArray := prog_10_method_13_code
abbrev y_Mod_apply : MethodName := ⟨"PromiseScopesModel", "apply", "(III)V"⟩
abbrev c_Mod_apply : ByteArray := prog_10_method_3_code
abbrev y_Mod_giveMade : MethodName := ⟨"PromiseScopesModel", "giveMade", "(I)V"⟩
abbrev c_Mod_giveMade : ByteArray := prog_10_method_10_code
abbrev y_Mod_all : MethodName := ⟨"PromiseScopesModel", "all", "(I)V"⟩
abbrev c_Mod_all : ByteArray := prog_10_method_14_code
abbrev y_Mod_earliest : MethodName := ⟨"PromiseScopesModel", "earliest", "(I)I"⟩
abbrev c_Mod_earliest : ByteArray := prog_10_method_12_code
abbrev y_Mod_both : MethodName := ⟨"PromiseScopesModel", "both", "(IIIIIZ)I"⟩
abbrev c_Mod_both : ByteArray := prog_10_method_20_code
abbrev y_Mod_several : MethodName := ⟨"PromiseScopesModel", "several", "(JI)I"⟩
abbrev c_Mod_several : ByteArray := prog_10_method_21_code
abbrev y_Mod_complete : MethodName := ⟨"PromiseScopesModel", "complete", "(II)Z"⟩
abbrev c_Mod_complete : ByteArray := prog_10_method_23_code
abbrev y_Mod_settle : MethodName := ⟨"PromiseScopesModel", "settle", "(III)Z"⟩
abbrev c_Mod_settle : ByteArray := prog_10_method_22_code
abbrev y_Mod_fail : MethodName := ⟨"PromiseScopesModel", "fail", "(II)Z"⟩
abbrev c_Mod_fail : ByteArray := prog_10_method_24_code
abbrev y_Mod_cancel : MethodName := ⟨"PromiseScopesModel", "cancel", "(I)Z"⟩
abbrev c_Mod_cancel : ByteArray := prog_10_method_25_code
abbrev y_Mod_work : MethodName := ⟨"PromiseScopesModel", "work", "(I)I"⟩
abbrev c_Mod_work : ByteArray := prog_10_method_26_code
abbrev y_Mod_join : MethodName := ⟨"PromiseScopesModel", "join", "(I)I"⟩
abbrev c_Mod_join : ByteArray := prog_10_method_27_code
abbrev y_Mod_stage : MethodName := ⟨"PromiseScopesModel", "stage", "(II)I"⟩
abbrev c_Mod_stage : ByteArray := prog_10_method_28_code
abbrev y_Mod_count : MethodName := ⟨"PromiseScopesModel", "count", "(I)I"⟩
abbrev c_Mod_count : ByteArray := prog_10_method_29_code
abbrev y_Mod_open : MethodName := ⟨"PromiseScopesModel", "open", "(III)I"⟩
abbrev c_Mod_open : ByteArray := prog_10_method_34_code
abbrev y_Mod_isOpen : MethodName := ⟨"PromiseScopesModel", "isOpen", "(I)Z"⟩
abbrev c_Mod_isOpen : ByteArray := prog_10_method_31_code
abbrev y_Mod_isScope : MethodName := ⟨"PromiseScopesModel", "isScope", "(I)Z"⟩
abbrev c_Mod_isScope : ByteArray := prog_10_method_30_code
abbrev y_Mod_bind : MethodName := ⟨"PromiseScopesModel", "bind", "(III)Z"⟩
abbrev c_Mod_bind : ByteArray := prog_10_method_35_code
abbrev y_Mod_bound : MethodName := ⟨"PromiseScopesModel", "bound", "(II)I"⟩
abbrev c_Mod_bound : ByteArray := prog_10_method_37_code
abbrev y_Mod_look : MethodName := ⟨"PromiseScopesModel", "look", "(II)I"⟩
abbrev c_Mod_look : ByteArray := prog_10_method_36_code
abbrev y_Mod_fork : MethodName := ⟨"PromiseScopesModel", "fork", "(IIII)I"⟩
abbrev c_Mod_fork : ByteArray := prog_10_method_38_code
abbrev y_Mod_joinScope : MethodName := ⟨"PromiseScopesModel", "joinScope", "(I)Z"⟩
abbrev c_Mod_joinScope : ByteArray := prog_10_method_43_code
abbrev y_Mod_below : MethodName := ⟨"PromiseScopesModel", "below", "(II)Z"⟩
abbrev c_Mod_below : ByteArray := prog_10_method_32_code
abbrev y_Mod_closeAll : MethodName := ⟨"PromiseScopesModel", "closeAll", "()V"⟩
abbrev c_Mod_closeAll : ByteArray := prog_10_method_42_code
abbrev y_Mod_running : MethodName := ⟨"PromiseScopesModel", "running", "(I)I"⟩
abbrev c_Mod_running : ByteArray := prog_10_method_39_code
abbrev y_Mod_conclude : MethodName := ⟨"PromiseScopesModel", "conclude", "(I)V"⟩
abbrev c_Mod_conclude : ByteArray := prog_10_method_41_code
abbrev y_Mod_cancelScope : MethodName := ⟨"PromiseScopesModel", "cancelScope", "(I)Z"⟩
abbrev c_Mod_cancelScope : ByteArray := prog_10_method_44_code
abbrev y_Mod_stop : MethodName := ⟨"PromiseScopesModel", "stop", "(I)V"⟩
abbrev c_Mod_stop : ByteArray := prog_10_method_40_code
abbrev y_Mod_tick : MethodName := ⟨"PromiseScopesModel", "tick", "(I)I"⟩
abbrev c_Mod_tick : ByteArray := prog_10_method_47_code
abbrev y_Mod_pass : MethodName := ⟨"PromiseScopesModel", "pass", "()I"⟩
abbrev c_Mod_pass : ByteArray := prog_10_method_46_code
abbrev y_Mod_effective : MethodName := ⟨"PromiseScopesModel", "effective", "(I)I"⟩
abbrev c_Mod_effective : ByteArray := prog_10_method_33_code
abbrev y_Mod_end : MethodName := ⟨"PromiseScopesModel", "end", "(I)V"⟩
abbrev c_Mod_end : ByteArray := prog_10_method_45_code
abbrev y_Mod_scope : MethodName := ⟨"PromiseScopesModel", "scope", "(II)I"⟩
abbrev c_Mod_scope : ByteArray := prog_10_method_48_code
abbrev y_Mod_task : MethodName := ⟨"PromiseScopesModel", "task", "(II)I"⟩
abbrev c_Mod_task : ByteArray := prog_10_method_49_code
def ps_NK : Nat := 17
def ps_e (adr : Nat → Nat → Nat) (r : Option (Nat × Nat)) : Option Nat := match r with
  | none => none
  | some q => some (adr q.1 q.2)
theorem ps_e_congr {adr adr' : Nat → Nat → Nat} {r : Option (Nat × Nat)} (h : ∀ x, r = some x → adr' x.1 x.2 = adr x.1 x.2) : ps_e adr' r = ps_e adr r := by
  cases r with
  | none => rfl
  | some q =>
    show some _ = some _
    rw [h q rfl]
def ps_F (ca : Nat → ClassId) (adr : Nat → Nat → Nat) (κ : Nat) (fI : Nat → Int32) (fJ : Nat → Int64) (fR : Nat → Option (Nat × Nat)) (len : Nat) : va_E := match κ with
  | 0 => .inr (0, [va_rf (ps_e adr (fR 0)), va_rf (ps_e adr (fR 1))])
  | 1 => .inr (1, [va_rf (ps_e adr (fR 0)), va_rf (ps_e adr (fR 1)), va_rf (ps_e adr (fR 2)), .int (fI 3), .int (fI 4)])
  | 2 => .inr (2, [va_rf (ps_e adr (fR 0)), .int (fI 1), .int (fI 2)])
  | 3 => .inr (3, [.int (fI 0), .int (fI 1), .int (fI 2), .int (fI 3), .int (fI 4), va_rf (ps_e adr (fR 5)), .int (fI 6), .int (fI 7), .int (fI 8), va_rf (ps_e adr (fR 9)), .int (fI 10)])
  | 4 => .inl (ca 4, len, .inr (.inr (.inr (.inr fun j => ps_e adr (fR j)))))
  | 5 => .inr (4, [.int (fI 0), va_rf (ps_e adr (fR 1)), .int (fI 2), .int (fI 3), va_rf (ps_e adr (fR 4)), va_rf (ps_e adr (fR 5)), va_rf (ps_e adr (fR 6)), .int (fI 7), .int (fI 8), .int (fI 9)])
  | 6 => .inr (5, [va_rf (ps_e adr (fR 0)), .int (fI 1), .int (fI 2), .int (fI 3), .int (fI 4), .int (fI 5), .int (fI 6), .int (fI 7), .int (fI 8)])
  | 7 => .inr (6, [va_rf (ps_e adr (fR 0)), va_rf (ps_e adr (fR 1)), .int (fI 2), .int (fI 3), .int (fI 4), .int (fI 5)])
  | 8 => .inl (ca 8, len, .inr (.inr (.inr (.inr fun j => ps_e adr (fR j)))))
  | 9 => .inl (ca 9, len, .inr (.inr (.inr (.inr fun j => ps_e adr (fR j)))))
  | 10 => .inl (ca 10, len, .inl fI)
  | 11 => .inl (ca 11, len, .inl fI)
  | 12 => .inl (ca 12, len, .inr (.inl fJ))
  | 13 => .inr (7, [.int (fI 0), .int (fI 1), va_rf (ps_e adr (fR 2)), va_rf (ps_e adr (fR 3)), va_rf (ps_e adr (fR 4)), .int (fI 5), va_rf (ps_e adr (fR 6)), va_rf (ps_e adr (fR 7)), va_rf (ps_e adr (fR 8)), va_rf (ps_e adr (fR 9)), va_rf (ps_e adr (fR 10)), va_rf (ps_e adr (fR 11)), va_rf (ps_e adr (fR 12)), va_rf (ps_e adr (fR 13)), va_rf (ps_e adr (fR 14)), .int (fI 15), .int (fI 16), va_rf (ps_e adr (fR 17)), .int (fI 18), va_rf (ps_e adr (fR 19)), .int (fI 20), .int (fI 21), .int (fI 22), va_rf (ps_e adr (fR 23)), va_rf (ps_e adr (fR 24)), va_rf (ps_e adr (fR 25)), va_rf (ps_e adr (fR 26)), va_rf (ps_e adr (fR 27)), va_rf (ps_e adr (fR 28)), va_rf (ps_e adr (fR 29)), va_rf (ps_e adr (fR 30)), va_rf (ps_e adr (fR 31)), va_rf (ps_e adr (fR 32)), va_rf (ps_e adr (fR 33)), .int (fI 34), .int (fI 35), va_rf (ps_e adr (fR 36)), va_rf (ps_e adr (fR 37)), va_rf (ps_e adr (fR 38)), va_rf (ps_e adr (fR 39)), va_rf (ps_e adr (fR 40)), va_rf (ps_e adr (fR 41)), va_rf (ps_e adr (fR 42)), va_rf (ps_e adr (fR 43))])
  | 14 => .inl (ca 14, len, .inl fI)
  | 15 => .inl (ca 15, len, .inl fI)
  | 16 => .inl (ca 16, len, .inr (.inl fJ))
  | _ => .inr (0, [])
set_option maxHeartbeats 4000000 in
theorem ps_F_congr (ca : Nat → ClassId) (adr adr' : Nat → Nat → Nat) (κ : Nat) (fI : Nat → Int32) (fJ : Nat → Int64) (fR : Nat → Option (Nat × Nat)) (len : Nat) (h : ∀ j x, fR j = some x → adr' x.1 x.2 = adr x.1 x.2) : ps_F ca adr' κ fI fJ fR len = ps_F ca adr κ fI fJ fR len := by
  have e : ∀ j, ps_e adr' (fR j) = ps_e adr (fR j) := fun j => ps_e_congr (h j)
  unfold ps_F
  split <;> first | rfl | simp only [e]
def ps_tys (ca : Nat → ClassId) : List (ClassId × FieldType) := [(ca 4, .object "PromiseScopes$Stage"), (ca 8, .object "PromiseScopes$Scope"), (ca 9, .object "PromiseScopes$Task"), (ca 10, .int), (ca 11, .boolean), (ca 12, .long), (ca 14, .int), (ca 15, .boolean), (ca 16, .long)]
end
section
/-! The store: all that the run has made, by kind and number: ints, longs, references, lengths, how many of each kind. -/
abbrev ps_A : Type := Int32 ⊕ (Int64 ⊕ Option (Nat × Nat))
abbrev ps_S : Type := (Nat → Nat → Nat → Int32) × (Nat → Nat → Nat → Int64) × (Nat → Nat → Nat → Option (Nat × Nat)) × (Nat → Nat → Nat) × (Nat → Nat)
abbrev ps_int (x : Int32) : ps_A := .inl x
abbrev ps_lng (x : Int64) : ps_A := .inr (.inl x)
abbrev ps_ref (r : Option (Nat × Nat)) : ps_A := .inr (.inr r)
def ps_I (σ : ps_S) : Nat → Nat → Nat → Int32 := σ.1
def ps_J (σ : ps_S) : Nat → Nat → Nat → Int64 := σ.2.1
def ps_R (σ : ps_S) : Nat → Nat → Nat → Option (Nat × Nat) := σ.2.2.1
def ps_L (σ : ps_S) : Nat → Nat → Nat := σ.2.2.2.1
def ps_N (σ : ps_S) : Nat → Nat := σ.2.2.2.2
def ps_up {α : Type} (f : Nat → Nat → Nat → α) (κ i j : Nat) (v : α) : Nat → Nat → Nat → α := fun a b => if a = κ ∧ b = i then va_up (f a b) j v else f a b
def ps_sI (σ : ps_S) (κ i j : Nat) (v : Int32) : ps_S := (ps_up σ.1 κ i j v, σ.2)
def ps_sJ (σ : ps_S) (κ i j : Nat) (v : Int64) : ps_S := (σ.1, ps_up σ.2.1 κ i j v, σ.2.2)
def ps_sR (σ : ps_S) (κ i j : Nat) (v : Option (Nat × Nat)) : ps_S := (σ.1, σ.2.1, ps_up σ.2.2.1 κ i j v, σ.2.2.2)
/-- one more of a kind: all its places 0 or null -/
def ps_mk (σ : ps_S) (κ len : Nat) : ps_S :=
  (fun a b => if a = κ ∧ b = ps_N σ κ then fun _ => 0 else σ.1 a b, fun a b => if a = κ ∧ b = ps_N σ κ then fun _ => 0 else σ.2.1 a b,
   fun a b => if a = κ ∧ b = ps_N σ κ then fun _ => none else σ.2.2.1 a b, fun a b => if a = κ ∧ b = ps_N σ κ then len else σ.2.2.2.1 a b, fun a => if a = κ then ps_N σ κ + 1 else σ.2.2.2.2 a)
theorem ps_up_self {α : Type} (f : Nat → Nat → Nat → α) (κ i j : Nat) (v : α) : ps_up f κ i j v κ i = va_up (f κ i) j v := by simp [ps_up]
theorem ps_up_ne {α : Type} (f : Nat → Nat → Nat → α) {κ i a b : Nat} (j : Nat) (v : α) (h : ¬ (a = κ ∧ b = i)) : ps_up f κ i j v a b = f a b := by simp only [ps_up]; rw [if_neg h]
def ps_v (adr : Nat → Nat → Nat) (a : ps_A) : Value := match a with
  | .inl x => .int x
  | .inr (.inl x) => .long x
  | .inr (.inr r) => va_rf (ps_e adr r)
def ps_ok (σ : ps_S) (a : ps_A) : Prop := match a with
  | .inr (.inr (some q)) => q.2 < ps_N σ q.1
  | _ => True
def ps_cat (a : ps_A) : Nat := match a with
  | .inr (.inl _) => 2
  | _ => 1
theorem ps_cat_v (adr : Nat → Nat → Nat) (a : ps_A) : (ps_v adr a).category = ps_cat a := by
  rcases a with x | x | r
  · rfl
  · rfl
  · cases r <;> rfl
def ps_cell (ca : Nat → ClassId) (adr : Nat → Nat → Nat) (σ : ps_S) (κ i : Nat) : va_E := ps_F ca adr κ (ps_I σ κ i) (ps_J σ κ i) (ps_R σ κ i) (ps_L σ κ i)
def ps_W (D : va_G) (ca : Nat → ClassId) (adr : Nat → Nat → Nat) (A : Nat → Prop) (σ : ps_S) (H : Heap) : Prop :=
  (∀ κ i, i < ps_N σ κ → κ < ps_NK ∧ va_at D ps_cl (adr κ i, ps_cell ca adr σ κ i) H ∧ A (adr κ i)) ∧
  (∀ κ i κ' i', i < ps_N σ κ → i' < ps_N σ κ' → adr κ i = adr κ' i' → κ = κ' ∧ i = i') ∧
  (∀ κ i j q, i < ps_N σ κ → ps_R σ κ i j = some q → q.2 < ps_N σ q.1)
def ps_idsK (N : Nat → Nat) : Nat → List (Nat × Nat)
  | 0 => []
  | k + 1 => ps_idsK N k ++ (List.range (N k)).map (fun i => (k, i))
theorem ps_idsK_mem (N : Nat → Nat) : ∀ (k : Nat) (q : Nat × Nat), q ∈ ps_idsK N k ↔ q.1 < k ∧ q.2 < N q.1
  | 0, q => by simp [ps_idsK]
  | k + 1, q => by
    rw [ps_idsK, List.mem_append, ps_idsK_mem N k q, List.mem_map]
    constructor
    · rintro (⟨h1, h2⟩ | ⟨i, hi, rfl⟩)
      · exact ⟨by omega, h2⟩
      · exact ⟨by show k < k + 1; omega, List.mem_range.mp hi⟩
    · rintro ⟨h1, h2⟩
      by_cases h : q.1 < k
      · exact Or.inl ⟨h, h2⟩
      · have hk : q.1 = k := by omega
        refine Or.inr ⟨q.2, List.mem_range.mpr (by rw [← hk]; exact h2), ?_⟩
        rw [← hk]
theorem ps_idsK_inj (N : Nat → Nat) : ∀ (k i j : Nat) (q : Nat × Nat), (ps_idsK N k)[i]? = some q → (ps_idsK N k)[j]? = some q → i = j
  | 0, i, j, q, h, _ => by simp [ps_idsK] at h
  | k + 1, i, j, q, h1, h2 => by
    rw [ps_idsK] at h1 h2
    have key : ∀ x : Nat, (ps_idsK N k ++ (List.range (N k)).map (fun i => (k, i)))[x]? = some q →
        (x < (ps_idsK N k).length ∧ (ps_idsK N k)[x]? = some q ∧ q.1 < k) ∨ ((ps_idsK N k).length ≤ x ∧ q = (k, x - (ps_idsK N k).length)) := by
      intro x hx
      by_cases hl : x < (ps_idsK N k).length
      · rw [List.getElem?_append_left hl] at hx
        exact Or.inl ⟨hl, hx, ((ps_idsK_mem N k q).mp (List.mem_of_getElem? hx)).1⟩
      · rw [List.getElem?_append_right (by omega), List.getElem?_map] at hx
        cases hy : (List.range (N k))[x - (ps_idsK N k).length]? with
        | none => rw [hy] at hx; cases hx
        | some z =>
          rw [hy] at hx
          have hz := (List.getElem?_eq_some_iff.mp hy).2
          rw [List.getElem_range] at hz
          have hq : (k, z) = q := Option.some.inj hx
          exact Or.inr ⟨by omega, by rw [← hq, ← hz]⟩
    rcases key i h1 with ⟨a1, a2, a3⟩ | ⟨a1, a2⟩ <;> rcases key j h2 with ⟨b1, b2, b3⟩ | ⟨b1, b2⟩
    · exact ps_idsK_inj N k i j q a2 b2
    · rw [b2] at a3; exact absurd a3 (by show ¬ k < k; omega)
    · rw [a2] at b3; exact absurd b3 (by show ¬ k < k; omega)
    · have e := (Prod.mk.inj (a2.symm.trans b2)).2
      omega
def ps_ws (ca : Nat → ClassId) (adr : Nat → Nat → Nat) (σ : ps_S) : va_W := (ps_idsK (ps_N σ) ps_NK).map (fun q => (adr q.1 q.2, ps_cell ca adr σ q.1 q.2))
theorem ps_ws_get {ca : Nat → ClassId} {adr : Nat → Nat → Nat} {σ : ps_S} {κ i : Nat} (hi : i < ps_N σ κ) (hκ : κ < ps_NK) : ∃ k : Nat, (ps_ws ca adr σ)[k]? = some (adr κ i, ps_cell ca adr σ κ i) :=
  List.getElem?_of_mem (List.mem_map.mpr ⟨(κ, i), (ps_idsK_mem _ _ _).mpr ⟨hκ, hi⟩, rfl⟩)
theorem ps_W.P {D : va_G} {ca : Nat → ClassId} {adr : Nat → Nat → Nat} {A : Nat → Prop} {σ : ps_S} {H : Heap} (h : ps_W D ca adr A σ H) : va_P D ps_cl (ps_ws ca adr σ) H := by
  intro k q hk
  obtain ⟨x, hx, rfl⟩ := List.mem_map.mp (List.mem_of_getElem? hk)
  exact (h.1 x.1 x.2 ((ps_idsK_mem _ _ _).mp hx).2).2.1
theorem ps_W.D {D : va_G} {ca : Nat → ClassId} {adr : Nat → Nat → Nat} {A : Nat → Prop} {σ : ps_S} {H : Heap} (h : ps_W D ca adr A σ H) : va_D A (ps_ws ca adr σ) := by
  refine ⟨fun i j x y hi hj hxy => ?_, fun k q hk => ?_⟩
  · rw [ps_ws, List.getElem?_map] at hi hj
    cases h1 : (ps_idsK (ps_N σ) ps_NK)[i]? with
    | none => rw [h1] at hi; cases hi
    | some a =>
      cases h2 : (ps_idsK (ps_N σ) ps_NK)[j]? with
      | none => rw [h2] at hj; cases hj
      | some b =>
        rw [h1] at hi
        rw [h2] at hj
        cases hi
        cases hj
        have m1 := ((ps_idsK_mem _ _ _).mp (List.mem_of_getElem? h1)).2
        have m2 := ((ps_idsK_mem _ _ _).mp (List.mem_of_getElem? h2)).2
        have e := h.2.1 a.1 a.2 b.1 b.2 m1 m2 hxy
        have hab : a = b := Prod.ext e.1 e.2
        subst hab
        exact ps_idsK_inj _ _ _ _ _ h1 h2
  · obtain ⟨x, hx, rfl⟩ := List.mem_map.mp (List.mem_of_getElem? hk)
    exact (h.1 x.1 x.2 ((ps_idsK_mem _ _ _).mp hx).2).2.2
theorem ps_W.set {D : va_G} {ca : Nat → ClassId} {adr : Nat → Nat → Nat} {A : Nat → Prop} {σ σ' : ps_S} {H H1 : Heap} {κ i k0 : Nat} {e0 : va_E} (h : ps_W D ca adr A σ H) (hi : i < ps_N σ κ)
    (hk0 : (ps_ws ca adr σ)[k0]? = some (adr κ i, e0)) (hP : va_P D ps_cl ((ps_ws ca adr σ).set k0 (adr κ i, ps_cell ca adr σ' κ i)) H1) (hN : ps_N σ' = ps_N σ)
    (ho : ∀ κ' i', ¬ (κ' = κ ∧ i' = i) → ps_cell ca adr σ' κ' i' = ps_cell ca adr σ κ' i') (hr : ∀ κ i j q, i < ps_N σ κ → ps_R σ' κ i j = some q → q.2 < ps_N σ q.1) : ps_W D ca adr A σ' H1 := by
  refine ⟨fun κ' i' hi' => ?_, fun a b a' b' h1 h2 h3 => h.2.1 a b a' b' (by rw [← hN]; exact h1) (by rw [← hN]; exact h2) h3, fun a b j q h1 h2 => ?_⟩
  · rw [hN] at hi'
    have hold := h.1 κ' i' hi'
    refine ⟨hold.1, ?_, hold.2.2⟩
    by_cases hc : κ' = κ ∧ i' = i
    · obtain ⟨rfl, rfl⟩ := hc
      exact hP k0 _ (List.getElem?_set_self (List.getElem?_eq_some_iff.mp hk0).1)
    · obtain ⟨k1, hk1⟩ := ps_ws_get (ca := ca) (adr := adr) hi' hold.1
      have hne : k0 ≠ k1 := by
        intro e
        subst e
        rw [hk0] at hk1
        have e1 := (Prod.mk.inj (Option.some.inj hk1)).1
        exact hc (h.2.1 κ' i' κ i hi' hi e1.symm)
      rw [ho κ' i' hc]
      exact hP k1 _ (by rw [List.getElem?_set_ne hne]; exact hk1)
  · rw [hN] at h1 ⊢
    exact hr a b j q h1 h2
/-- one more cell: the address q is new -/
theorem ps_W.push {D : va_G} {ca : Nat → ClassId} {adr : Nat → Nat → Nat} {A : Nat → Prop} {σ : ps_S} {H1 : Heap} {κ len q : Nat} {e : va_E} {H : Heap} (h : ps_W D ca adr A σ H) (hκ : κ < ps_NK)
    (hP : va_P D ps_cl (ps_ws ca adr σ ++ [(q, e)]) H1) (hD : va_D A (ps_ws ca adr σ ++ [(q, e)])) (he : ∀ adr', ps_F ca adr' κ (fun _ => 0) (fun _ => 0) (fun _ => none) len = e) :
    ps_W D ca (fun a b => if a = κ ∧ b = ps_N σ κ then q else adr a b) A (ps_mk σ κ len) H1 := by
  have hlast : (ps_ws ca adr σ ++ [(q, e)])[(ps_ws ca adr σ).length]? = some (q, e) := by rw [List.getElem?_append_right (Nat.le_refl _), Nat.sub_self]; rfl
  have hN : ∀ a b, b < ps_N (ps_mk σ κ len) a → ¬ (a = κ ∧ b = ps_N σ κ) → b < ps_N σ a := by
    intro a b hb hne
    have hb' : b < (if a = κ then ps_N σ κ + 1 else ps_N σ a) := hb
    by_cases ha : a = κ
    · subst ha
      rw [if_pos rfl] at hb'
      have : b ≠ ps_N σ a := fun z => hne ⟨rfl, z⟩
      omega
    · rw [if_neg ha] at hb'
      exact hb'
  have hup : ∀ a b, b < ps_N σ a → b < ps_N (ps_mk σ κ len) a := by
    intro a b hb
    show b < (if a = κ then ps_N σ κ + 1 else ps_N σ a)
    by_cases ha : a = κ
    · subst ha; rw [if_pos rfl]; omega
    · rw [if_neg ha]; exact hb
  have hlive : ∀ a b, b < ps_N σ a → ¬ (a = κ ∧ b = ps_N σ κ) := by
    rintro a b hb ⟨rfl, rfl⟩
    omega
  have hfresh : ∀ a b, b < ps_N σ a → adr a b ≠ q := by
    intro a b hb e9
    obtain ⟨k1, hk1⟩ := ps_ws_get (ca := ca) (adr := adr) hb (h.1 a b hb).1
    have hl1 := (List.getElem?_eq_some_iff.mp hk1).1
    have := hD.1 k1 (ps_ws ca adr σ).length _ _ (by rw [List.getElem?_append_left hl1]; exact hk1) hlast e9
    omega
  refine ⟨fun a b hb => ?_, fun a b a' b' h1 h2 h3 => ?_, fun a b j q' h1 h2 => ?_⟩
  · by_cases hc : a = κ ∧ b = ps_N σ κ
    · obtain ⟨rfl, rfl⟩ := hc
      have e1 : ps_cell ca (fun a' b' => if a' = a ∧ b' = ps_N σ a then q else adr a' b') (ps_mk σ a len) a (ps_N σ a) = e := by
        rw [← he (fun a' b' => if a' = a ∧ b' = ps_N σ a then q else adr a' b')]
        simp [ps_cell, ps_mk, ps_I, ps_J, ps_R, ps_L]
      refine ⟨hκ, ?_, ?_⟩
      · rw [e1]
        have := hP _ _ hlast
        simpa using this
      · have := hD.2 _ _ hlast
        simpa using this
    · have hb' := hN a b hb hc
      have hold := h.1 a b hb'
      refine ⟨hold.1, ?_, ?_⟩
      · obtain ⟨k1, hk1⟩ := ps_ws_get (ca := ca) (adr := adr) hb' hold.1
        have hl1 := (List.getElem?_eq_some_iff.mp hk1).1
        have h5 := hP k1 _ (by rw [List.getElem?_append_left hl1]; exact hk1)
        have e2 : ps_cell ca (fun a' b' => if a' = κ ∧ b' = ps_N σ κ then q else adr a' b') (ps_mk σ κ len) a b = ps_cell ca adr σ a b := by
          have r1 : ps_I (ps_mk σ κ len) a b = ps_I σ a b := by simp only [ps_mk, ps_I]; rw [if_neg hc]
          have r2 : ps_J (ps_mk σ κ len) a b = ps_J σ a b := by simp only [ps_mk, ps_J]; rw [if_neg hc]
          have r3 : ps_R (ps_mk σ κ len) a b = ps_R σ a b := by simp only [ps_mk, ps_R]; rw [if_neg hc]
          have r4 : ps_L (ps_mk σ κ len) a b = ps_L σ a b := by simp only [ps_mk, ps_L]; rw [if_neg hc]
          unfold ps_cell
          rw [r1, r2, r3, r4]
          refine ps_F_congr _ _ _ _ _ _ _ _ (fun j x hx => ?_)
          exact if_neg (hlive _ _ (h.2.2 a b j x hb' hx))
        show va_at D ps_cl ((if a = κ ∧ b = ps_N σ κ then q else adr a b), _) H1
        rw [if_neg hc, e2]
        exact h5
      · show A (if a = κ ∧ b = ps_N σ κ then q else adr a b)
        rw [if_neg hc]
        exact hold.2.2
  · have h3' : (if a = κ ∧ b = ps_N σ κ then q else adr a b) = (if a' = κ ∧ b' = ps_N σ κ then q else adr a' b') := h3
    by_cases c1 : a = κ ∧ b = ps_N σ κ <;> by_cases c2 : a' = κ ∧ b' = ps_N σ κ
    · exact ⟨c1.1.trans c2.1.symm, c1.2.trans c2.2.symm⟩
    · rw [if_pos c1, if_neg c2] at h3'
      exact absurd h3'.symm (hfresh a' b' (hN a' b' h2 c2))
    · rw [if_neg c1, if_pos c2] at h3'
      exact absurd h3' (hfresh a b (hN a b h1 c1))
    · rw [if_neg c1, if_neg c2] at h3'
      exact h.2.1 a b a' b' (hN a b h1 c1) (hN a' b' h2 c2) h3'
  · by_cases hc : a = κ ∧ b = ps_N σ κ
    · have : ps_R (ps_mk σ κ len) a b = fun _ => none := by simp only [ps_mk, ps_R]; rw [if_pos hc]
      rw [this] at h2
      cases h2
    · have : ps_R (ps_mk σ κ len) a b = ps_R σ a b := by simp only [ps_mk, ps_R]; rw [if_neg hc]
      rw [this] at h2
      exact hup _ _ (h.2.2 a b j q' (hN a b h1 hc) h2)

/-! the tables' words that stay, whatever is resolved later -/
def ps_good : Cond → Bool
  | .arrayClass _ => true
  | .fieldLinkNest .. => true
  | .methodLinkNest .. => true
  | .arrayOver (.object _) => true
  | w => w.onTables && w.keeps
def ps_T : List Cond := lw_tbl.filter ps_good
theorem ps_in {w : Cond} (h : w ∈ lw_tbl) (hg : ps_good w = true) : w ∈ ps_T := List.mem_filter.mpr ⟨h, hg⟩
set_option maxHeartbeats 4000000 in
theorem ps_warm {w : Cond} (hg : ps_good w = true) {A A' : Array Value} {u U : State} (hW : u.WarmedH U.vm) (h : w.before A u = true) : w.before A' U = true := by
  cases w with
  | arrayClass ty => exact word_at hW (Or.inr ⟨ty, rfl⟩) h
  | fieldLinkNest a i b n d h' => exact va_Nw.use rfl (va_Nw.warmF hW (va_Nw.of rfl h))
  | methodLinkNest a i x h' => exact va_Nw.use rfl (va_Nw.warmM hW (va_Nw.of rfl h))
  | arrayOver ty =>
    cases ty with
    | object C => exact va_AO.use (va_AO.moved hW.alike (va_AO.of h))
    | _ => exact word_at hW (Or.inl hg) h
  | _ => exact word_at hW (Or.inl hg) h
def ps_G (D : va_G) (ca : Nat → ClassId) (U : State) : Prop := (∀ w ∈ ps_T, w.before #[] U = true) ∧ va_K D ps_cl (ps_tys ca) U
theorem ps_G.warm {D : va_G} {ca : Nat → ClassId} {u U : State} (h : ps_G D ca u) (hW : u.WarmedH U.vm) : ps_G D ca U := ⟨fun w hw => ps_warm (List.mem_filter.mp hw).2 hW (h.1 w hw), va_K.moved hW.alike h.2⟩
theorem ps_G.words {D : va_G} {ca : Nat → ClassId} {s : State} (h : ps_G D ca s) (args : Array Value) : ∀ w ∈ ps_T, w.before args s = true := fun w hw => ps_warm (List.mem_filter.mp hw).2 (State.WarmedH.refl s) (h.1 w hw)
def ps_E (p : Program) (s : State) (m : MethodId) (c : Code) (cc : ByteArray) (nL : Nat) (own : String) (D : va_G) (ca : Nat → ClassId) : Prop :=
  p.tables.exec = Jvm.exec ∧ c.code = cc ∧ c.maxLocals = nL ∧ s.vm.findClass own = some m.cls ∧ ps_G D ca s
def ps_B (D : va_G) (ca : Nat → ClassId) (A : Nat → Prop) (H0 : Heap) (adr0 : Nat → Nat → Nat) (σ0 : ps_S) (adr : Nat → Nat → Nat) (σ : ps_S) (H : Heap) (locs : List Loc) : Prop :=
  ps_W D ca adr A σ H ∧ va_S A H0 H locs ∧ (∀ q, H0.size ≤ q → A q) ∧ (∀ κ i, i < ps_N σ0 κ → adr κ i = adr0 κ i) ∧ ∀ κ, ps_N σ0 κ ≤ ps_N σ κ
/-- from every heap that holds the store σ, the frame with these locals and this stack, by kind and number, comes to a state with Q -/
def ps_V (p : Program) (l : Launch) (e : Env) (R : Room) (s : State) (m : MethodId) (args : Array Value) (below : List Frame) (meth : Method) (c : Code) (nL : Nat) (D : va_G) (ca : Nat → ClassId) (A : Nat → Prop) (H0 : Heap) (adr0 : Nat → Nat → Nat) (σ0 : ps_S) (Q : State → Prop)
    (pc : Nat) (L : List (Nat × ps_A)) (st : List ps_A) (σ : ps_S) (ce sl : Nat) : Prop :=
  ∀ (adr : Nat → Nat → Nat) (H : Heap) (locs : List Loc) (ls : Array Slot), ps_B D ca A H0 adr0 σ0 adr σ H locs → (∀ a ∈ st, ps_ok σ a) → (∀ q ∈ L, ps_ok σ q.2) → lv_has ls nL (L.map fun q => (q.1, ps_v adr q.2)) →
    W p l e R s m args below meth c H locs ce sl Q (F0 m pc ls (st.map (ps_v adr)))
theorem ps_lookup {L : List (Nat × ps_A)} {i : Nat} {a : ps_A} (h : L.lookup i = some a) : (i, a) ∈ L := by
  induction L with
  | nil => cases h
  | cons q L ih =>
    obtain ⟨j, b⟩ := q
    rw [List.lookup_cons] at h
    by_cases hij : i = j
    · subst hij
      simp at h
      subst h
      exact List.mem_cons_self
    · have hb : (i == j) = false := by simpa using hij
      rw [hb] at h
      exact List.mem_cons_of_mem _ (ih h)
theorem ps_lk {ls : Array Slot} {nL : Nat} {adr : Nat → Nat → Nat} {L : List (Nat × ps_A)} {i : Nat} {a : ps_A} (h : lv_has ls nL (L.map fun q => (q.1, ps_v adr q.2))) (hl : L.lookup i = some a) : ls[i]? = some (.val (ps_v adr a)) :=
  h.2.2 (i, ps_v adr a) (List.mem_map.mpr ⟨(i, a), ps_lookup hl, rfl⟩)
def ps_ls (L : List (Nat × ps_A)) (i : Nat) (a : ps_A) : List (Nat × ps_A) := (i, a) :: L.filter (fun q => !(q.1 == i) && !(q.1 + 1 == i && ps_cat q.2 == 2))
def ps_ls2 (L : List (Nat × ps_A)) (i : Nat) (a : ps_A) : List (Nat × ps_A) := (i, a) :: L.filter (fun q => !(q.1 == i) && (!(q.1 == i + 1) && !(q.1 + 1 == i && ps_cat q.2 == 2)))
theorem ps_ls_map (adr : Nat → Nat → Nat) (L : List (Nat × ps_A)) (i : Nat) (a : ps_A) : (i, ps_v adr a) :: (L.map fun q => (q.1, ps_v adr q.2)).filter (fun q => !(q.1 == i) && !(q.1 + 1 == i && q.2.category == 2)) = (ps_ls L i a).map fun q => (q.1, ps_v adr q.2) := by
  simp only [ps_ls, List.map_cons, List.filter_map, Function.comp_def, ps_cat_v]
theorem ps_ls2_map (adr : Nat → Nat → Nat) (L : List (Nat × ps_A)) (i : Nat) (a : ps_A) : (i, ps_v adr a) :: (L.map fun q => (q.1, ps_v adr q.2)).filter (fun q => !(q.1 == i) && (!(q.1 == i + 1) && !(q.1 + 1 == i && q.2.category == 2))) = (ps_ls2 L i a).map fun q => (q.1, ps_v adr q.2) := by
  simp only [ps_ls2, List.map_cons, List.filter_map, Function.comp_def, ps_cat_v]
theorem ps_ls_ok {σ : ps_S} {L : List (Nat × ps_A)} {i : Nat} {a : ps_A} (h : ∀ q ∈ L, ps_ok σ q.2) (ha : ps_ok σ a) : ∀ q ∈ ps_ls L i a, ps_ok σ q.2 := by
  intro q hq
  rcases List.mem_cons.mp hq with rfl | hq
  · exact ha
  · exact h q (List.mem_filter.mp hq).1
theorem ps_ls2_ok {σ : ps_S} {L : List (Nat × ps_A)} {i : Nat} {a : ps_A} (h : ∀ q ∈ L, ps_ok σ q.2) (ha : ps_ok σ a) : ∀ q ∈ ps_ls2 L i a, ps_ok σ q.2 := by
  intro q hq
  rcases List.mem_cons.mp hq with rfl | hq
  · exact ha
  · exact h q (List.mem_filter.mp hq).1
theorem ps_hd {σ : ps_S} {a : ps_A} {st : List ps_A} (h : ∀ b ∈ a :: st, ps_ok σ b) : ps_ok σ a := h a List.mem_cons_self
theorem ps_tl {σ : ps_S} {a : ps_A} {st : List ps_A} (h : ∀ b ∈ a :: st, ps_ok σ b) : ∀ b ∈ st, ps_ok σ b := fun b hb => h b (List.mem_cons_of_mem _ hb)
theorem ps_cn {σ : ps_S} {a : ps_A} {st : List ps_A} (ha : ps_ok σ a) (h : ∀ b ∈ st, ps_ok σ b) : ∀ b ∈ a :: st, ps_ok σ b := List.forall_mem_cons.mpr ⟨ha, h⟩
theorem ps_okR {D : va_G} {ca : Nat → ClassId} {adr : Nat → Nat → Nat} {A : Nat → Prop} {σ : ps_S} {H : Heap} (h : ps_W D ca adr A σ H) {κ i : Nat} (hi : i < ps_N σ κ) (j : Nat) : ps_ok σ (ps_ref (ps_R σ κ i j)) := by
  cases hr : ps_R σ κ i j with
  | none => trivial
  | some q => exact h.2.2 κ i j q hi hr
end
section
section PSV
variable {p : Program} {l : Launch} {e : Env} {R : Room} {s : State} {m : MethodId} {args : Array Value} {below : List Frame} {meth : Method} {c : Code} {nL : Nat} {D : va_G} {ca : Nat → ClassId} {A : Nat → Prop} {H0 : Heap} {adr0 : Nat → Nat → Nat} {σ0 : ps_S} {Q : State → Prop}
variable {cc : ByteArray} {own : String} {pc : Nat} {L : List (Nat × ps_A)} {st : List ps_A} {σ : ps_S} {ce sl : Nat}
theorem pv_iconst (E : ps_E p s m c cc nL own D ca) {n : Int} {v : Int32} (hd : decode cc pc = .ok (.iconst n, 1)) (hv : Int32.ofInt n = v)
    (kk : ps_V p l e R s m args below meth c nL D ca A H0 adr0 σ0 Q (pc + 1) L (ps_int v :: st) σ ce sl) : ps_V p l e R s m args below meth c nL D ca A H0 adr0 σ0 Q pc L st σ ce sl :=
  fun adr H locs ls hB hs hL hls => lv_iconst E.1 E.2.1 hd hv (kk adr H locs ls hB (ps_cn trivial hs) hL hls)
theorem pv_bipush (E : ps_E p s m c cc nL own D ca) {n : Int} {v : Int32} (hd : decode cc pc = .ok (.bipush n, 2)) (hv : (Int8.ofInt n).toInt32 = v)
    (kk : ps_V p l e R s m args below meth c nL D ca A H0 adr0 σ0 Q (pc + 2) L (ps_int v :: st) σ ce sl) : ps_V p l e R s m args below meth c nL D ca A H0 adr0 σ0 Q pc L st σ ce sl :=
  fun adr H locs ls hB hs hL hls => lv_bipush E.1 E.2.1 hd hv (kk adr H locs ls hB (ps_cn trivial hs) hL hls)
theorem pv_sipush (E : ps_E p s m c cc nL own D ca) {n : Int} {v : Int32} (hd : decode cc pc = .ok (.sipush n, 3)) (hv : (Int16.ofInt n).toInt32 = v)
    (kk : ps_V p l e R s m args below meth c nL D ca A H0 adr0 σ0 Q (pc + 3) L (ps_int v :: st) σ ce sl) : ps_V p l e R s m args below meth c nL D ca A H0 adr0 σ0 Q pc L st σ ce sl :=
  fun adr H locs ls hB hs hL hls => lv_sipush E.1 E.2.1 hd hv (kk adr H locs ls hB (ps_cn trivial hs) hL hls)
theorem pv_lconst (E : ps_E p s m c cc nL own D ca) {n : Fin 2} {v : Int64} (hd : decode cc pc = .ok (.lconst n, 1)) (hv : Int64.ofNat (n : Nat) = v)
    (kk : ps_V p l e R s m args below meth c nL D ca A H0 adr0 σ0 Q (pc + 1) L (ps_lng v :: st) σ ce sl) : ps_V p l e R s m args below meth c nL D ca A H0 adr0 σ0 Q pc L st σ ce sl :=
  fun adr H locs ls hB hs hL hls => lv_lconst E.1 E.2.1 hd hv (kk adr H locs ls hB (ps_cn trivial hs) hL hls)
theorem pv_null (E : ps_E p s m c cc nL own D ca) (hd : decode cc pc = .ok (.aconst_null, 1))
    (kk : ps_V p l e R s m args below meth c nL D ca A H0 adr0 σ0 Q (pc + 1) L (ps_ref none :: st) σ ce sl) : ps_V p l e R s m args below meth c nL D ca A H0 adr0 σ0 Q pc L st σ ce sl :=
  fun adr H locs ls hB hs hL hls => lv_null E.1 E.2.1 hd (kk adr H locs ls hB (ps_cn trivial hs) hL hls)
theorem pv_ldc (E : ps_E p s m c cc nL own D ca) {index : Nat} {v : Int32} (hw : Cond.constant own index v ∈ ps_T) (hd : decode cc pc = .ok (.ldc index, 2))
    (kk : ps_V p l e R s m args below meth c nL D ca A H0 adr0 σ0 Q (pc + 2) L (ps_int v :: st) σ ce sl) : ps_V p l e R s m args below meth c nL D ca A H0 adr0 σ0 Q pc L st σ ce sl :=
  fun adr H locs ls hB hs hL hls => lv_ldc E.1 E.2.1 E.2.2.2.1 (E.2.2.2.2.words args _ hw) hd (kk adr H locs ls hB (ps_cn trivial hs) hL hls)
theorem pv_ldc2 (E : ps_E p s m c cc nL own D ca) {index : Nat} {v : Int64} (hw : Cond.constantLong own index v ∈ ps_T) (hd : decode cc pc = .ok (.ldc2_w index, 3))
    (kk : ps_V p l e R s m args below meth c nL D ca A H0 adr0 σ0 Q (pc + 3) L (ps_lng v :: st) σ ce sl) : ps_V p l e R s m args below meth c nL D ca A H0 adr0 σ0 Q pc L st σ ce sl :=
  fun adr H locs ls hB hs hL hls => lv_ldc2 E.1 E.2.1 E.2.2.2.1 (E.2.2.2.2.words args _ hw) hd (kk adr H locs ls hB (ps_cn trivial hs) hL hls)
theorem pv_iload_n (E : ps_E p s m c cc nL own D ca) {k : Fin 4} {i : Nat} {x : Int32} (hd : decode cc pc = .ok (.iload_n k, 1)) (hi : (k : Nat) = i) (hl : L.lookup i = some (ps_int x))
    (kk : ps_V p l e R s m args below meth c nL D ca A H0 adr0 σ0 Q (pc + 1) L (ps_int x :: st) σ ce sl) : ps_V p l e R s m args below meth c nL D ca A H0 adr0 σ0 Q pc L st σ ce sl :=
  fun adr H locs ls hB hs hL hls => lv_iload_n E.1 E.2.1 hd hi (ps_lk hls hl) (kk adr H locs ls hB (ps_cn trivial hs) hL hls)
theorem pv_iload (E : ps_E p s m c cc nL own D ca) {i : Nat} {x : Int32} (hd : decode cc pc = .ok (.iload i, 2)) (hl : L.lookup i = some (ps_int x))
    (kk : ps_V p l e R s m args below meth c nL D ca A H0 adr0 σ0 Q (pc + 2) L (ps_int x :: st) σ ce sl) : ps_V p l e R s m args below meth c nL D ca A H0 adr0 σ0 Q pc L st σ ce sl :=
  fun adr H locs ls hB hs hL hls => lv_iload E.1 E.2.1 hd (ps_lk hls hl) (kk adr H locs ls hB (ps_cn trivial hs) hL hls)
theorem pv_lload_n (E : ps_E p s m c cc nL own D ca) {k : Fin 4} {i : Nat} {x : Int64} (hd : decode cc pc = .ok (.lload_n k, 1)) (hi : (k : Nat) = i) (hl : L.lookup i = some (ps_lng x))
    (kk : ps_V p l e R s m args below meth c nL D ca A H0 adr0 σ0 Q (pc + 1) L (ps_lng x :: st) σ ce sl) : ps_V p l e R s m args below meth c nL D ca A H0 adr0 σ0 Q pc L st σ ce sl :=
  fun adr H locs ls hB hs hL hls => lv_lload_n E.1 E.2.1 hd hi (ps_lk hls hl) (kk adr H locs ls hB (ps_cn trivial hs) hL hls)
theorem pv_lload (E : ps_E p s m c cc nL own D ca) {i : Nat} {x : Int64} (hd : decode cc pc = .ok (.lload i, 2)) (hl : L.lookup i = some (ps_lng x))
    (kk : ps_V p l e R s m args below meth c nL D ca A H0 adr0 σ0 Q (pc + 2) L (ps_lng x :: st) σ ce sl) : ps_V p l e R s m args below meth c nL D ca A H0 adr0 σ0 Q pc L st σ ce sl :=
  fun adr H locs ls hB hs hL hls => lv_lload E.1 E.2.1 hd (ps_lk hls hl) (kk adr H locs ls hB (ps_cn trivial hs) hL hls)
theorem pv_aload_n (E : ps_E p s m c cc nL own D ca) {k : Fin 4} {i : Nat} {r : Option (Nat × Nat)} (hd : decode cc pc = .ok (.aload_n k, 1)) (hi : (k : Nat) = i) (hl : L.lookup i = some (ps_ref r))
    (kk : ps_V p l e R s m args below meth c nL D ca A H0 adr0 σ0 Q (pc + 1) L (ps_ref r :: st) σ ce sl) : ps_V p l e R s m args below meth c nL D ca A H0 adr0 σ0 Q pc L st σ ce sl :=
  by
  intro adr H locs ls hB hs hL hls
  have h1 := ps_lk hls hl
  have h2 := kk adr H locs ls hB (ps_cn (hL _ (ps_lookup hl)) hs) hL hls
  cases r with
  | none => exact lv_aload_nN E.1 E.2.1 hd hi h1 h2
  | some q => exact lv_aload_n E.1 E.2.1 hd hi h1 h2
theorem pv_aload (E : ps_E p s m c cc nL own D ca) {i : Nat} {r : Option (Nat × Nat)} (hd : decode cc pc = .ok (.aload i, 2)) (hl : L.lookup i = some (ps_ref r))
    (kk : ps_V p l e R s m args below meth c nL D ca A H0 adr0 σ0 Q (pc + 2) L (ps_ref r :: st) σ ce sl) : ps_V p l e R s m args below meth c nL D ca A H0 adr0 σ0 Q pc L st σ ce sl :=
  by
  intro adr H locs ls hB hs hL hls
  have h1 := ps_lk hls hl
  have h2 := kk adr H locs ls hB (ps_cn (hL _ (ps_lookup hl)) hs) hL hls
  cases r with
  | none => exact lv_aloadN E.1 E.2.1 hd h1 h2
  | some q => exact lv_aload E.1 E.2.1 hd h1 h2
theorem pv_istore_n (E : ps_E p s m c cc nL own D ca) {k : Fin 4} {i : Nat} {x : Int32} (hd : decode cc pc = .ok (.istore_n k, 1)) (hi : (k : Nat) = i) (hn : i < nL)
    (kk : ps_V p l e R s m args below meth c nL D ca A H0 adr0 σ0 Q (pc + 1) (ps_ls L i (ps_int x)) st σ ce sl) : ps_V p l e R s m args below meth c nL D ca A H0 adr0 σ0 Q pc L (ps_int x :: st) σ ce sl :=
  fun adr H locs ls hB hs hL hls => lv_istore_n E.1 E.2.1 hd hi hls hn (ps_ls_map adr L i (ps_int x)) (fun ls' h' => kk adr H locs ls' hB (ps_tl hs) (ps_ls_ok hL trivial) h')
theorem pv_lstore_n (E : ps_E p s m c cc nL own D ca) {k : Fin 4} {i : Nat} {x : Int64} (hd : decode cc pc = .ok (.lstore_n k, 1)) (hi : (k : Nat) = i) (hn : i + 1 < nL)
    (kk : ps_V p l e R s m args below meth c nL D ca A H0 adr0 σ0 Q (pc + 1) (ps_ls2 L i (ps_lng x)) st σ ce sl) : ps_V p l e R s m args below meth c nL D ca A H0 adr0 σ0 Q pc L (ps_lng x :: st) σ ce sl :=
  fun adr H locs ls hB hs hL hls => lv_lstore_n E.1 E.2.1 hd hi hls hn (ps_ls2_map adr L i (ps_lng x)) (fun ls' h' => kk adr H locs ls' hB (ps_tl hs) (ps_ls2_ok hL trivial) h')
theorem pv_astore_n (E : ps_E p s m c cc nL own D ca) {k : Fin 4} {i : Nat} {r : Option (Nat × Nat)} (hd : decode cc pc = .ok (.astore_n k, 1)) (hi : (k : Nat) = i) (hn : i < nL)
    (kk : ps_V p l e R s m args below meth c nL D ca A H0 adr0 σ0 Q (pc + 1) (ps_ls L i (ps_ref r)) st σ ce sl) : ps_V p l e R s m args below meth c nL D ca A H0 adr0 σ0 Q pc L (ps_ref r :: st) σ ce sl :=
  by
  intro adr H locs ls hB hs hL hls
  have h2 := fun ls' h' => kk adr H locs ls' hB (ps_tl hs) (ps_ls_ok hL (ps_hd hs)) h'
  cases r with
  | none => exact lv_astore_nN E.1 E.2.1 hd hi hls hn (ps_ls_map adr L i (ps_ref none)) h2
  | some q => exact lv_astore_n E.1 E.2.1 hd hi hls hn (ps_ls_map adr L i (ps_ref (some q))) h2
theorem pv_istore (E : ps_E p s m c cc nL own D ca) {i : Nat} {x : Int32} (hd : decode cc pc = .ok (.istore i, 2)) (hn : i < nL)
    (kk : ps_V p l e R s m args below meth c nL D ca A H0 adr0 σ0 Q (pc + 2) (ps_ls L i (ps_int x)) st σ ce sl) : ps_V p l e R s m args below meth c nL D ca A H0 adr0 σ0 Q pc L (ps_int x :: st) σ ce sl :=
  fun adr H locs ls hB hs hL hls => lv_istore E.1 E.2.1 hd hls hn (ps_ls_map adr L i (ps_int x)) (fun ls' h' => kk adr H locs ls' hB (ps_tl hs) (ps_ls_ok hL trivial) h')
theorem pv_lstore (E : ps_E p s m c cc nL own D ca) {i : Nat} {x : Int64} (hd : decode cc pc = .ok (.lstore i, 2)) (hn : i + 1 < nL)
    (kk : ps_V p l e R s m args below meth c nL D ca A H0 adr0 σ0 Q (pc + 2) (ps_ls2 L i (ps_lng x)) st σ ce sl) : ps_V p l e R s m args below meth c nL D ca A H0 adr0 σ0 Q pc L (ps_lng x :: st) σ ce sl :=
  fun adr H locs ls hB hs hL hls => lv_lstore E.1 E.2.1 hd hls hn (ps_ls2_map adr L i (ps_lng x)) (fun ls' h' => kk adr H locs ls' hB (ps_tl hs) (ps_ls2_ok hL trivial) h')
theorem pv_astore (E : ps_E p s m c cc nL own D ca) {i : Nat} {r : Option (Nat × Nat)} (hd : decode cc pc = .ok (.astore i, 2)) (hn : i < nL)
    (kk : ps_V p l e R s m args below meth c nL D ca A H0 adr0 σ0 Q (pc + 2) (ps_ls L i (ps_ref r)) st σ ce sl) : ps_V p l e R s m args below meth c nL D ca A H0 adr0 σ0 Q pc L (ps_ref r :: st) σ ce sl :=
  by
  intro adr H locs ls hB hs hL hls
  have h2 := fun ls' h' => kk adr H locs ls' hB (ps_tl hs) (ps_ls_ok hL (ps_hd hs)) h'
  cases r with
  | none => exact lv_astoreN E.1 E.2.1 hd hls hn (ps_ls_map adr L i (ps_ref none)) h2
  | some q => exact lv_astore E.1 E.2.1 hd hls hn (ps_ls_map adr L i (ps_ref (some q))) h2
theorem pv_iinc (E : ps_E p s m c cc nL own D ca) {i : Nat} {n : Int} {x v : Int32} (hd : decode cc pc = .ok (.iinc i n, 3)) (hl : L.lookup i = some (ps_int x)) (hv : x + Int32.ofInt n = v) (hn : i < nL)
    (kk : ps_V p l e R s m args below meth c nL D ca A H0 adr0 σ0 Q (pc + 3) (ps_ls L i (ps_int v)) st σ ce sl) : ps_V p l e R s m args below meth c nL D ca A H0 adr0 σ0 Q pc L st σ ce sl :=
  by
  intro adr H locs ls hB hs hL hls
  obtain ⟨k, hk⟩ := List.getElem?_of_mem (List.mem_map.mpr ⟨(i, ps_int x), ps_lookup hl, rfl⟩ : (i, Value.int x) ∈ L.map fun q => (q.1, ps_v adr q.2))
  exact lv_iinc E.1 E.2.1 hd hls hk hv hn (ps_ls_map adr L i (ps_int v)) (fun ls' h' => kk adr H locs ls' hB hs (ps_ls_ok hL trivial) h')
theorem pv_inc1 (E : ps_E p s m c cc nL own D ca) {i : Nat} {x : Int32} (hd : decode cc pc = .ok (.iinc i 1, 3)) (hl : L.lookup i = some (ps_int x)) (hn : i < nL)
    (kk : ps_V p l e R s m args below meth c nL D ca A H0 adr0 σ0 Q (pc + 3) (ps_ls L i (ps_int (x + 1))) st σ ce sl) : ps_V p l e R s m args below meth c nL D ca A H0 adr0 σ0 Q pc L st σ ce sl :=
  pv_iinc E hd hl rfl hn kk
theorem pv_incm1 (E : ps_E p s m c cc nL own D ca) {i : Nat} {x : Int32} (hd : decode cc pc = .ok (.iinc i (-1), 3)) (hl : L.lookup i = some (ps_int x)) (hn : i < nL)
    (kk : ps_V p l e R s m args below meth c nL D ca A H0 adr0 σ0 Q (pc + 3) (ps_ls L i (ps_int (x - 1))) st σ ce sl) : ps_V p l e R s m args below meth c nL D ca A H0 adr0 σ0 Q pc L st σ ce sl :=
  pv_iinc E hd hl (by rw [Int32.sub_eq_add_neg]; rfl) hn kk
theorem pv_inc7 (E : ps_E p s m c cc nL own D ca) {i : Nat} {x : Int32} (hd : decode cc pc = .ok (.iinc i 7, 3)) (hl : L.lookup i = some (ps_int x)) (hn : i < nL)
    (kk : ps_V p l e R s m args below meth c nL D ca A H0 adr0 σ0 Q (pc + 3) (ps_ls L i (ps_int (x + 7))) st σ ce sl) : ps_V p l e R s m args below meth c nL D ca A H0 adr0 σ0 Q pc L st σ ce sl :=
  pv_iinc E hd hl rfl hn kk
theorem pv_iadd (E : ps_E p s m c cc nL own D ca) {x y : Int32} (hd : decode cc pc = .ok (.iadd, 1))
    (kk : ps_V p l e R s m args below meth c nL D ca A H0 adr0 σ0 Q (pc + 1) L (ps_int (x + y) :: st) σ ce sl) : ps_V p l e R s m args below meth c nL D ca A H0 adr0 σ0 Q pc L (ps_int y :: ps_int x :: st) σ ce sl :=
  fun adr H locs ls hB hs hL hls => lv_iadd E.1 E.2.1 hd (kk adr H locs ls hB (ps_cn trivial (ps_tl (ps_tl hs))) hL hls)
theorem pv_isub (E : ps_E p s m c cc nL own D ca) {x y : Int32} (hd : decode cc pc = .ok (.isub, 1))
    (kk : ps_V p l e R s m args below meth c nL D ca A H0 adr0 σ0 Q (pc + 1) L (ps_int (x - y) :: st) σ ce sl) : ps_V p l e R s m args below meth c nL D ca A H0 adr0 σ0 Q pc L (ps_int y :: ps_int x :: st) σ ce sl :=
  fun adr H locs ls hB hs hL hls => lv_isub E.1 E.2.1 hd (kk adr H locs ls hB (ps_cn trivial (ps_tl (ps_tl hs))) hL hls)
theorem pv_imul (E : ps_E p s m c cc nL own D ca) {x y : Int32} (hd : decode cc pc = .ok (.imul, 1))
    (kk : ps_V p l e R s m args below meth c nL D ca A H0 adr0 σ0 Q (pc + 1) L (ps_int (x * y) :: st) σ ce sl) : ps_V p l e R s m args below meth c nL D ca A H0 adr0 σ0 Q pc L (ps_int y :: ps_int x :: st) σ ce sl :=
  fun adr H locs ls hB hs hL hls => lv_imul E.1 E.2.1 hd (kk adr H locs ls hB (ps_cn trivial (ps_tl (ps_tl hs))) hL hls)
theorem pv_iand (E : ps_E p s m c cc nL own D ca) {x y : Int32} (hd : decode cc pc = .ok (.iand, 1))
    (kk : ps_V p l e R s m args below meth c nL D ca A H0 adr0 σ0 Q (pc + 1) L (ps_int (x &&& y) :: st) σ ce sl) : ps_V p l e R s m args below meth c nL D ca A H0 adr0 σ0 Q pc L (ps_int y :: ps_int x :: st) σ ce sl :=
  fun adr H locs ls hB hs hL hls => lv_iand E.1 E.2.1 hd (kk adr H locs ls hB (ps_cn trivial (ps_tl (ps_tl hs))) hL hls)
theorem pv_ior (E : ps_E p s m c cc nL own D ca) {x y : Int32} (hd : decode cc pc = .ok (.ior, 1))
    (kk : ps_V p l e R s m args below meth c nL D ca A H0 adr0 σ0 Q (pc + 1) L (ps_int (x ||| y) :: st) σ ce sl) : ps_V p l e R s m args below meth c nL D ca A H0 adr0 σ0 Q pc L (ps_int y :: ps_int x :: st) σ ce sl :=
  fun adr H locs ls hB hs hL hls => lv_ior E.1 E.2.1 hd (kk adr H locs ls hB (ps_cn trivial (ps_tl (ps_tl hs))) hL hls)
theorem pv_ixor (E : ps_E p s m c cc nL own D ca) {x y : Int32} (hd : decode cc pc = .ok (.ixor, 1))
    (kk : ps_V p l e R s m args below meth c nL D ca A H0 adr0 σ0 Q (pc + 1) L (ps_int (x ^^^ y) :: st) σ ce sl) : ps_V p l e R s m args below meth c nL D ca A H0 adr0 σ0 Q pc L (ps_int y :: ps_int x :: st) σ ce sl :=
  fun adr H locs ls hB hs hL hls => lv_ixor E.1 E.2.1 hd (kk adr H locs ls hB (ps_cn trivial (ps_tl (ps_tl hs))) hL hls)
theorem pv_ishl (E : ps_E p s m c cc nL own D ca) {x y : Int32} (hd : decode cc pc = .ok (.ishl, 1))
    (kk : ps_V p l e R s m args below meth c nL D ca A H0 adr0 σ0 Q (pc + 1) L (ps_int (x <<< (y &&& 31)) :: st) σ ce sl) : ps_V p l e R s m args below meth c nL D ca A H0 adr0 σ0 Q pc L (ps_int y :: ps_int x :: st) σ ce sl :=
  fun adr H locs ls hB hs hL hls => lv_ishl E.1 E.2.1 hd (kk adr H locs ls hB (ps_cn trivial (ps_tl (ps_tl hs))) hL hls)
theorem pv_ishr (E : ps_E p s m c cc nL own D ca) {x y : Int32} (hd : decode cc pc = .ok (.ishr, 1))
    (kk : ps_V p l e R s m args below meth c nL D ca A H0 adr0 σ0 Q (pc + 1) L (ps_int (x >>> (y &&& 31)) :: st) σ ce sl) : ps_V p l e R s m args below meth c nL D ca A H0 adr0 σ0 Q pc L (ps_int y :: ps_int x :: st) σ ce sl :=
  fun adr H locs ls hB hs hL hls => lv_ishr E.1 E.2.1 hd (kk adr H locs ls hB (ps_cn trivial (ps_tl (ps_tl hs))) hL hls)
theorem pv_idiv (E : ps_E p s m c cc nL own D ca) {x y : Int32} (hd : decode cc pc = .ok (.idiv, 1)) (hne : ¬ y = 0)
    (kk : ps_V p l e R s m args below meth c nL D ca A H0 adr0 σ0 Q (pc + 1) L (ps_int (x / y) :: st) σ ce sl) : ps_V p l e R s m args below meth c nL D ca A H0 adr0 σ0 Q pc L (ps_int y :: ps_int x :: st) σ ce sl :=
  fun adr H locs ls hB hs hL hls => lv_idiv E.1 E.2.1 hd hne (kk adr H locs ls hB (ps_cn trivial (ps_tl (ps_tl hs))) hL hls)
theorem pv_irem (E : ps_E p s m c cc nL own D ca) {x y : Int32} (hd : decode cc pc = .ok (.irem, 1)) (hne : ¬ y = 0)
    (kk : ps_V p l e R s m args below meth c nL D ca A H0 adr0 σ0 Q (pc + 1) L (ps_int (x - x / y * y) :: st) σ ce sl) : ps_V p l e R s m args below meth c nL D ca A H0 adr0 σ0 Q pc L (ps_int y :: ps_int x :: st) σ ce sl :=
  fun adr H locs ls hB hs hL hls => lv_irem E.1 E.2.1 hd hne (kk adr H locs ls hB (ps_cn trivial (ps_tl (ps_tl hs))) hL hls)
theorem pv_ineg (E : ps_E p s m c cc nL own D ca) {x : Int32} (hd : decode cc pc = .ok (.ineg, 1))
    (kk : ps_V p l e R s m args below meth c nL D ca A H0 adr0 σ0 Q (pc + 1) L (ps_int (-x) :: st) σ ce sl) : ps_V p l e R s m args below meth c nL D ca A H0 adr0 σ0 Q pc L (ps_int x :: st) σ ce sl :=
  fun adr H locs ls hB hs hL hls => lv_ineg E.1 E.2.1 hd (kk adr H locs ls hB (ps_cn trivial (ps_tl hs)) hL hls)
theorem pv_ladd (E : ps_E p s m c cc nL own D ca) {x y : Int64} (hd : decode cc pc = .ok (.ladd, 1))
    (kk : ps_V p l e R s m args below meth c nL D ca A H0 adr0 σ0 Q (pc + 1) L (ps_lng (x + y) :: st) σ ce sl) : ps_V p l e R s m args below meth c nL D ca A H0 adr0 σ0 Q pc L (ps_lng y :: ps_lng x :: st) σ ce sl :=
  fun adr H locs ls hB hs hL hls => lv_ladd E.1 E.2.1 hd (kk adr H locs ls hB (ps_cn trivial (ps_tl (ps_tl hs))) hL hls)
theorem pv_lsub (E : ps_E p s m c cc nL own D ca) {x y : Int64} (hd : decode cc pc = .ok (.lsub, 1))
    (kk : ps_V p l e R s m args below meth c nL D ca A H0 adr0 σ0 Q (pc + 1) L (ps_lng (x - y) :: st) σ ce sl) : ps_V p l e R s m args below meth c nL D ca A H0 adr0 σ0 Q pc L (ps_lng y :: ps_lng x :: st) σ ce sl :=
  fun adr H locs ls hB hs hL hls => lv_lsub E.1 E.2.1 hd (kk adr H locs ls hB (ps_cn trivial (ps_tl (ps_tl hs))) hL hls)
theorem pv_land (E : ps_E p s m c cc nL own D ca) {x y : Int64} (hd : decode cc pc = .ok (.land, 1))
    (kk : ps_V p l e R s m args below meth c nL D ca A H0 adr0 σ0 Q (pc + 1) L (ps_lng (x &&& y) :: st) σ ce sl) : ps_V p l e R s m args below meth c nL D ca A H0 adr0 σ0 Q pc L (ps_lng y :: ps_lng x :: st) σ ce sl :=
  fun adr H locs ls hB hs hL hls => lv_land E.1 E.2.1 hd (kk adr H locs ls hB (ps_cn trivial (ps_tl (ps_tl hs))) hL hls)
theorem pv_lor (E : ps_E p s m c cc nL own D ca) {x y : Int64} (hd : decode cc pc = .ok (.lor, 1))
    (kk : ps_V p l e R s m args below meth c nL D ca A H0 adr0 σ0 Q (pc + 1) L (ps_lng (x ||| y) :: st) σ ce sl) : ps_V p l e R s m args below meth c nL D ca A H0 adr0 σ0 Q pc L (ps_lng y :: ps_lng x :: st) σ ce sl :=
  fun adr H locs ls hB hs hL hls => lv_lor E.1 E.2.1 hd (kk adr H locs ls hB (ps_cn trivial (ps_tl (ps_tl hs))) hL hls)
theorem pv_lxor (E : ps_E p s m c cc nL own D ca) {x y : Int64} (hd : decode cc pc = .ok (.lxor, 1))
    (kk : ps_V p l e R s m args below meth c nL D ca A H0 adr0 σ0 Q (pc + 1) L (ps_lng (x ^^^ y) :: st) σ ce sl) : ps_V p l e R s m args below meth c nL D ca A H0 adr0 σ0 Q pc L (ps_lng y :: ps_lng x :: st) σ ce sl :=
  fun adr H locs ls hB hs hL hls => lv_lxor E.1 E.2.1 hd (kk adr H locs ls hB (ps_cn trivial (ps_tl (ps_tl hs))) hL hls)
theorem pv_lushr (E : ps_E p s m c cc nL own D ca) {x : Int64} {y : Int32} (hd : decode cc pc = .ok (.lushr, 1))
    (kk : ps_V p l e R s m args below meth c nL D ca A H0 adr0 σ0 Q (pc + 1) L (ps_lng ((x.toUInt64 >>> (y.toInt64.toUInt64 &&& Int64.toUInt64 63)).toInt64) :: st) σ ce sl) : ps_V p l e R s m args below meth c nL D ca A H0 adr0 σ0 Q pc L (ps_int y :: ps_lng x :: st) σ ce sl :=
  fun adr H locs ls hB hs hL hls => lv_lushr E.1 E.2.1 hd rfl (kk adr H locs ls hB (ps_cn trivial (ps_tl (ps_tl hs))) hL hls)
theorem pv_lshl (E : ps_E p s m c cc nL own D ca) {x : Int64} {y : Int32} (hd : decode cc pc = .ok (.lshl, 1))
    (kk : ps_V p l e R s m args below meth c nL D ca A H0 adr0 σ0 Q (pc + 1) L (ps_lng (x <<< (y.toInt64 &&& 63)) :: st) σ ce sl) : ps_V p l e R s m args below meth c nL D ca A H0 adr0 σ0 Q pc L (ps_int y :: ps_lng x :: st) σ ce sl :=
  fun adr H locs ls hB hs hL hls => lv_lshl E.1 E.2.1 hd rfl (kk adr H locs ls hB (ps_cn trivial (ps_tl (ps_tl hs))) hL hls)
theorem pv_lshr (E : ps_E p s m c cc nL own D ca) {x : Int64} {y : Int32} (hd : decode cc pc = .ok (.lshr, 1))
    (kk : ps_V p l e R s m args below meth c nL D ca A H0 adr0 σ0 Q (pc + 1) L (ps_lng (x >>> (y.toInt64 &&& 63)) :: st) σ ce sl) : ps_V p l e R s m args below meth c nL D ca A H0 adr0 σ0 Q pc L (ps_int y :: ps_lng x :: st) σ ce sl :=
  fun adr H locs ls hB hs hL hls => lv_lshr E.1 E.2.1 hd rfl (kk adr H locs ls hB (ps_cn trivial (ps_tl (ps_tl hs))) hL hls)
theorem pv_iushr (E : ps_E p s m c cc nL own D ca) {x y : Int32} (hd : decode cc pc = .ok (.iushr, 1))
    (kk : ps_V p l e R s m args below meth c nL D ca A H0 adr0 σ0 Q (pc + 1) L (ps_int ((x.toUInt32 >>> (y.toUInt32 &&& Int32.toUInt32 31)).toInt32) :: st) σ ce sl) : ps_V p l e R s m args below meth c nL D ca A H0 adr0 σ0 Q pc L (ps_int y :: ps_int x :: st) σ ce sl :=
  fun adr H locs ls hB hs hL hls => lv_iushr E.1 E.2.1 hd rfl (kk adr H locs ls hB (ps_cn trivial (ps_tl (ps_tl hs))) hL hls)
theorem pv_i2l (E : ps_E p s m c cc nL own D ca) {x : Int32} (hd : decode cc pc = .ok (.i2l, 1))
    (kk : ps_V p l e R s m args below meth c nL D ca A H0 adr0 σ0 Q (pc + 1) L (ps_lng x.toInt64 :: st) σ ce sl) : ps_V p l e R s m args below meth c nL D ca A H0 adr0 σ0 Q pc L (ps_int x :: st) σ ce sl :=
  fun adr H locs ls hB hs hL hls => lv_i2l E.1 E.2.1 hd rfl (kk adr H locs ls hB (ps_cn trivial (ps_tl hs)) hL hls)
theorem pv_l2i (E : ps_E p s m c cc nL own D ca) {x : Int64} (hd : decode cc pc = .ok (.l2i, 1))
    (kk : ps_V p l e R s m args below meth c nL D ca A H0 adr0 σ0 Q (pc + 1) L (ps_int x.toInt32 :: st) σ ce sl) : ps_V p l e R s m args below meth c nL D ca A H0 adr0 σ0 Q pc L (ps_lng x :: st) σ ce sl :=
  fun adr H locs ls hB hs hL hls => lv_l2i E.1 E.2.1 hd rfl (kk adr H locs ls hB (ps_cn trivial (ps_tl hs)) hL hls)
theorem pv_lcmp (E : ps_E p s m c cc nL own D ca) {x y : Int64} (hd : decode cc pc = .ok (.lcmp, 1))
    (kk : ps_V p l e R s m args below meth c nL D ca A H0 adr0 σ0 Q (pc + 1) L (ps_int (lg_cmp x y) :: st) σ ce sl) : ps_V p l e R s m args below meth c nL D ca A H0 adr0 σ0 Q pc L (ps_lng y :: ps_lng x :: st) σ ce sl :=
  fun adr H locs ls hB hs hL hls => W.lcmp E.1 E.2.1 hd (kk adr H locs ls hB (ps_cn trivial (ps_tl (ps_tl hs))) hL hls)
theorem pv_dup (E : ps_E p s m c cc nL own D ca) {a : ps_A} (hd : decode cc pc = .ok (.dup, 1)) (hc : ps_cat a = 1)
    (kk : ps_V p l e R s m args below meth c nL D ca A H0 adr0 σ0 Q (pc + 1) L (a :: a :: st) σ ce sl) : ps_V p l e R s m args below meth c nL D ca A H0 adr0 σ0 Q pc L (a :: st) σ ce sl :=
  fun adr H locs ls hB hs hL hls => lv_dup E.1 E.2.1 hd ((ps_cat_v adr a).trans hc) (kk adr H locs ls hB (ps_cn (ps_hd hs) hs) hL hls)
theorem pv_pop (E : ps_E p s m c cc nL own D ca) {a : ps_A} (hd : decode cc pc = .ok (.pop, 1)) (hc : ps_cat a = 1)
    (kk : ps_V p l e R s m args below meth c nL D ca A H0 adr0 σ0 Q (pc + 1) L st σ ce sl) : ps_V p l e R s m args below meth c nL D ca A H0 adr0 σ0 Q pc L (a :: st) σ ce sl :=
  fun adr H locs ls hB hs hL hls => lv_pop E.1 E.2.1 hd ((ps_cat_v adr a).trans hc) (kk adr H locs ls hB (ps_tl hs) hL hls)
theorem pv_dup_x1 (E : ps_E p s m c cc nL own D ca) {a b : ps_A} (hd : decode cc pc = .ok (.dup_x1, 1)) (hc : ps_cat a = 1) (hc2 : ps_cat b = 1)
    (kk : ps_V p l e R s m args below meth c nL D ca A H0 adr0 σ0 Q (pc + 1) L (a :: b :: a :: st) σ ce sl) : ps_V p l e R s m args below meth c nL D ca A H0 adr0 σ0 Q pc L (a :: b :: st) σ ce sl :=
  fun adr H locs ls hB hs hL hls => lv_dup_x1 E.1 E.2.1 hd ((ps_cat_v adr a).trans hc) ((ps_cat_v adr b).trans hc2) (kk adr H locs ls hB (ps_cn (ps_hd hs) (ps_cn (ps_hd (ps_tl hs)) (ps_cn (ps_hd hs) (ps_tl (ps_tl hs))))) hL hls)
theorem pv_dup2 (E : ps_E p s m c cc nL own D ca) {a b : ps_A} (hd : decode cc pc = .ok (.dup2, 1)) (hc : ps_cat a = 1) (hc2 : ps_cat b = 1)
    (kk : ps_V p l e R s m args below meth c nL D ca A H0 adr0 σ0 Q (pc + 1) L (a :: b :: a :: b :: st) σ ce sl) : ps_V p l e R s m args below meth c nL D ca A H0 adr0 σ0 Q pc L (a :: b :: st) σ ce sl :=
  fun adr H locs ls hB hs hL hls => lv_dup2_11 E.1 E.2.1 hd ((ps_cat_v adr a).trans hc) ((ps_cat_v adr b).trans hc2) (kk adr H locs ls hB (ps_cn (ps_hd hs) (ps_cn (ps_hd (ps_tl hs)) hs)) hL hls)
theorem pv_if_eq (E : ps_E p s m c cc nL own D ca) {x : Int32} {off : Int} {tgt : Nat} (hd : decode cc pc = .ok (.ifCond .eq off, 3)) (ht : (pc : Int) + off = (tgt : Int))
    (kt : x = 0 → ps_V p l e R s m args below meth c nL D ca A H0 adr0 σ0 Q tgt L st σ ce sl) (kf : ¬ x = 0 → ps_V p l e R s m args below meth c nL D ca A H0 adr0 σ0 Q (pc + 3) L st σ ce sl) : ps_V p l e R s m args below meth c nL D ca A H0 adr0 σ0 Q pc L (ps_int x :: st) σ ce sl :=
  fun adr H locs ls hB hs hL hls => lv_if_eq E.1 E.2.1 hd ht (fun h => kt h adr H locs ls hB (ps_tl hs) hL hls) (fun h => kf h adr H locs ls hB (ps_tl hs) hL hls)
theorem pv_if_ne (E : ps_E p s m c cc nL own D ca) {x : Int32} {off : Int} {tgt : Nat} (hd : decode cc pc = .ok (.ifCond .ne off, 3)) (ht : (pc : Int) + off = (tgt : Int))
    (kt : ¬ x = 0 → ps_V p l e R s m args below meth c nL D ca A H0 adr0 σ0 Q tgt L st σ ce sl) (kf : x = 0 → ps_V p l e R s m args below meth c nL D ca A H0 adr0 σ0 Q (pc + 3) L st σ ce sl) : ps_V p l e R s m args below meth c nL D ca A H0 adr0 σ0 Q pc L (ps_int x :: st) σ ce sl :=
  fun adr H locs ls hB hs hL hls => lv_if_ne E.1 E.2.1 hd ht (fun h => kt h adr H locs ls hB (ps_tl hs) hL hls) (fun h => kf h adr H locs ls hB (ps_tl hs) hL hls)
theorem pv_if_lt (E : ps_E p s m c cc nL own D ca) {x : Int32} {off : Int} {tgt : Nat} (hd : decode cc pc = .ok (.ifCond .lt off, 3)) (ht : (pc : Int) + off = (tgt : Int))
    (kt : x < 0 → ps_V p l e R s m args below meth c nL D ca A H0 adr0 σ0 Q tgt L st σ ce sl) (kf : ¬ x < 0 → ps_V p l e R s m args below meth c nL D ca A H0 adr0 σ0 Q (pc + 3) L st σ ce sl) : ps_V p l e R s m args below meth c nL D ca A H0 adr0 σ0 Q pc L (ps_int x :: st) σ ce sl :=
  fun adr H locs ls hB hs hL hls => lv_if_lt E.1 E.2.1 hd ht (fun h => kt h adr H locs ls hB (ps_tl hs) hL hls) (fun h => kf h adr H locs ls hB (ps_tl hs) hL hls)
theorem pv_if_ge (E : ps_E p s m c cc nL own D ca) {x : Int32} {off : Int} {tgt : Nat} (hd : decode cc pc = .ok (.ifCond .ge off, 3)) (ht : (pc : Int) + off = (tgt : Int))
    (kt : 0 ≤ x → ps_V p l e R s m args below meth c nL D ca A H0 adr0 σ0 Q tgt L st σ ce sl) (kf : ¬ 0 ≤ x → ps_V p l e R s m args below meth c nL D ca A H0 adr0 σ0 Q (pc + 3) L st σ ce sl) : ps_V p l e R s m args below meth c nL D ca A H0 adr0 σ0 Q pc L (ps_int x :: st) σ ce sl :=
  fun adr H locs ls hB hs hL hls => lv_if_ge E.1 E.2.1 hd ht (fun h => kt h adr H locs ls hB (ps_tl hs) hL hls) (fun h => kf h adr H locs ls hB (ps_tl hs) hL hls)
theorem pv_if_gt (E : ps_E p s m c cc nL own D ca) {x : Int32} {off : Int} {tgt : Nat} (hd : decode cc pc = .ok (.ifCond .gt off, 3)) (ht : (pc : Int) + off = (tgt : Int))
    (kt : 0 < x → ps_V p l e R s m args below meth c nL D ca A H0 adr0 σ0 Q tgt L st σ ce sl) (kf : ¬ 0 < x → ps_V p l e R s m args below meth c nL D ca A H0 adr0 σ0 Q (pc + 3) L st σ ce sl) : ps_V p l e R s m args below meth c nL D ca A H0 adr0 σ0 Q pc L (ps_int x :: st) σ ce sl :=
  fun adr H locs ls hB hs hL hls => lv_if_gt E.1 E.2.1 hd ht (fun h => kt h adr H locs ls hB (ps_tl hs) hL hls) (fun h => kf h adr H locs ls hB (ps_tl hs) hL hls)
theorem pv_if_le (E : ps_E p s m c cc nL own D ca) {x : Int32} {off : Int} {tgt : Nat} (hd : decode cc pc = .ok (.ifCond .le off, 3)) (ht : (pc : Int) + off = (tgt : Int))
    (kt : x ≤ 0 → ps_V p l e R s m args below meth c nL D ca A H0 adr0 σ0 Q tgt L st σ ce sl) (kf : ¬ x ≤ 0 → ps_V p l e R s m args below meth c nL D ca A H0 adr0 σ0 Q (pc + 3) L st σ ce sl) : ps_V p l e R s m args below meth c nL D ca A H0 adr0 σ0 Q pc L (ps_int x :: st) σ ce sl :=
  fun adr H locs ls hB hs hL hls => lv_if_le E.1 E.2.1 hd ht (fun h => kt h adr H locs ls hB (ps_tl hs) hL hls) (fun h => kf h adr H locs ls hB (ps_tl hs) hL hls)
theorem pv_icmp_eq (E : ps_E p s m c cc nL own D ca) {x y : Int32} {off : Int} {tgt : Nat} (hd : decode cc pc = .ok (.if_icmp .eq off, 3)) (ht : (pc : Int) + off = (tgt : Int))
    (kt : x = y → ps_V p l e R s m args below meth c nL D ca A H0 adr0 σ0 Q tgt L st σ ce sl) (kf : ¬ x = y → ps_V p l e R s m args below meth c nL D ca A H0 adr0 σ0 Q (pc + 3) L st σ ce sl) : ps_V p l e R s m args below meth c nL D ca A H0 adr0 σ0 Q pc L (ps_int y :: ps_int x :: st) σ ce sl :=
  fun adr H locs ls hB hs hL hls => lv_icmp_eq E.1 E.2.1 hd ht (fun h => kt h adr H locs ls hB (ps_tl (ps_tl hs)) hL hls) (fun h => kf h adr H locs ls hB (ps_tl (ps_tl hs)) hL hls)
theorem pv_icmp_ne (E : ps_E p s m c cc nL own D ca) {x y : Int32} {off : Int} {tgt : Nat} (hd : decode cc pc = .ok (.if_icmp .ne off, 3)) (ht : (pc : Int) + off = (tgt : Int))
    (kt : ¬ x = y → ps_V p l e R s m args below meth c nL D ca A H0 adr0 σ0 Q tgt L st σ ce sl) (kf : x = y → ps_V p l e R s m args below meth c nL D ca A H0 adr0 σ0 Q (pc + 3) L st σ ce sl) : ps_V p l e R s m args below meth c nL D ca A H0 adr0 σ0 Q pc L (ps_int y :: ps_int x :: st) σ ce sl :=
  fun adr H locs ls hB hs hL hls => lv_icmp_ne E.1 E.2.1 hd ht (fun h => kt h adr H locs ls hB (ps_tl (ps_tl hs)) hL hls) (fun h => kf h adr H locs ls hB (ps_tl (ps_tl hs)) hL hls)
theorem pv_icmp_lt (E : ps_E p s m c cc nL own D ca) {x y : Int32} {off : Int} {tgt : Nat} (hd : decode cc pc = .ok (.if_icmp .lt off, 3)) (ht : (pc : Int) + off = (tgt : Int))
    (kt : x < y → ps_V p l e R s m args below meth c nL D ca A H0 adr0 σ0 Q tgt L st σ ce sl) (kf : ¬ x < y → ps_V p l e R s m args below meth c nL D ca A H0 adr0 σ0 Q (pc + 3) L st σ ce sl) : ps_V p l e R s m args below meth c nL D ca A H0 adr0 σ0 Q pc L (ps_int y :: ps_int x :: st) σ ce sl :=
  fun adr H locs ls hB hs hL hls => lv_icmp_lt E.1 E.2.1 hd ht (fun h => kt h adr H locs ls hB (ps_tl (ps_tl hs)) hL hls) (fun h => kf h adr H locs ls hB (ps_tl (ps_tl hs)) hL hls)
theorem pv_icmp_ge (E : ps_E p s m c cc nL own D ca) {x y : Int32} {off : Int} {tgt : Nat} (hd : decode cc pc = .ok (.if_icmp .ge off, 3)) (ht : (pc : Int) + off = (tgt : Int))
    (kt : y ≤ x → ps_V p l e R s m args below meth c nL D ca A H0 adr0 σ0 Q tgt L st σ ce sl) (kf : ¬ y ≤ x → ps_V p l e R s m args below meth c nL D ca A H0 adr0 σ0 Q (pc + 3) L st σ ce sl) : ps_V p l e R s m args below meth c nL D ca A H0 adr0 σ0 Q pc L (ps_int y :: ps_int x :: st) σ ce sl :=
  fun adr H locs ls hB hs hL hls => lv_icmp_ge E.1 E.2.1 hd ht (fun h => kt h adr H locs ls hB (ps_tl (ps_tl hs)) hL hls) (fun h => kf h adr H locs ls hB (ps_tl (ps_tl hs)) hL hls)
theorem pv_icmp_gt (E : ps_E p s m c cc nL own D ca) {x y : Int32} {off : Int} {tgt : Nat} (hd : decode cc pc = .ok (.if_icmp .gt off, 3)) (ht : (pc : Int) + off = (tgt : Int))
    (kt : y < x → ps_V p l e R s m args below meth c nL D ca A H0 adr0 σ0 Q tgt L st σ ce sl) (kf : ¬ y < x → ps_V p l e R s m args below meth c nL D ca A H0 adr0 σ0 Q (pc + 3) L st σ ce sl) : ps_V p l e R s m args below meth c nL D ca A H0 adr0 σ0 Q pc L (ps_int y :: ps_int x :: st) σ ce sl :=
  fun adr H locs ls hB hs hL hls => lv_icmp_gt E.1 E.2.1 hd ht (fun h => kt h adr H locs ls hB (ps_tl (ps_tl hs)) hL hls) (fun h => kf h adr H locs ls hB (ps_tl (ps_tl hs)) hL hls)
theorem pv_icmp_le (E : ps_E p s m c cc nL own D ca) {x y : Int32} {off : Int} {tgt : Nat} (hd : decode cc pc = .ok (.if_icmp .le off, 3)) (ht : (pc : Int) + off = (tgt : Int))
    (kt : x ≤ y → ps_V p l e R s m args below meth c nL D ca A H0 adr0 σ0 Q tgt L st σ ce sl) (kf : ¬ x ≤ y → ps_V p l e R s m args below meth c nL D ca A H0 adr0 σ0 Q (pc + 3) L st σ ce sl) : ps_V p l e R s m args below meth c nL D ca A H0 adr0 σ0 Q pc L (ps_int y :: ps_int x :: st) σ ce sl :=
  fun adr H locs ls hB hs hL hls => lv_icmp_le E.1 E.2.1 hd ht (fun h => kt h adr H locs ls hB (ps_tl (ps_tl hs)) hL hls) (fun h => kf h adr H locs ls hB (ps_tl (ps_tl hs)) hL hls)
theorem pv_goto (E : ps_E p s m c cc nL own D ca) {off : Int} {tgt : Nat} (hd : decode cc pc = .ok (.goto off, 3)) (ht : (pc : Int) + off = (tgt : Int))
    (kk : ps_V p l e R s m args below meth c nL D ca A H0 adr0 σ0 Q tgt L st σ ce sl) : ps_V p l e R s m args below meth c nL D ca A H0 adr0 σ0 Q pc L st σ ce sl :=
  fun adr H locs ls hB hs hL hls => lv_goto E.1 E.2.1 hd ht (kk adr H locs ls hB hs hL hls)
theorem pv_ifnull (E : ps_E p s m c cc nL own D ca) {r : Option (Nat × Nat)} {off : Int} {tgt : Nat} (hd : decode cc pc = .ok (.ifnull off, 3)) (ht : (pc : Int) + off = (tgt : Int))
    (kt : r = none → ps_V p l e R s m args below meth c nL D ca A H0 adr0 σ0 Q tgt L st σ ce sl) (kf : ∀ q, r = some q → ps_V p l e R s m args below meth c nL D ca A H0 adr0 σ0 Q (pc + 3) L st σ ce sl) : ps_V p l e R s m args below meth c nL D ca A H0 adr0 σ0 Q pc L (ps_ref r :: st) σ ce sl :=
  by
  intro adr H locs ls hB hs hL hls
  cases r with
  | none => exact lv_ifnullN E.1 E.2.1 hd ht (kt rfl adr H locs ls hB (ps_tl hs) hL hls)
  | some q => exact lv_ifnull E.1 E.2.1 hd (kf q rfl adr H locs ls hB (ps_tl hs) hL hls)
theorem pv_ifnonnull (E : ps_E p s m c cc nL own D ca) {r : Option (Nat × Nat)} {off : Int} {tgt : Nat} (hd : decode cc pc = .ok (.ifnonnull off, 3)) (ht : (pc : Int) + off = (tgt : Int))
    (kt : ∀ q, r = some q → ps_V p l e R s m args below meth c nL D ca A H0 adr0 σ0 Q tgt L st σ ce sl) (kf : r = none → ps_V p l e R s m args below meth c nL D ca A H0 adr0 σ0 Q (pc + 3) L st σ ce sl) : ps_V p l e R s m args below meth c nL D ca A H0 adr0 σ0 Q pc L (ps_ref r :: st) σ ce sl :=
  by
  intro adr H locs ls hB hs hL hls
  cases r with
  | none => exact lv_ifnonnullN E.1 E.2.1 hd (kf rfl adr H locs ls hB (ps_tl hs) hL hls)
  | some q => exact lv_ifnonnull E.1 E.2.1 hd ht (kt q rfl adr H locs ls hB (ps_tl hs) hL hls)
theorem ps_e_inj {D : va_G} {ca : Nat → ClassId} {adr : Nat → Nat → Nat} {A : Nat → Prop} {σ : ps_S} {H : Heap} (h : ps_W D ca adr A σ H) {r t : Option (Nat × Nat)} (h1 : ps_ok σ (ps_ref r)) (h2 : ps_ok σ (ps_ref t)) (he : ps_e adr r = ps_e adr t) : r = t := by
  cases r with
  | none =>
    cases t with
    | none => rfl
    | some b => cases he
  | some a =>
    cases t with
    | none => cases he
    | some b =>
      have e := h.2.1 a.1 a.2 b.1 b.2 h1 h2 (Option.some.inj he)
      rw [Prod.ext e.1 e.2]
theorem pv_acmp_eq (E : ps_E p s m c cc nL own D ca) {x y : Option (Nat × Nat)} {off : Int} {tgt : Nat} (hd : decode cc pc = .ok (.if_acmp .eq off, 3)) (ht : (pc : Int) + off = (tgt : Int))
    (kt : x = y → ps_V p l e R s m args below meth c nL D ca A H0 adr0 σ0 Q tgt L st σ ce sl) (kf : ¬ x = y → ps_V p l e R s m args below meth c nL D ca A H0 adr0 σ0 Q (pc + 3) L st σ ce sl) : ps_V p l e R s m args below meth c nL D ca A H0 adr0 σ0 Q pc L (ps_ref y :: ps_ref x :: st) σ ce sl :=
  fun adr H locs ls hB hs hL hls => lv_acmp_eq (rx := ps_e adr x) (ry := ps_e adr y) E.1 E.2.1 hd ht (fun h => kt (ps_e_inj hB.1 (ps_hd (ps_tl hs)) (ps_hd hs) h) adr H locs ls hB (ps_tl (ps_tl hs)) hL hls) (fun h => kf (fun z => h (by rw [z])) adr H locs ls hB (ps_tl (ps_tl hs)) hL hls)
theorem pv_acmp_ne (E : ps_E p s m c cc nL own D ca) {x y : Option (Nat × Nat)} {off : Int} {tgt : Nat} (hd : decode cc pc = .ok (.if_acmp .ne off, 3)) (ht : (pc : Int) + off = (tgt : Int))
    (kt : ¬ x = y → ps_V p l e R s m args below meth c nL D ca A H0 adr0 σ0 Q tgt L st σ ce sl) (kf : x = y → ps_V p l e R s m args below meth c nL D ca A H0 adr0 σ0 Q (pc + 3) L st σ ce sl) : ps_V p l e R s m args below meth c nL D ca A H0 adr0 σ0 Q pc L (ps_ref y :: ps_ref x :: st) σ ce sl :=
  fun adr H locs ls hB hs hL hls => lv_acmp_ne (rx := ps_e adr x) (ry := ps_e adr y) E.1 E.2.1 hd ht (fun h => kt (fun z => h (by rw [z])) adr H locs ls hB (ps_tl (ps_tl hs)) hL hls) (fun h => kf (ps_e_inj hB.1 (ps_hd (ps_tl hs)) (ps_hd hs) h) adr H locs ls hB (ps_tl (ps_tl hs)) hL hls)
theorem pv_tableAt (E : ps_E p s m c cc nL own D ca) {x : Int32} (k : Int32) (hx : x = k) {dflt lo hi : Int} {offs : Array Int} {len : Nat} {off : Int} {tgt : Nat} (hd : decode cc pc = .ok (.tableswitch dflt lo hi offs, len)) (h1 : ¬ k.toInt < lo) (h2 : ¬ hi < k.toInt) (ho : offs[(k.toInt - lo).toNat]? = some off) (ht : (pc : Int) + off = (tgt : Int))
    (kk : ps_V p l e R s m args below meth c nL D ca A H0 adr0 σ0 Q tgt L st σ ce sl) : ps_V p l e R s m args below meth c nL D ca A H0 adr0 σ0 Q pc L (ps_int x :: st) σ ce sl :=
  by
  subst hx
  exact fun adr H locs ls hB hs hL hls => lv_tableIn E.1 E.2.1 hd h1 h2 ho ht (kk adr H locs ls hB (ps_tl hs) hL hls)
theorem pv_tableOut (E : ps_E p s m c cc nL own D ca) {x : Int32} {dflt lo hi : Int} {offs : Array Int} {len tgt : Nat} (hd : decode cc pc = .ok (.tableswitch dflt lo hi offs, len)) (h : x.toInt < lo ∨ hi < x.toInt) (ht : (pc : Int) + dflt = (tgt : Int))
    (kk : ps_V p l e R s m args below meth c nL D ca A H0 adr0 σ0 Q tgt L st σ ce sl) : ps_V p l e R s m args below meth c nL D ca A H0 adr0 σ0 Q pc L (ps_int x :: st) σ ce sl :=
  fun adr H locs ls hB hs hL hls => lv_tableOut E.1 E.2.1 hd h ht (kk adr H locs ls hB (ps_tl hs) hL hls)
theorem pv_lookup (E : ps_E p s m c cc nL own D ca) {x : Int32} {dflt : Int} {ps : Array (Int × Int)} {len : Nat} {off : Int} {tgt : Nat} (hd : decode cc pc = .ok (.lookupswitch dflt ps, len)) (hp : (ps.toList.zip (ps.toList.drop 1)).all (fun (a, next) => a.1 < next.1) = true) (ho : Op.lookupswitch.offset ps.toList dflt x.toInt = off) (ht : (pc : Int) + off = (tgt : Int))
    (kk : ps_V p l e R s m args below meth c nL D ca A H0 adr0 σ0 Q tgt L st σ ce sl) : ps_V p l e R s m args below meth c nL D ca A H0 adr0 σ0 Q pc L (ps_int x :: st) σ ce sl :=
  fun adr H locs ls hB hs hL hls => lv_lookup E.1 E.2.1 hd hp ho ht (kk adr H locs ls hB (ps_tl hs) hL hls)
theorem pv_of {pc' : Nat} {L' : List (Nat × ps_A)} {st' : List ps_A} {σ' : ps_S} (kk : ps_V p l e R s m args below meth c nL D ca A H0 adr0 σ0 Q pc' L' st' σ' ce sl) (h1 : pc = pc') (h2 : L = L') (h3 : st = st') (h4 : σ = σ') : ps_V p l e R s m args below meth c nL D ca A H0 adr0 σ0 Q pc L st σ ce sl := by
  subst h1; subst h2; subst h3; subst h4; exact kk
theorem pv_top {a b : ps_A} (h : a = b) (kk : ps_V p l e R s m args below meth c nL D ca A H0 adr0 σ0 Q pc L (b :: st) σ ce sl) : ps_V p l e R s m args below meth c nL D ca A H0 adr0 σ0 Q pc L (a :: st) σ ce sl := by
  subst h; exact kk
theorem pv_top2 {a b x : ps_A} (h : a = b) (kk : ps_V p l e R s m args below meth c nL D ca A H0 adr0 σ0 Q pc L (x :: b :: st) σ ce sl) : ps_V p l e R s m args below meth c nL D ca A H0 adr0 σ0 Q pc L (x :: a :: st) σ ce sl := by
  subst h; exact kk
/-- the locals by the list that a loop names -/
theorem pv_loc (L' : List (Nat × ps_A)) (h : ∀ q ∈ L', L.lookup q.1 = some q.2) (kk : ps_V p l e R s m args below meth c nL D ca A H0 adr0 σ0 Q pc L' st σ ce sl) : ps_V p l e R s m args below meth c nL D ca A H0 adr0 σ0 Q pc L st σ ce sl :=
  fun adr H locs ls hB hs hL hls => kk adr H locs ls hB hs (fun q hq => hL q (ps_lookup (h q hq))) ⟨hls.1, hls.2.1, fun x hx => by
    obtain ⟨q, hq, rfl⟩ := List.mem_map.mp hx
    exact ps_lk hls (h q hq)⟩
theorem pv_widen {ce' sl' : Nat} (h1 : ce ≤ ce') (h2 : sl ≤ sl') (kk : ps_V p l e R s m args below meth c nL D ca A H0 adr0 σ0 Q pc L st σ ce' sl') : ps_V p l e R s m args below meth c nL D ca A H0 adr0 σ0 Q pc L st σ ce sl :=
  fun adr H locs ls hB hs hL hls => W.widen h1 h2 (kk adr H locs ls hB hs hL hls)
theorem ps_ok_N {σ σ' : ps_S} (h : ps_N σ' = ps_N σ) {a : ps_A} (ha : ps_ok σ a) : ps_ok σ' a := by
  rcases a with x | x | r
  · trivial
  · trivial
  · cases r with
    | none => trivial
    | some q =>
      show q.2 < ps_N σ' q.1
      rw [h]
      exact ha
theorem ps_ok_up {σ σ' : ps_S} (h : ∀ κ, ps_N σ κ ≤ ps_N σ' κ) {a : ps_A} (ha : ps_ok σ a) : ps_ok σ' a := by
  rcases a with x | x | r
  · trivial
  · trivial
  · cases r with
    | none => trivial
    | some q => exact Nat.lt_of_lt_of_le ha (h q.1)
theorem ps_v_eq {σ : ps_S} {adr adr' : Nat → Nat → Nat} (h : ∀ κ i, i < ps_N σ κ → adr' κ i = adr κ i) {a : ps_A} (ha : ps_ok σ a) : ps_v adr' a = ps_v adr a := by
  rcases a with x | x | r
  · rfl
  · rfl
  · cases r with
    | none => rfl
    | some q =>
      show Value.ref (adr' q.1 q.2) = Value.ref (adr q.1 q.2)
      rw [h q.1 q.2 ha]
theorem ps_st_eq {σ : ps_S} {adr adr' : Nat → Nat → Nat} (h : ∀ κ i, i < ps_N σ κ → adr' κ i = adr κ i) {st : List ps_A} (hs : ∀ a ∈ st, ps_ok σ a) : st.map (ps_v adr') = st.map (ps_v adr) :=
  List.map_congr_left fun a ha => ps_v_eq h (hs a ha)
theorem ps_L_eq {σ : ps_S} {adr adr' : Nat → Nat → Nat} (h : ∀ κ i, i < ps_N σ κ → adr' κ i = adr κ i) {L : List (Nat × ps_A)} (hL : ∀ q ∈ L, ps_ok σ q.2) : (L.map fun q => (q.1, ps_v adr' q.2)) = L.map fun q => (q.1, ps_v adr q.2) :=
  List.map_congr_left fun q hq => by rw [ps_v_eq h (hL q hq)]
theorem ps_wfR {σ : ps_S} {κ i k : Nat} {r : Option (Nat × Nat)} (h : ∀ κ i j q, i < ps_N σ κ → ps_R σ κ i j = some q → q.2 < ps_N σ q.1) (hr : ps_ok σ (ps_ref r)) :
    ∀ a b j q, b < ps_N σ a → ps_R (ps_sR σ κ i k r) a b j = some q → q.2 < ps_N σ q.1 := by
  intro a b j q hb hq
  have hq' : ps_up (ps_R σ) κ i k r a b j = some q := hq
  by_cases hc : a = κ ∧ b = i
  · obtain ⟨rfl, rfl⟩ := hc
    rw [ps_up_self] at hq'
    by_cases hj : j = k
    · subst hj
      rw [va_up_self] at hq'
      subst hq'
      exact hr
    · rw [va_up_ne _ _ hj] at hq'
      exact h a b j q hb hq'
  · rw [ps_up_ne _ _ _ hc] at hq'
    exact h a b j q hb hq'
theorem ps_cI (ca : Nat → ClassId) (adr : Nat → Nat → Nat) (σ : ps_S) (κ i k : Nat) (x : Int32) : ps_cell ca adr (ps_sI σ κ i k x) κ i = ps_F ca adr κ (va_up (ps_I σ κ i) k x) (ps_J σ κ i) (ps_R σ κ i) (ps_L σ κ i) := by
  show ps_F ca adr κ (ps_up (ps_I σ) κ i k x κ i) _ _ _ = _
  rw [ps_up_self]
  rfl
theorem ps_cJ (ca : Nat → ClassId) (adr : Nat → Nat → Nat) (σ : ps_S) (κ i k : Nat) (x : Int64) : ps_cell ca adr (ps_sJ σ κ i k x) κ i = ps_F ca adr κ (ps_I σ κ i) (va_up (ps_J σ κ i) k x) (ps_R σ κ i) (ps_L σ κ i) := by
  show ps_F ca adr κ _ (ps_up (ps_J σ) κ i k x κ i) _ _ = _
  rw [ps_up_self]
  rfl
theorem ps_cR (ca : Nat → ClassId) (adr : Nat → Nat → Nat) (σ : ps_S) (κ i k : Nat) (x : Option (Nat × Nat)) : ps_cell ca adr (ps_sR σ κ i k x) κ i = ps_F ca adr κ (ps_I σ κ i) (ps_J σ κ i) (va_up (ps_R σ κ i) k x) (ps_L σ κ i) := by
  show ps_F ca adr κ _ _ (ps_up (ps_R σ) κ i k x κ i) _ = _
  rw [ps_up_self]
  rfl
theorem ps_oI (ca : Nat → ClassId) (adr : Nat → Nat → Nat) (σ : ps_S) (κ i k : Nat) (x : Int32) (a b : Nat) (h : ¬ (a = κ ∧ b = i)) : ps_cell ca adr (ps_sI σ κ i k x) a b = ps_cell ca adr σ a b := by
  show ps_F ca adr a (ps_up (ps_I σ) κ i k x a b) _ _ _ = _
  rw [ps_up_ne _ _ _ h]
  rfl
theorem ps_oJ (ca : Nat → ClassId) (adr : Nat → Nat → Nat) (σ : ps_S) (κ i k : Nat) (x : Int64) (a b : Nat) (h : ¬ (a = κ ∧ b = i)) : ps_cell ca adr (ps_sJ σ κ i k x) a b = ps_cell ca adr σ a b := by
  show ps_F ca adr a _ (ps_up (ps_J σ) κ i k x a b) _ _ = _
  rw [ps_up_ne _ _ _ h]
  rfl
theorem ps_oR (ca : Nat → ClassId) (adr : Nat → Nat → Nat) (σ : ps_S) (κ i k : Nat) (x : Option (Nat × Nat)) (a b : Nat) (h : ¬ (a = κ ∧ b = i)) : ps_cell ca adr (ps_sR σ κ i k x) a b = ps_cell ca adr σ a b := by
  show ps_F ca adr a _ _ (ps_up (ps_R σ) κ i k x a b) _ = _
  rw [ps_up_ne _ _ _ h]
  rfl
theorem pv_get (E : ps_E p s m c cc nL own D ca) {index ci N : Nat} {C : String} {T : u_T} (κ i k : Nat) (fs : (Nat → Nat → Nat) → List Value) (a : ps_A) (hF : ∀ adr, ps_cell ca adr σ κ i = .inr (ci, fs adr)) (hv : ∀ adr, (fs adr)[k]? = some (ps_v adr a)) (ha : a = ps_ref (ps_R σ κ i k) ∨ ∀ σ, ps_ok σ a) (hc : ps_cl[ci]? = some (C, T, N)) (hin : ∀ w ∈ u_ws C T N, w ∈ ps_T) (hk : k < N) (hl : Cond.fieldLink own index (T k).1 (T k).2.1 (T k).2.2.1 ∈ ps_T) (hd : decode cc pc = .ok (.getfield index, 3))
    (kk : ps_V p l e R s m args below meth c nL D ca A H0 adr0 σ0 Q (pc + 3) L (a :: st) σ ce sl) : ps_V p l e R s m args below meth c nL D ca A H0 adr0 σ0 Q pc L (ps_ref (some (κ, i)) :: st) σ ce sl :=
  by
  intro adr H locs ls hB hs hL hls
  have hi : i < ps_N σ κ := ps_hd hs
  obtain ⟨k0, hk0⟩ := ps_ws_get (ca := ca) (adr := adr) hi (hB.1.1 κ i hi).1
  rw [hF adr] at hk0
  have hok : ps_ok σ a := by
    rcases ha with rfl | h
    · exact ps_okR hB.1 hi k
    · exact h σ
  exact va_get E.1 E.2.1 (E.2.2.2.2.words args) hin E.2.2.2.1 E.2.2.2.2.2 hB.1.P k0 hk0 hc k hk (E.2.2.2.2.words args _ hl) (fun _ h => h) (hv adr) hd (kk adr H locs ls hB (ps_cn hok (ps_tl hs)) hL hls)
theorem pv_getN (E : ps_E p s m c cc nL own D ca) {index ci N : Nat} {C : String} {T : u_T} {host : String} (κ i k : Nat) (fs : (Nat → Nat → Nat) → List Value) (a : ps_A) (hF : ∀ adr, ps_cell ca adr σ κ i = .inr (ci, fs adr)) (hv : ∀ adr, (fs adr)[k]? = some (ps_v adr a)) (ha : a = ps_ref (ps_R σ κ i k) ∨ ∀ σ, ps_ok σ a) (hc : ps_cl[ci]? = some (C, T, N)) (hin : ∀ w ∈ u_ws C T N, w ∈ ps_T) (hk : k < N) (hl : Cond.fieldLinkNest own index (T k).1 (T k).2.1 (T k).2.2.1 host ∈ ps_T) (hd : decode cc pc = .ok (.getfield index, 3))
    (kk : ps_V p l e R s m args below meth c nL D ca A H0 adr0 σ0 Q (pc + 3) L (a :: st) σ ce sl) : ps_V p l e R s m args below meth c nL D ca A H0 adr0 σ0 Q pc L (ps_ref (some (κ, i)) :: st) σ ce sl :=
  by
  intro adr H locs ls hB hs hL hls
  have hi : i < ps_N σ κ := ps_hd hs
  obtain ⟨k0, hk0⟩ := ps_ws_get (ca := ca) (adr := adr) hi (hB.1.1 κ i hi).1
  rw [hF adr] at hk0
  have hok : ps_ok σ a := by
    rcases ha with rfl | h
    · exact ps_okR hB.1 hi k
    · exact h σ
  exact va_getN E.1 E.2.1 (E.2.2.2.2.words args) hin E.2.2.2.1 E.2.2.2.2.2 hB.1.P k0 hk0 hc k hk (E.2.2.2.2.words args _ hl) (fun _ h => h) (hv adr) hd (kk adr H locs ls hB (ps_cn hok (ps_tl hs)) hL hls)
theorem pv_putI (E : ps_E p s m c cc nL own D ca) {index ci N : Nat} {C : String} {T : u_T} (κ i k : Nat) {ty : FieldType} (x : Int32) (fs : (Nat → Nat → Nat) → List Value) (hF : ∀ adr, ps_cell ca adr σ κ i = .inr (ci, fs adr)) (hF2 : ∀ adr, ps_F ca adr κ (va_up (ps_I σ κ i) k x) (ps_J σ κ i) (ps_R σ κ i) (ps_L σ κ i) = .inr (ci, (fs adr).set k (.int x))) (hlen : ∀ adr, k < (fs adr).length) (hc : ps_cl[ci]? = some (C, T, N)) (hin : ∀ w ∈ u_ws C T N, w ∈ ps_T) (ty0 : Nat → FieldType) (hty : ∀ k, k < N → parseFieldDescriptor (T k).2.2.1 = some (ty0 k)) (hnm : ∀ a, a < N → ∀ b, b < N → a ≠ b → (T a).2.1 ≠ (T b).2.1) (hk : k < N) (hl : Cond.fieldLink own index (T k).1 (T k).2.1 (T k).2.2.1 ∈ ps_T) (hfin : (T k).2.2.2 = false) (hdt : parseFieldDescriptor (T k).2.2.1 = some ty) (hn : narrow ty (.int x) = .int x) (hfit : fits ty (.int x) = true) (hd : decode cc pc = .ok (.putfield index, 3))
    (kk : ps_V p l e R s m args below meth c nL D ca A H0 adr0 σ0 Q (pc + 3) L st (ps_sI σ κ i k x) ce sl) : ps_V p l e R s m args below meth c nL D ca A H0 adr0 σ0 Q pc L (ps_int x :: ps_ref (some (κ, i)) :: st) σ ce sl :=
  by
  intro adr H locs ls hB hs hL hls
  have hi : i < ps_N σ κ := ps_hd (ps_tl hs)
  obtain ⟨k0, hk0⟩ := ps_ws_get (ca := ca) (adr := adr) hi (hB.1.1 κ i hi).1
  rw [hF adr] at hk0
  refine va_put (v := .int x) E.1 E.2.1 (E.2.2.2.2.words args) hin ty0 hty hnm E.2.2.2.1 E.2.2.2.2.2 hB.1.P hB.1.D hB.2.1 k0 hk0 hc k hk (E.2.2.2.2.words args _ hl) (fun _ h => h) hfin hdt hn hfit (hlen adr) hd (fun H1 locs1 hP1 hD1 hS1 => ?_)
  rw [← hF2 adr, ← ps_cI ca adr σ κ i k x] at hP1
  exact kk adr H1 locs1 ls ⟨hB.1.set hi hk0 hP1 rfl (fun a b h => ps_oI ca adr σ κ i k x a b h) hB.1.2.2, hS1, hB.2.2.1, hB.2.2.2.1, hB.2.2.2.2⟩ (fun a ha => ps_ok_N rfl (ps_tl (ps_tl hs) a ha)) (fun q hq => ps_ok_N rfl (hL q hq)) hls
theorem pv_putJ (E : ps_E p s m c cc nL own D ca) {index ci N : Nat} {C : String} {T : u_T} (κ i k : Nat) {ty : FieldType} (x : Int64) (fs : (Nat → Nat → Nat) → List Value) (hF : ∀ adr, ps_cell ca adr σ κ i = .inr (ci, fs adr)) (hF2 : ∀ adr, ps_F ca adr κ (ps_I σ κ i) (va_up (ps_J σ κ i) k x) (ps_R σ κ i) (ps_L σ κ i) = .inr (ci, (fs adr).set k (.long x))) (hlen : ∀ adr, k < (fs adr).length) (hc : ps_cl[ci]? = some (C, T, N)) (hin : ∀ w ∈ u_ws C T N, w ∈ ps_T) (ty0 : Nat → FieldType) (hty : ∀ k, k < N → parseFieldDescriptor (T k).2.2.1 = some (ty0 k)) (hnm : ∀ a, a < N → ∀ b, b < N → a ≠ b → (T a).2.1 ≠ (T b).2.1) (hk : k < N) (hl : Cond.fieldLink own index (T k).1 (T k).2.1 (T k).2.2.1 ∈ ps_T) (hfin : (T k).2.2.2 = false) (hdt : parseFieldDescriptor (T k).2.2.1 = some ty) (hn : narrow ty (.long x) = .long x) (hfit : fits ty (.long x) = true) (hd : decode cc pc = .ok (.putfield index, 3))
    (kk : ps_V p l e R s m args below meth c nL D ca A H0 adr0 σ0 Q (pc + 3) L st (ps_sJ σ κ i k x) ce sl) : ps_V p l e R s m args below meth c nL D ca A H0 adr0 σ0 Q pc L (ps_lng x :: ps_ref (some (κ, i)) :: st) σ ce sl :=
  by
  intro adr H locs ls hB hs hL hls
  have hi : i < ps_N σ κ := ps_hd (ps_tl hs)
  obtain ⟨k0, hk0⟩ := ps_ws_get (ca := ca) (adr := adr) hi (hB.1.1 κ i hi).1
  rw [hF adr] at hk0
  refine va_put (v := .long x) E.1 E.2.1 (E.2.2.2.2.words args) hin ty0 hty hnm E.2.2.2.1 E.2.2.2.2.2 hB.1.P hB.1.D hB.2.1 k0 hk0 hc k hk (E.2.2.2.2.words args _ hl) (fun _ h => h) hfin hdt hn hfit (hlen adr) hd (fun H1 locs1 hP1 hD1 hS1 => ?_)
  rw [← hF2 adr, ← ps_cJ ca adr σ κ i k x] at hP1
  exact kk adr H1 locs1 ls ⟨hB.1.set hi hk0 hP1 rfl (fun a b h => ps_oJ ca adr σ κ i k x a b h) hB.1.2.2, hS1, hB.2.2.1, hB.2.2.2.1, hB.2.2.2.2⟩ (fun a ha => ps_ok_N rfl (ps_tl (ps_tl hs) a ha)) (fun q hq => ps_ok_N rfl (hL q hq)) hls
theorem pv_putR (E : ps_E p s m c cc nL own D ca) {index ci N : Nat} {C : String} {T : u_T} (κ i k : Nat) {ty : FieldType} (x : Option (Nat × Nat)) (fs : (Nat → Nat → Nat) → List Value) (hF : ∀ adr, ps_cell ca adr σ κ i = .inr (ci, fs adr)) (hF2 : ∀ adr, ps_F ca adr κ (ps_I σ κ i) (ps_J σ κ i) (va_up (ps_R σ κ i) k x) (ps_L σ κ i) = .inr (ci, (fs adr).set k (va_rf (ps_e adr x)))) (hlen : ∀ adr, k < (fs adr).length) (hc : ps_cl[ci]? = some (C, T, N)) (hin : ∀ w ∈ u_ws C T N, w ∈ ps_T) (ty0 : Nat → FieldType) (hty : ∀ k, k < N → parseFieldDescriptor (T k).2.2.1 = some (ty0 k)) (hnm : ∀ a, a < N → ∀ b, b < N → a ≠ b → (T a).2.1 ≠ (T b).2.1) (hk : k < N) (hl : Cond.fieldLink own index (T k).1 (T k).2.1 (T k).2.2.1 ∈ ps_T) (hfin : (T k).2.2.2 = false) (hdt : parseFieldDescriptor (T k).2.2.1 = some ty) (href : (∃ n, ty = .object n) ∨ ∃ t, ty = .array t) (hd : decode cc pc = .ok (.putfield index, 3))
    (kk : ps_V p l e R s m args below meth c nL D ca A H0 adr0 σ0 Q (pc + 3) L st (ps_sR σ κ i k x) ce sl) : ps_V p l e R s m args below meth c nL D ca A H0 adr0 σ0 Q pc L (ps_ref x :: ps_ref (some (κ, i)) :: st) σ ce sl :=
  by
  intro adr H locs ls hB hs hL hls
  have hi : i < ps_N σ κ := ps_hd (ps_tl hs)
  have hn : narrow ty (va_rf (ps_e adr x)) = va_rf (ps_e adr x) := by rcases href with ⟨n, rfl⟩ | ⟨t, rfl⟩ <;> cases x <;> rfl
  have hfit : fits ty (va_rf (ps_e adr x)) = true := by rcases href with ⟨n, rfl⟩ | ⟨t, rfl⟩ <;> cases x <;> rfl
  obtain ⟨k0, hk0⟩ := ps_ws_get (ca := ca) (adr := adr) hi (hB.1.1 κ i hi).1
  rw [hF adr] at hk0
  refine va_put (v := va_rf (ps_e adr x)) E.1 E.2.1 (E.2.2.2.2.words args) hin ty0 hty hnm E.2.2.2.1 E.2.2.2.2.2 hB.1.P hB.1.D hB.2.1 k0 hk0 hc k hk (E.2.2.2.2.words args _ hl) (fun _ h => h) hfin hdt hn hfit (hlen adr) hd (fun H1 locs1 hP1 hD1 hS1 => ?_)
  rw [← hF2 adr, ← ps_cR ca adr σ κ i k x] at hP1
  exact kk adr H1 locs1 ls ⟨hB.1.set hi hk0 hP1 rfl (fun a b h => ps_oR ca adr σ κ i k x a b h) (ps_wfR hB.1.2.2 (ps_hd hs)), hS1, hB.2.2.1, hB.2.2.2.1, hB.2.2.2.2⟩ (fun a ha => ps_ok_N rfl (ps_tl (ps_tl hs) a ha)) (fun q hq => ps_ok_N rfl (hL q hq)) hls
theorem pv_putIN (E : ps_E p s m c cc nL own D ca) {index ci N : Nat} {C : String} {T : u_T} {host : String} (κ i k : Nat) {ty : FieldType} (x : Int32) (fs : (Nat → Nat → Nat) → List Value) (hF : ∀ adr, ps_cell ca adr σ κ i = .inr (ci, fs adr)) (hF2 : ∀ adr, ps_F ca adr κ (va_up (ps_I σ κ i) k x) (ps_J σ κ i) (ps_R σ κ i) (ps_L σ κ i) = .inr (ci, (fs adr).set k (.int x))) (hlen : ∀ adr, k < (fs adr).length) (hc : ps_cl[ci]? = some (C, T, N)) (hin : ∀ w ∈ u_ws C T N, w ∈ ps_T) (ty0 : Nat → FieldType) (hty : ∀ k, k < N → parseFieldDescriptor (T k).2.2.1 = some (ty0 k)) (hnm : ∀ a, a < N → ∀ b, b < N → a ≠ b → (T a).2.1 ≠ (T b).2.1) (hk : k < N) (hl : Cond.fieldLinkNest own index (T k).1 (T k).2.1 (T k).2.2.1 host ∈ ps_T) (hfin : (T k).2.2.2 = false) (hdt : parseFieldDescriptor (T k).2.2.1 = some ty) (hn : narrow ty (.int x) = .int x) (hfit : fits ty (.int x) = true) (hd : decode cc pc = .ok (.putfield index, 3))
    (kk : ps_V p l e R s m args below meth c nL D ca A H0 adr0 σ0 Q (pc + 3) L st (ps_sI σ κ i k x) ce sl) : ps_V p l e R s m args below meth c nL D ca A H0 adr0 σ0 Q pc L (ps_int x :: ps_ref (some (κ, i)) :: st) σ ce sl :=
  by
  intro adr H locs ls hB hs hL hls
  have hi : i < ps_N σ κ := ps_hd (ps_tl hs)
  obtain ⟨k0, hk0⟩ := ps_ws_get (ca := ca) (adr := adr) hi (hB.1.1 κ i hi).1
  rw [hF adr] at hk0
  refine va_putN (v := .int x) E.1 E.2.1 (E.2.2.2.2.words args) hin ty0 hty hnm E.2.2.2.1 E.2.2.2.2.2 hB.1.P hB.1.D hB.2.1 k0 hk0 hc k hk (E.2.2.2.2.words args _ hl) (fun _ h => h) hfin hdt hn hfit (hlen adr) hd (fun H1 locs1 hP1 hD1 hS1 => ?_)
  rw [← hF2 adr, ← ps_cI ca adr σ κ i k x] at hP1
  exact kk adr H1 locs1 ls ⟨hB.1.set hi hk0 hP1 rfl (fun a b h => ps_oI ca adr σ κ i k x a b h) hB.1.2.2, hS1, hB.2.2.1, hB.2.2.2.1, hB.2.2.2.2⟩ (fun a ha => ps_ok_N rfl (ps_tl (ps_tl hs) a ha)) (fun q hq => ps_ok_N rfl (hL q hq)) hls
theorem pv_putJN (E : ps_E p s m c cc nL own D ca) {index ci N : Nat} {C : String} {T : u_T} {host : String} (κ i k : Nat) {ty : FieldType} (x : Int64) (fs : (Nat → Nat → Nat) → List Value) (hF : ∀ adr, ps_cell ca adr σ κ i = .inr (ci, fs adr)) (hF2 : ∀ adr, ps_F ca adr κ (ps_I σ κ i) (va_up (ps_J σ κ i) k x) (ps_R σ κ i) (ps_L σ κ i) = .inr (ci, (fs adr).set k (.long x))) (hlen : ∀ adr, k < (fs adr).length) (hc : ps_cl[ci]? = some (C, T, N)) (hin : ∀ w ∈ u_ws C T N, w ∈ ps_T) (ty0 : Nat → FieldType) (hty : ∀ k, k < N → parseFieldDescriptor (T k).2.2.1 = some (ty0 k)) (hnm : ∀ a, a < N → ∀ b, b < N → a ≠ b → (T a).2.1 ≠ (T b).2.1) (hk : k < N) (hl : Cond.fieldLinkNest own index (T k).1 (T k).2.1 (T k).2.2.1 host ∈ ps_T) (hfin : (T k).2.2.2 = false) (hdt : parseFieldDescriptor (T k).2.2.1 = some ty) (hn : narrow ty (.long x) = .long x) (hfit : fits ty (.long x) = true) (hd : decode cc pc = .ok (.putfield index, 3))
    (kk : ps_V p l e R s m args below meth c nL D ca A H0 adr0 σ0 Q (pc + 3) L st (ps_sJ σ κ i k x) ce sl) : ps_V p l e R s m args below meth c nL D ca A H0 adr0 σ0 Q pc L (ps_lng x :: ps_ref (some (κ, i)) :: st) σ ce sl :=
  by
  intro adr H locs ls hB hs hL hls
  have hi : i < ps_N σ κ := ps_hd (ps_tl hs)
  obtain ⟨k0, hk0⟩ := ps_ws_get (ca := ca) (adr := adr) hi (hB.1.1 κ i hi).1
  rw [hF adr] at hk0
  refine va_putN (v := .long x) E.1 E.2.1 (E.2.2.2.2.words args) hin ty0 hty hnm E.2.2.2.1 E.2.2.2.2.2 hB.1.P hB.1.D hB.2.1 k0 hk0 hc k hk (E.2.2.2.2.words args _ hl) (fun _ h => h) hfin hdt hn hfit (hlen adr) hd (fun H1 locs1 hP1 hD1 hS1 => ?_)
  rw [← hF2 adr, ← ps_cJ ca adr σ κ i k x] at hP1
  exact kk adr H1 locs1 ls ⟨hB.1.set hi hk0 hP1 rfl (fun a b h => ps_oJ ca adr σ κ i k x a b h) hB.1.2.2, hS1, hB.2.2.1, hB.2.2.2.1, hB.2.2.2.2⟩ (fun a ha => ps_ok_N rfl (ps_tl (ps_tl hs) a ha)) (fun q hq => ps_ok_N rfl (hL q hq)) hls
theorem pv_putRN (E : ps_E p s m c cc nL own D ca) {index ci N : Nat} {C : String} {T : u_T} {host : String} (κ i k : Nat) {ty : FieldType} (x : Option (Nat × Nat)) (fs : (Nat → Nat → Nat) → List Value) (hF : ∀ adr, ps_cell ca adr σ κ i = .inr (ci, fs adr)) (hF2 : ∀ adr, ps_F ca adr κ (ps_I σ κ i) (ps_J σ κ i) (va_up (ps_R σ κ i) k x) (ps_L σ κ i) = .inr (ci, (fs adr).set k (va_rf (ps_e adr x)))) (hlen : ∀ adr, k < (fs adr).length) (hc : ps_cl[ci]? = some (C, T, N)) (hin : ∀ w ∈ u_ws C T N, w ∈ ps_T) (ty0 : Nat → FieldType) (hty : ∀ k, k < N → parseFieldDescriptor (T k).2.2.1 = some (ty0 k)) (hnm : ∀ a, a < N → ∀ b, b < N → a ≠ b → (T a).2.1 ≠ (T b).2.1) (hk : k < N) (hl : Cond.fieldLinkNest own index (T k).1 (T k).2.1 (T k).2.2.1 host ∈ ps_T) (hfin : (T k).2.2.2 = false) (hdt : parseFieldDescriptor (T k).2.2.1 = some ty) (href : (∃ n, ty = .object n) ∨ ∃ t, ty = .array t) (hd : decode cc pc = .ok (.putfield index, 3))
    (kk : ps_V p l e R s m args below meth c nL D ca A H0 adr0 σ0 Q (pc + 3) L st (ps_sR σ κ i k x) ce sl) : ps_V p l e R s m args below meth c nL D ca A H0 adr0 σ0 Q pc L (ps_ref x :: ps_ref (some (κ, i)) :: st) σ ce sl :=
  by
  intro adr H locs ls hB hs hL hls
  have hi : i < ps_N σ κ := ps_hd (ps_tl hs)
  have hn : narrow ty (va_rf (ps_e adr x)) = va_rf (ps_e adr x) := by rcases href with ⟨n, rfl⟩ | ⟨t, rfl⟩ <;> cases x <;> rfl
  have hfit : fits ty (va_rf (ps_e adr x)) = true := by rcases href with ⟨n, rfl⟩ | ⟨t, rfl⟩ <;> cases x <;> rfl
  obtain ⟨k0, hk0⟩ := ps_ws_get (ca := ca) (adr := adr) hi (hB.1.1 κ i hi).1
  rw [hF adr] at hk0
  refine va_putN (v := va_rf (ps_e adr x)) E.1 E.2.1 (E.2.2.2.2.words args) hin ty0 hty hnm E.2.2.2.1 E.2.2.2.2.2 hB.1.P hB.1.D hB.2.1 k0 hk0 hc k hk (E.2.2.2.2.words args _ hl) (fun _ h => h) hfin hdt hn hfit (hlen adr) hd (fun H1 locs1 hP1 hD1 hS1 => ?_)
  rw [← hF2 adr, ← ps_cR ca adr σ κ i k x] at hP1
  exact kk adr H1 locs1 ls ⟨hB.1.set hi hk0 hP1 rfl (fun a b h => ps_oR ca adr σ κ i k x a b h) (ps_wfR hB.1.2.2 (ps_hd hs)), hS1, hB.2.2.1, hB.2.2.2.1, hB.2.2.2.2⟩ (fun a ha => ps_ok_N rfl (ps_tl (ps_tl hs) a ha)) (fun q hq => ps_ok_N rfl (hL q hq)) hls
theorem pv_putIF (E : ps_E p s m c cc nL own D ca) {index ci N : Nat} {C : String} {T : u_T} (κ i k : Nat) {ty : FieldType} (x : Int32) (fs : (Nat → Nat → Nat) → List Value) (hF : ∀ adr, ps_cell ca adr σ κ i = .inr (ci, fs adr)) (hF2 : ∀ adr, ps_F ca adr κ (va_up (ps_I σ κ i) k x) (ps_J σ κ i) (ps_R σ κ i) (ps_L σ κ i) = .inr (ci, (fs adr).set k (.int x))) (hlen : ∀ adr, k < (fs adr).length) (hc : ps_cl[ci]? = some (C, T, N)) (hin : ∀ w ∈ u_ws C T N, w ∈ ps_T) (ty0 : Nat → FieldType) (hty : ∀ k, k < N → parseFieldDescriptor (T k).2.2.1 = some (ty0 k)) (hnm : ∀ a, a < N → ∀ b, b < N → a ≠ b → (T a).2.1 ≠ (T b).2.1) (hk : k < N) (hl : Cond.fieldLink own index (T k).1 (T k).2.1 (T k).2.2.1 ∈ ps_T) (hfin : (T k).2.2.2 = true) (hin2 : meth.name = "<init>") (hdecl : (T k).1 = own) (hdt : parseFieldDescriptor (T k).2.2.1 = some ty) (hn : narrow ty (.int x) = .int x) (hfit : fits ty (.int x) = true) (hd : decode cc pc = .ok (.putfield index, 3))
    (kk : ps_V p l e R s m args below meth c nL D ca A H0 adr0 σ0 Q (pc + 3) L st (ps_sI σ κ i k x) ce sl) : ps_V p l e R s m args below meth c nL D ca A H0 adr0 σ0 Q pc L (ps_int x :: ps_ref (some (κ, i)) :: st) σ ce sl :=
  by
  intro adr H locs ls hB hs hL hls
  have hi : i < ps_N σ κ := ps_hd (ps_tl hs)
  obtain ⟨k0, hk0⟩ := ps_ws_get (ca := ca) (adr := adr) hi (hB.1.1 κ i hi).1
  rw [hF adr] at hk0
  refine va_putF (v := .int x) E.1 E.2.1 (E.2.2.2.2.words args) hin ty0 hty hnm E.2.2.2.1 E.2.2.2.2.2 hB.1.P hB.1.D hB.2.1 k0 hk0 hc k hk (E.2.2.2.2.words args _ hl) (fun _ h => h) hfin hin2 hdecl hdt hn hfit (hlen adr) hd (fun H1 locs1 hP1 hD1 hS1 => ?_)
  rw [← hF2 adr, ← ps_cI ca adr σ κ i k x] at hP1
  exact kk adr H1 locs1 ls ⟨hB.1.set hi hk0 hP1 rfl (fun a b h => ps_oI ca adr σ κ i k x a b h) hB.1.2.2, hS1, hB.2.2.1, hB.2.2.2.1, hB.2.2.2.2⟩ (fun a ha => ps_ok_N rfl (ps_tl (ps_tl hs) a ha)) (fun q hq => ps_ok_N rfl (hL q hq)) hls
theorem pv_putJF (E : ps_E p s m c cc nL own D ca) {index ci N : Nat} {C : String} {T : u_T} (κ i k : Nat) {ty : FieldType} (x : Int64) (fs : (Nat → Nat → Nat) → List Value) (hF : ∀ adr, ps_cell ca adr σ κ i = .inr (ci, fs adr)) (hF2 : ∀ adr, ps_F ca adr κ (ps_I σ κ i) (va_up (ps_J σ κ i) k x) (ps_R σ κ i) (ps_L σ κ i) = .inr (ci, (fs adr).set k (.long x))) (hlen : ∀ adr, k < (fs adr).length) (hc : ps_cl[ci]? = some (C, T, N)) (hin : ∀ w ∈ u_ws C T N, w ∈ ps_T) (ty0 : Nat → FieldType) (hty : ∀ k, k < N → parseFieldDescriptor (T k).2.2.1 = some (ty0 k)) (hnm : ∀ a, a < N → ∀ b, b < N → a ≠ b → (T a).2.1 ≠ (T b).2.1) (hk : k < N) (hl : Cond.fieldLink own index (T k).1 (T k).2.1 (T k).2.2.1 ∈ ps_T) (hfin : (T k).2.2.2 = true) (hin2 : meth.name = "<init>") (hdecl : (T k).1 = own) (hdt : parseFieldDescriptor (T k).2.2.1 = some ty) (hn : narrow ty (.long x) = .long x) (hfit : fits ty (.long x) = true) (hd : decode cc pc = .ok (.putfield index, 3))
    (kk : ps_V p l e R s m args below meth c nL D ca A H0 adr0 σ0 Q (pc + 3) L st (ps_sJ σ κ i k x) ce sl) : ps_V p l e R s m args below meth c nL D ca A H0 adr0 σ0 Q pc L (ps_lng x :: ps_ref (some (κ, i)) :: st) σ ce sl :=
  by
  intro adr H locs ls hB hs hL hls
  have hi : i < ps_N σ κ := ps_hd (ps_tl hs)
  obtain ⟨k0, hk0⟩ := ps_ws_get (ca := ca) (adr := adr) hi (hB.1.1 κ i hi).1
  rw [hF adr] at hk0
  refine va_putF (v := .long x) E.1 E.2.1 (E.2.2.2.2.words args) hin ty0 hty hnm E.2.2.2.1 E.2.2.2.2.2 hB.1.P hB.1.D hB.2.1 k0 hk0 hc k hk (E.2.2.2.2.words args _ hl) (fun _ h => h) hfin hin2 hdecl hdt hn hfit (hlen adr) hd (fun H1 locs1 hP1 hD1 hS1 => ?_)
  rw [← hF2 adr, ← ps_cJ ca adr σ κ i k x] at hP1
  exact kk adr H1 locs1 ls ⟨hB.1.set hi hk0 hP1 rfl (fun a b h => ps_oJ ca adr σ κ i k x a b h) hB.1.2.2, hS1, hB.2.2.1, hB.2.2.2.1, hB.2.2.2.2⟩ (fun a ha => ps_ok_N rfl (ps_tl (ps_tl hs) a ha)) (fun q hq => ps_ok_N rfl (hL q hq)) hls
theorem pv_putRF (E : ps_E p s m c cc nL own D ca) {index ci N : Nat} {C : String} {T : u_T} (κ i k : Nat) {ty : FieldType} (x : Option (Nat × Nat)) (fs : (Nat → Nat → Nat) → List Value) (hF : ∀ adr, ps_cell ca adr σ κ i = .inr (ci, fs adr)) (hF2 : ∀ adr, ps_F ca adr κ (ps_I σ κ i) (ps_J σ κ i) (va_up (ps_R σ κ i) k x) (ps_L σ κ i) = .inr (ci, (fs adr).set k (va_rf (ps_e adr x)))) (hlen : ∀ adr, k < (fs adr).length) (hc : ps_cl[ci]? = some (C, T, N)) (hin : ∀ w ∈ u_ws C T N, w ∈ ps_T) (ty0 : Nat → FieldType) (hty : ∀ k, k < N → parseFieldDescriptor (T k).2.2.1 = some (ty0 k)) (hnm : ∀ a, a < N → ∀ b, b < N → a ≠ b → (T a).2.1 ≠ (T b).2.1) (hk : k < N) (hl : Cond.fieldLink own index (T k).1 (T k).2.1 (T k).2.2.1 ∈ ps_T) (hfin : (T k).2.2.2 = true) (hin2 : meth.name = "<init>") (hdecl : (T k).1 = own) (hdt : parseFieldDescriptor (T k).2.2.1 = some ty) (href : (∃ n, ty = .object n) ∨ ∃ t, ty = .array t) (hd : decode cc pc = .ok (.putfield index, 3))
    (kk : ps_V p l e R s m args below meth c nL D ca A H0 adr0 σ0 Q (pc + 3) L st (ps_sR σ κ i k x) ce sl) : ps_V p l e R s m args below meth c nL D ca A H0 adr0 σ0 Q pc L (ps_ref x :: ps_ref (some (κ, i)) :: st) σ ce sl :=
  by
  intro adr H locs ls hB hs hL hls
  have hi : i < ps_N σ κ := ps_hd (ps_tl hs)
  have hn : narrow ty (va_rf (ps_e adr x)) = va_rf (ps_e adr x) := by rcases href with ⟨n, rfl⟩ | ⟨t, rfl⟩ <;> cases x <;> rfl
  have hfit : fits ty (va_rf (ps_e adr x)) = true := by rcases href with ⟨n, rfl⟩ | ⟨t, rfl⟩ <;> cases x <;> rfl
  obtain ⟨k0, hk0⟩ := ps_ws_get (ca := ca) (adr := adr) hi (hB.1.1 κ i hi).1
  rw [hF adr] at hk0
  refine va_putF (v := va_rf (ps_e adr x)) E.1 E.2.1 (E.2.2.2.2.words args) hin ty0 hty hnm E.2.2.2.1 E.2.2.2.2.2 hB.1.P hB.1.D hB.2.1 k0 hk0 hc k hk (E.2.2.2.2.words args _ hl) (fun _ h => h) hfin hin2 hdecl hdt hn hfit (hlen adr) hd (fun H1 locs1 hP1 hD1 hS1 => ?_)
  rw [← hF2 adr, ← ps_cR ca adr σ κ i k x] at hP1
  exact kk adr H1 locs1 ls ⟨hB.1.set hi hk0 hP1 rfl (fun a b h => ps_oR ca adr σ κ i k x a b h) (ps_wfR hB.1.2.2 (ps_hd hs)), hS1, hB.2.2.1, hB.2.2.2.1, hB.2.2.2.2⟩ (fun a ha => ps_ok_N rfl (ps_tl (ps_tl hs) a ha)) (fun q hq => ps_ok_N rfl (hL q hq)) hls
theorem pv_aaload (E : ps_E p s m c cc nL own D ca) {t0 : Nat} {C : String} (κ n : Nat) {i : Int32} (hF : ∀ adr fI fJ fR len, ps_F ca adr κ fI fJ fR len = .inl (ca κ, len, .inr (.inr (.inr (.inr fun j => ps_e adr (fR j)))))) (ht : (ps_tys ca)[t0]? = some (ca κ, .object C)) (hin : vp_in i (ps_L σ κ n)) (hd : decode cc pc = .ok (.aaload, 1))
    (kk : ps_V p l e R s m args below meth c nL D ca A H0 adr0 σ0 Q (pc + 1) L (ps_ref (ps_R σ κ n i.toNatClampNeg) :: st) σ ce sl) : ps_V p l e R s m args below meth c nL D ca A H0 adr0 σ0 Q pc L (ps_int i :: ps_ref (some (κ, n)) :: st) σ ce sl :=
  by
  intro adr H locs ls hB hs hL hls
  have hi : n < ps_N σ κ := ps_hd (ps_tl hs)
  obtain ⟨k0, hk0⟩ := ps_ws_get (ca := ca) (adr := adr) hi (hB.1.1 κ n hi).1
  rw [show ps_cell ca adr σ κ n = _ from hF adr _ _ _ _] at hk0
  exact va_aldq E.1 E.2.1 E.2.2.2.2.2 hB.1.P k0 t0 hk0 ht hin hd (kk adr H locs ls hB (ps_cn (ps_okR hB.1 hi _) (ps_tl (ps_tl hs))) hL hls)
theorem pv_iaload (E : ps_E p s m c cc nL own D ca) {t0 : Nat} (κ n : Nat) {i : Int32} (hF : ∀ adr fI fJ fR len, ps_F ca adr κ fI fJ fR len = .inl (ca κ, len, .inl fI)) (ht : (ps_tys ca)[t0]? = some (ca κ, .int)) (hin : vp_in i (ps_L σ κ n)) (hd : decode cc pc = .ok (.iaload, 1))
    (kk : ps_V p l e R s m args below meth c nL D ca A H0 adr0 σ0 Q (pc + 1) L (ps_int (ps_I σ κ n i.toNatClampNeg) :: st) σ ce sl) : ps_V p l e R s m args below meth c nL D ca A H0 adr0 σ0 Q pc L (ps_int i :: ps_ref (some (κ, n)) :: st) σ ce sl :=
  by
  intro adr H locs ls hB hs hL hls
  have hi : n < ps_N σ κ := ps_hd (ps_tl hs)
  obtain ⟨k0, hk0⟩ := ps_ws_get (ca := ca) (adr := adr) hi (hB.1.1 κ n hi).1
  rw [show ps_cell ca adr σ κ n = _ from hF adr _ _ _ _] at hk0
  exact va_iald E.1 E.2.1 E.2.2.2.2.2 hB.1.P k0 t0 hk0 ht hin hd (kk adr H locs ls hB (ps_cn trivial (ps_tl (ps_tl hs))) hL hls)
theorem pv_baload (E : ps_E p s m c cc nL own D ca) {t0 : Nat} (κ n : Nat) {i : Int32} (hF : ∀ adr fI fJ fR len, ps_F ca adr κ fI fJ fR len = .inl (ca κ, len, .inl fI)) (ht : (ps_tys ca)[t0]? = some (ca κ, .boolean)) (hin : vp_in i (ps_L σ κ n)) (hd : decode cc pc = .ok (.baload, 1))
    (kk : ps_V p l e R s m args below meth c nL D ca A H0 adr0 σ0 Q (pc + 1) L (ps_int (ps_I σ κ n i.toNatClampNeg) :: st) σ ce sl) : ps_V p l e R s m args below meth c nL D ca A H0 adr0 σ0 Q pc L (ps_int i :: ps_ref (some (κ, n)) :: st) σ ce sl :=
  by
  intro adr H locs ls hB hs hL hls
  have hi : n < ps_N σ κ := ps_hd (ps_tl hs)
  obtain ⟨k0, hk0⟩ := ps_ws_get (ca := ca) (adr := adr) hi (hB.1.1 κ n hi).1
  rw [show ps_cell ca adr σ κ n = _ from hF adr _ _ _ _] at hk0
  exact va_zald E.1 E.2.1 E.2.2.2.2.2 hB.1.P k0 t0 hk0 ht hin hd (kk adr H locs ls hB (ps_cn trivial (ps_tl (ps_tl hs))) hL hls)
theorem pv_laload (E : ps_E p s m c cc nL own D ca) {t0 : Nat} (κ n : Nat) {i : Int32} (hF : ∀ adr fI fJ fR len, ps_F ca adr κ fI fJ fR len = .inl (ca κ, len, .inr (.inl fJ))) (ht : (ps_tys ca)[t0]? = some (ca κ, .long)) (hin : vp_in i (ps_L σ κ n)) (hd : decode cc pc = .ok (.laload, 1))
    (kk : ps_V p l e R s m args below meth c nL D ca A H0 adr0 σ0 Q (pc + 1) L (ps_lng (ps_J σ κ n i.toNatClampNeg) :: st) σ ce sl) : ps_V p l e R s m args below meth c nL D ca A H0 adr0 σ0 Q pc L (ps_int i :: ps_ref (some (κ, n)) :: st) σ ce sl :=
  by
  intro adr H locs ls hB hs hL hls
  have hi : n < ps_N σ κ := ps_hd (ps_tl hs)
  obtain ⟨k0, hk0⟩ := ps_ws_get (ca := ca) (adr := adr) hi (hB.1.1 κ n hi).1
  rw [show ps_cell ca adr σ κ n = _ from hF adr _ _ _ _] at hk0
  exact va_lald E.1 E.2.1 E.2.2.2.2.2 hB.1.P k0 t0 hk0 ht hin hd (kk adr H locs ls hB (ps_cn trivial (ps_tl (ps_tl hs))) hL hls)
theorem pv_alenR (E : ps_E p s m c cc nL own D ca) {t0 : Nat} {ty : FieldType} (κ n : Nat) {v : Int32} (hF : ∀ adr fI fJ fR len, ps_F ca adr κ fI fJ fR len = .inl (ca κ, len, .inr (.inr (.inr (.inr fun j => ps_e adr (fR j)))))) (ht : (ps_tys ca)[t0]? = some (ca κ, ty)) (hv : Int32.ofNat (ps_L σ κ n) = v) (hd : decode cc pc = .ok (.arraylength, 1))
    (kk : ps_V p l e R s m args below meth c nL D ca A H0 adr0 σ0 Q (pc + 1) L (ps_int v :: st) σ ce sl) : ps_V p l e R s m args below meth c nL D ca A H0 adr0 σ0 Q pc L (ps_ref (some (κ, n)) :: st) σ ce sl :=
  by
  intro adr H locs ls hB hs hL hls
  have hi : n < ps_N σ κ := ps_hd hs
  obtain ⟨k0, hk0⟩ := ps_ws_get (ca := ca) (adr := adr) hi (hB.1.1 κ n hi).1
  rw [show ps_cell ca adr σ κ n = _ from hF adr _ _ _ _] at hk0
  exact va_alen E.1 E.2.1 E.2.2.2.2.2 hB.1.P k0 t0 hk0 ht hv hd (kk adr H locs ls hB (ps_cn trivial (ps_tl hs)) hL hls)
theorem pv_alenI (E : ps_E p s m c cc nL own D ca) {t0 : Nat} {ty : FieldType} (κ n : Nat) {v : Int32} (hF : ∀ adr fI fJ fR len, ps_F ca adr κ fI fJ fR len = .inl (ca κ, len, .inl fI)) (ht : (ps_tys ca)[t0]? = some (ca κ, ty)) (hv : Int32.ofNat (ps_L σ κ n) = v) (hd : decode cc pc = .ok (.arraylength, 1))
    (kk : ps_V p l e R s m args below meth c nL D ca A H0 adr0 σ0 Q (pc + 1) L (ps_int v :: st) σ ce sl) : ps_V p l e R s m args below meth c nL D ca A H0 adr0 σ0 Q pc L (ps_ref (some (κ, n)) :: st) σ ce sl :=
  by
  intro adr H locs ls hB hs hL hls
  have hi : n < ps_N σ κ := ps_hd hs
  obtain ⟨k0, hk0⟩ := ps_ws_get (ca := ca) (adr := adr) hi (hB.1.1 κ n hi).1
  rw [show ps_cell ca adr σ κ n = _ from hF adr _ _ _ _] at hk0
  exact va_alen E.1 E.2.1 E.2.2.2.2.2 hB.1.P k0 t0 hk0 ht hv hd (kk adr H locs ls hB (ps_cn trivial (ps_tl hs)) hL hls)
theorem pv_alenJ (E : ps_E p s m c cc nL own D ca) {t0 : Nat} {ty : FieldType} (κ n : Nat) {v : Int32} (hF : ∀ adr fI fJ fR len, ps_F ca adr κ fI fJ fR len = .inl (ca κ, len, .inr (.inl fJ))) (ht : (ps_tys ca)[t0]? = some (ca κ, ty)) (hv : Int32.ofNat (ps_L σ κ n) = v) (hd : decode cc pc = .ok (.arraylength, 1))
    (kk : ps_V p l e R s m args below meth c nL D ca A H0 adr0 σ0 Q (pc + 1) L (ps_int v :: st) σ ce sl) : ps_V p l e R s m args below meth c nL D ca A H0 adr0 σ0 Q pc L (ps_ref (some (κ, n)) :: st) σ ce sl :=
  by
  intro adr H locs ls hB hs hL hls
  have hi : n < ps_N σ κ := ps_hd hs
  obtain ⟨k0, hk0⟩ := ps_ws_get (ca := ca) (adr := adr) hi (hB.1.1 κ n hi).1
  rw [show ps_cell ca adr σ κ n = _ from hF adr _ _ _ _] at hk0
  exact va_alen E.1 E.2.1 E.2.2.2.2.2 hB.1.P k0 t0 hk0 ht hv hd (kk adr H locs ls hB (ps_cn trivial (ps_tl hs)) hL hls)
theorem pv_iastore (E : ps_E p s m c cc nL own D ca) {t0 : Nat} (κ n : Nat) {i : Int32} {x : Int32} (hF : ∀ adr fI fJ fR len, ps_F ca adr κ fI fJ fR len = .inl (ca κ, len, .inl fI)) (ht : (ps_tys ca)[t0]? = some (ca κ, .int)) (hin : vp_in i (ps_L σ κ n)) (hd : decode cc pc = .ok (.iastore, 1))
    (kk : ps_V p l e R s m args below meth c nL D ca A H0 adr0 σ0 Q (pc + 1) L st (ps_sI σ κ n i.toNatClampNeg x) ce sl) : ps_V p l e R s m args below meth c nL D ca A H0 adr0 σ0 Q pc L (ps_int x :: ps_int i :: ps_ref (some (κ, n)) :: st) σ ce sl :=
  by
  intro adr H locs ls hB hs hL hls
  have hi : n < ps_N σ κ := ps_hd (ps_tl (ps_tl hs))
  obtain ⟨k0, hk0⟩ := ps_ws_get (ca := ca) (adr := adr) hi (hB.1.1 κ n hi).1
  rw [show ps_cell ca adr σ κ n = _ from hF adr _ _ _ _] at hk0
  refine va_iast E.1 E.2.1 E.2.2.2.2.2 hB.1.P hB.1.D hB.2.1 k0 t0 hk0 ht hin hd (fun H1 locs1 hP1 hD1 hS1 => ?_)
  have e1 : ps_cell ca adr (ps_sI σ κ n i.toNatClampNeg x) κ n = _ := (ps_cI ca adr σ κ n i.toNatClampNeg x).trans (hF adr _ _ _ _)
  exact kk adr H1 locs1 ls ⟨hB.1.set hi hk0 (by rw [e1]; exact hP1) rfl (fun a b h => ps_oI ca adr σ κ n _ x a b h) hB.1.2.2, hS1, hB.2.2.1, hB.2.2.2.1, hB.2.2.2.2⟩ (fun a ha => ps_ok_N rfl (ps_tl (ps_tl (ps_tl hs)) a ha)) (fun q hq => ps_ok_N rfl (hL q hq)) hls
theorem pv_bastore (E : ps_E p s m c cc nL own D ca) {t0 : Nat} (κ n : Nat) {i : Int32} {x : Int32} (hF : ∀ adr fI fJ fR len, ps_F ca adr κ fI fJ fR len = .inl (ca κ, len, .inl fI)) (ht : (ps_tys ca)[t0]? = some (ca κ, .boolean)) (hin : vp_in i (ps_L σ κ n)) (hx : vp_nar .boolean x = x) (hd : decode cc pc = .ok (.bastore, 1))
    (kk : ps_V p l e R s m args below meth c nL D ca A H0 adr0 σ0 Q (pc + 1) L st (ps_sI σ κ n i.toNatClampNeg x) ce sl) : ps_V p l e R s m args below meth c nL D ca A H0 adr0 σ0 Q pc L (ps_int x :: ps_int i :: ps_ref (some (κ, n)) :: st) σ ce sl :=
  by
  intro adr H locs ls hB hs hL hls
  have hi : n < ps_N σ κ := ps_hd (ps_tl (ps_tl hs))
  obtain ⟨k0, hk0⟩ := ps_ws_get (ca := ca) (adr := adr) hi (hB.1.1 κ n hi).1
  rw [show ps_cell ca adr σ κ n = _ from hF adr _ _ _ _] at hk0
  refine va_zast E.1 E.2.1 E.2.2.2.2.2 hB.1.P hB.1.D hB.2.1 k0 t0 hk0 ht hin hd (fun H1 locs1 hP1 hD1 hS1 => ?_)
  rw [hx] at hP1
  have e1 : ps_cell ca adr (ps_sI σ κ n i.toNatClampNeg x) κ n = _ := (ps_cI ca adr σ κ n i.toNatClampNeg x).trans (hF adr _ _ _ _)
  exact kk adr H1 locs1 ls ⟨hB.1.set hi hk0 (by rw [e1]; exact hP1) rfl (fun a b h => ps_oI ca adr σ κ n _ x a b h) hB.1.2.2, hS1, hB.2.2.1, hB.2.2.2.1, hB.2.2.2.2⟩ (fun a ha => ps_ok_N rfl (ps_tl (ps_tl (ps_tl hs)) a ha)) (fun q hq => ps_ok_N rfl (hL q hq)) hls
theorem pv_lastore (E : ps_E p s m c cc nL own D ca) {t0 : Nat} (κ n : Nat) {i : Int32} {x : Int64} (hF : ∀ adr fI fJ fR len, ps_F ca adr κ fI fJ fR len = .inl (ca κ, len, .inr (.inl fJ))) (ht : (ps_tys ca)[t0]? = some (ca κ, .long)) (hin : vp_in i (ps_L σ κ n)) (hd : decode cc pc = .ok (.lastore, 1))
    (kk : ps_V p l e R s m args below meth c nL D ca A H0 adr0 σ0 Q (pc + 1) L st (ps_sJ σ κ n i.toNatClampNeg x) ce sl) : ps_V p l e R s m args below meth c nL D ca A H0 adr0 σ0 Q pc L (ps_lng x :: ps_int i :: ps_ref (some (κ, n)) :: st) σ ce sl :=
  by
  intro adr H locs ls hB hs hL hls
  have hi : n < ps_N σ κ := ps_hd (ps_tl (ps_tl hs))
  obtain ⟨k0, hk0⟩ := ps_ws_get (ca := ca) (adr := adr) hi (hB.1.1 κ n hi).1
  rw [show ps_cell ca adr σ κ n = _ from hF adr _ _ _ _] at hk0
  refine va_last E.1 E.2.1 E.2.2.2.2.2 hB.1.P hB.1.D hB.2.1 k0 t0 hk0 ht hin hd (fun H1 locs1 hP1 hD1 hS1 => ?_)
  have e1 : ps_cell ca adr (ps_sJ σ κ n i.toNatClampNeg x) κ n = _ := (ps_cJ ca adr σ κ n i.toNatClampNeg x).trans (hF adr _ _ _ _)
  exact kk adr H1 locs1 ls ⟨hB.1.set hi hk0 (by rw [e1]; exact hP1) rfl (fun a b h => ps_oJ ca adr σ κ n _ x a b h) hB.1.2.2, hS1, hB.2.2.1, hB.2.2.2.1, hB.2.2.2.2⟩ (fun a ha => ps_ok_N rfl (ps_tl (ps_tl (ps_tl hs)) a ha)) (fun q hq => ps_ok_N rfl (hL q hq)) hls
theorem ps_e_up (adr : Nat → Nat → Nat) (f : Nat → Option (Nat × Nat)) (k : Nat) (r : Option (Nat × Nat)) : (fun j => ps_e adr (va_up f k r j)) = va_up (fun j => ps_e adr (f j)) k (ps_e adr r) := by
  funext j
  by_cases h : j = k
  · subst h
    rw [va_up_self, va_up_self]
  · rw [va_up_ne _ _ h, va_up_ne _ _ h]
theorem pv_aastore (E : ps_E p s m c cc nL own D ca) {t0 ci : Nat} {r : vw_C} (κ n κt j : Nat) {i : Int32} (hF : ∀ adr fI fJ fR len, ps_F ca adr κ fI fJ fR len = .inl (ca κ, len, .inr (.inr (.inr (.inr fun j => ps_e adr (fR j)))))) (ht : (ps_tys ca)[t0]? = some (ca κ, .object r.1)) (hc : ps_cl[ci]? = some r) (hFt : ∀ adr, ∃ vs, ps_cell ca adr σ κt j = .inr (ci, vs)) (hin : vp_in i (ps_L σ κ n)) (hd : decode cc pc = .ok (.aastore, 1))
    (kk : ps_V p l e R s m args below meth c nL D ca A H0 adr0 σ0 Q (pc + 1) L st (ps_sR σ κ n i.toNatClampNeg (some (κt, j))) ce sl) : ps_V p l e R s m args below meth c nL D ca A H0 adr0 σ0 Q pc L (ps_ref (some (κt, j)) :: ps_int i :: ps_ref (some (κ, n)) :: st) σ ce sl :=
  by
  intro adr H locs ls hB hs hL hls
  have hi : n < ps_N σ κ := ps_hd (ps_tl (ps_tl hs))
  have hj : j < ps_N σ κt := ps_hd hs
  obtain ⟨k0, hk0⟩ := ps_ws_get (ca := ca) (adr := adr) hi (hB.1.1 κ n hi).1
  obtain ⟨k1, hk1⟩ := ps_ws_get (ca := ca) (adr := adr) hj (hB.1.1 κt j hj).1
  obtain ⟨vs, hvs⟩ := hFt adr
  rw [hvs] at hk1
  rw [show ps_cell ca adr σ κ n = _ from hF adr _ _ _ _] at hk0
  refine va_astq E.1 E.2.1 E.2.2.2.2.2 hB.1.P hB.1.D hB.2.1 k0 t0 k1 ci hk0 ht hk1 hc hin hd (fun H1 locs1 hP1 hD1 hS1 => ?_)
  have e1 : ps_cell ca adr (ps_sR σ κ n i.toNatClampNeg (some (κt, j))) κ n = _ := (ps_cR ca adr σ κ n i.toNatClampNeg (some (κt, j))).trans (hF adr _ _ _ _)
  rw [ps_e_up adr] at e1
  exact kk adr H1 locs1 ls ⟨hB.1.set hi hk0 (by rw [e1]; exact hP1) rfl (fun a b h => ps_oR ca adr σ κ n _ _ a b h) (ps_wfR hB.1.2.2 hj), hS1, hB.2.2.1, hB.2.2.2.1, hB.2.2.2.2⟩ (fun a ha => ps_ok_N rfl (ps_tl (ps_tl (ps_tl hs)) a ha)) (fun q hq => ps_ok_N rfl (hL q hq)) hls
theorem pv_aastoreN (E : ps_E p s m c cc nL own D ca) {t0 : Nat} {C : String} (κ n : Nat) {i : Int32} (hF : ∀ adr fI fJ fR len, ps_F ca adr κ fI fJ fR len = .inl (ca κ, len, .inr (.inr (.inr (.inr fun j => ps_e adr (fR j)))))) (ht : (ps_tys ca)[t0]? = some (ca κ, .object C)) (hin : vp_in i (ps_L σ κ n)) (hd : decode cc pc = .ok (.aastore, 1))
    (kk : ps_V p l e R s m args below meth c nL D ca A H0 adr0 σ0 Q (pc + 1) L st (ps_sR σ κ n i.toNatClampNeg none) ce sl) : ps_V p l e R s m args below meth c nL D ca A H0 adr0 σ0 Q pc L (ps_ref none :: ps_int i :: ps_ref (some (κ, n)) :: st) σ ce sl :=
  by
  intro adr H locs ls hB hs hL hls
  have hi : n < ps_N σ κ := ps_hd (ps_tl (ps_tl hs))
  obtain ⟨k0, hk0⟩ := ps_ws_get (ca := ca) (adr := adr) hi (hB.1.1 κ n hi).1
  rw [show ps_cell ca adr σ κ n = _ from hF adr _ _ _ _] at hk0
  refine va_astqN E.1 E.2.1 E.2.2.2.2.2 hB.1.P hB.1.D hB.2.1 k0 t0 hk0 ht hin hd (fun H1 locs1 hP1 hD1 hS1 => ?_)
  have e1 : ps_cell ca adr (ps_sR σ κ n i.toNatClampNeg none) κ n = _ := (ps_cR ca adr σ κ n i.toNatClampNeg none).trans (hF adr _ _ _ _)
  rw [ps_e_up adr] at e1
  exact kk adr H1 locs1 ls ⟨hB.1.set hi hk0 (by rw [e1]; exact hP1) rfl (fun a b h => ps_oR ca adr σ κ n _ _ a b h) (ps_wfR hB.1.2.2 trivial), hS1, hB.2.2.1, hB.2.2.2.1, hB.2.2.2.2⟩ (fun a ha => ps_ok_N rfl (ps_tl (ps_tl (ps_tl hs)) a ha)) (fun q hq => ps_ok_N rfl (hL q hq)) hls
/-- behind a new cell: old values are where they were -/
theorem ps_fresh {κ len q : Nat} {ev : va_E} {adr : Nat → Nat → Nat} {H H1 : Heap} {locs : List Loc} {ls : Array Slot} {n : Nat} (hB : ps_B D ca A H0 adr0 σ0 adr σ H locs) (hs : ∀ a ∈ st, ps_ok σ a) (hL : ∀ q ∈ L, ps_ok σ q.2) (hls : lv_has ls nL (L.map fun q => (q.1, ps_v adr q.2)))
    (hκ : κ < ps_NK) (hP : va_P D ps_cl (ps_ws ca adr σ ++ [(q, ev)]) H1) (hD : va_D A (ps_ws ca adr σ ++ [(q, ev)])) (hS : va_S A H0 H1 locs) (he : ∀ adr', ps_F ca adr' κ (fun _ => 0) (fun _ => 0) (fun _ => none) len = ev)
    (kk : ps_V p l e R s m args below meth c nL D ca A H0 adr0 σ0 Q n L (ps_ref (some (κ, ps_N σ κ)) :: st) (ps_mk σ κ len) ce sl) : W p l e R s m args below meth c H1 locs ce sl Q (F0 m n ls (.ref q :: st.map (ps_v adr))) := by
  have hag : ∀ a b, b < ps_N σ a → (fun a b => if a = κ ∧ b = ps_N σ κ then q else adr a b) a b = adr a b := by
    intro a b hb
    refine if_neg ?_
    rintro ⟨rfl, rfl⟩
    omega
  have hmono : ∀ a, ps_N σ a ≤ ps_N (ps_mk σ κ len) a := by
    intro a
    show ps_N σ a ≤ (if a = κ then ps_N σ κ + 1 else ps_N σ a)
    by_cases ha : a = κ
    · subst ha; rw [if_pos rfl]; omega
    · rw [if_neg ha]; exact Nat.le_refl _
  have hnew : ps_N σ κ < ps_N (ps_mk σ κ len) κ := by
    show ps_N σ κ < (if κ = κ then ps_N σ κ + 1 else ps_N σ κ)
    rw [if_pos rfl]; omega
  have K := kk (fun a b => if a = κ ∧ b = ps_N σ κ then q else adr a b) H1 locs ls ⟨hB.1.push hκ hP hD he, hS, hB.2.2.1, fun a b hb => (hag a b (Nat.lt_of_lt_of_le hb (hB.2.2.2.2 a))).trans (hB.2.2.2.1 a b hb), fun a => Nat.le_trans (hB.2.2.2.2 a) (hmono a)⟩
    (ps_cn hnew (fun a ha => ps_ok_up hmono (hs a ha))) (fun q hq => ps_ok_up hmono (hL q hq)) (by rw [ps_L_eq hag hL]; exact hls)
  have e3 : (ps_ref (some (κ, ps_N σ κ)) :: st).map (ps_v (fun a b => if a = κ ∧ b = ps_N σ κ then q else adr a b)) = .ref q :: st.map (ps_v adr) := by
    rw [List.map_cons, ps_st_eq hag hs]
    congr 1
    show Value.ref (if κ = κ ∧ ps_N σ κ = ps_N σ κ then q else _) = .ref q
    rw [if_pos ⟨rfl, rfl⟩]
  rw [e3] at K
  exact K
theorem pv_new (E : ps_E p s m c cc nL own D ca) {index ci N : Nat} {C : String} {T : u_T} (κ : Nat) {fs : List Value} (hκ : κ < ps_NK) (he : ∀ adr, ps_F ca adr κ (fun _ => 0) (fun _ => 0) (fun _ => none) 0 = .inr (ci, fs)) (hc : ps_cl[ci]? = some (C, T, N)) (hin : ∀ w ∈ u_ws C T N, w ∈ ps_T) (ty : Nat → FieldType) (hty : ∀ k, k < N → parseFieldDescriptor (T k).2.2.1 = some (ty k)) (w1 : Cond.classLink own index C ∈ ps_T) (w2 : Cond.instantiable C N ∈ ps_T) (w3 : Cond.initialized C ∈ ps_T) (hfs : ∀ j, j < N → defaultValue (ty j) = vp_V fs j) (h1 : ce + 1 ≤ R.cells) (h2 : sl + N ≤ R.slots) (hd : decode cc pc = .ok (.new index, 3))
    (kk : ps_V p l e R s m args below meth c nL D ca A H0 adr0 σ0 Q (pc + 3) L (ps_ref (some (κ, ps_N σ κ)) :: st) (ps_mk σ κ 0) (ce + 1) (sl + N)) : ps_V p l e R s m args below meth c nL D ca A H0 adr0 σ0 Q pc L st σ ce sl :=
  by
  intro adr H locs ls hB hs hL hls
  exact va_new E.1 E.2.1 (E.2.2.2.2.words args) hin ty hty E.2.2.2.1 (E.2.2.2.2.words args _ w1) (E.2.2.2.2.words args _ w2) (E.2.2.2.2.words args _ w3) E.2.2.2.2.2 hB.1.P hB.1.D hB.2.1 hB.2.2.1 hc hfs h1 h2 hd (fun q H1 hP hD hS => ps_fresh hB hs hL hls hκ hP hD hS he kk)
theorem pv_anew (E : ps_E p s m c cc nL own D ca) {index t0 N : Nat} {C : String} (κ : Nat) {n : Int32} (hκ : κ < ps_NK) (hF : ∀ adr fI fJ fR len, ps_F ca adr κ fI fJ fR len = .inl (ca κ, len, .inr (.inr (.inr (.inr fun j => ps_e adr (fR j)))))) (ht : (ps_tys ca)[t0]? = some (ca κ, .object C)) (w1 : Cond.classLink own index C ∈ ps_T) (w2 : Cond.arrayOver (.object C) ∈ ps_T) (hn : ¬ n < 0) (hN : n.toNatClampNeg = N) (hbytes : N * 4 ≤ 536870912) (h1 : ce + 1 ≤ R.cells) (h2 : sl + N ≤ R.slots) (hd : decode cc pc = .ok (.anewarray index, 3))
    (kk : ps_V p l e R s m args below meth c nL D ca A H0 adr0 σ0 Q (pc + 3) L (ps_ref (some (κ, ps_N σ κ)) :: st) (ps_mk σ κ N) (ce + 1) (sl + N)) : ps_V p l e R s m args below meth c nL D ca A H0 adr0 σ0 Q pc L (ps_int n :: st) σ ce sl :=
  by
  intro adr H locs ls hB hs hL hls
  refine va_newq E.1 E.2.1 E.2.2.2.1 (E.2.2.2.2.words args _ w1) (va_AO.of (E.2.2.2.2.words args _ w2)) E.2.2.2.2.2 hB.1.P hB.1.D hB.2.1 hB.2.2.1 hn hN hbytes h1 h2 hd (fun q cA H1 hK hP hD hS => ?_)
  have hcA : cA = ca κ := by
    obtain ⟨kA, comp, -, -, -, f4⟩ := (hK.2 (ps_tys ca).length (cA, .object C) (by rw [List.getElem?_append_right (Nat.le_refl _), Nat.sub_self]; rfl)).2
    obtain ⟨kA', comp', -, -, -, g4⟩ := (E.2.2.2.2.2.2 t0 _ ht).2
    exact Option.some.inj (f4.symm.trans g4)
  subst hcA
  exact ps_fresh hB (ps_tl hs) hL hls hκ hP hD hS (fun adr' => hF adr' _ _ _ _) kk
theorem pv_newI (E : ps_E p s m c cc nL own D ca) {t0 N : Nat} (κ : Nat) {n : Int32} (hκ : κ < ps_NK) (hF : ∀ adr fI fJ fR len, ps_F ca adr κ fI fJ fR len = .inl (ca κ, len, .inl fI)) (ht : (ps_tys ca)[t0]? = some (ca κ, .int)) (w1 : Cond.arrayClass .int ∈ ps_T) (hn : ¬ n < 0) (hN : n.toNatClampNeg = N) (hbytes : N * componentBytes .int ≤ 536870912) (h1 : ce + 1 ≤ R.cells) (h2 : sl + N ≤ R.slots) (hd : decode cc pc = .ok (.newarray .int, 2))
    (kk : ps_V p l e R s m args below meth c nL D ca A H0 adr0 σ0 Q (pc + 2) L (ps_ref (some (κ, ps_N σ κ)) :: st) (ps_mk σ κ N) (ce + 1) (sl + N)) : ps_V p l e R s m args below meth c nL D ca A H0 adr0 σ0 Q pc L (ps_int n :: st) σ ce sl :=
  by
  intro adr H locs ls hB hs hL hls
  refine va_newa (atype := .int) (a0 := (N, .inl fun _ => 0)) E.1 E.2.1 (E.2.2.2.2.words args _ w1) (ty := .int) rfl E.2.2.2.2.2 hB.1.P hB.1.D hB.2.1 hB.2.2.1 (fun _ => rfl) hn hN hbytes h1 h2 hd (fun q cA H1 hK hP hD hS => ?_)
  have hcA : cA = ca κ := by
    have f4 : s.vm.findClass _ = some cA := (hK.2 (ps_tys ca).length (cA, .int) (by rw [List.getElem?_append_right (Nat.le_refl _), Nat.sub_self]; rfl)).2
    have g4 : s.vm.findClass _ = some (ca κ) := (E.2.2.2.2.2.2 t0 _ ht).2
    exact Option.some.inj (f4.symm.trans g4)
  subst hcA
  exact ps_fresh hB (ps_tl hs) hL hls hκ hP hD hS (fun adr' => hF adr' _ _ _ _) kk
theorem pv_newZ (E : ps_E p s m c cc nL own D ca) {t0 N : Nat} (κ : Nat) {n : Int32} (hκ : κ < ps_NK) (hF : ∀ adr fI fJ fR len, ps_F ca adr κ fI fJ fR len = .inl (ca κ, len, .inl fI)) (ht : (ps_tys ca)[t0]? = some (ca κ, .boolean)) (w1 : Cond.arrayClass .boolean ∈ ps_T) (hn : ¬ n < 0) (hN : n.toNatClampNeg = N) (hbytes : N * componentBytes .boolean ≤ 536870912) (h1 : ce + 1 ≤ R.cells) (h2 : sl + N ≤ R.slots) (hd : decode cc pc = .ok (.newarray .boolean, 2))
    (kk : ps_V p l e R s m args below meth c nL D ca A H0 adr0 σ0 Q (pc + 2) L (ps_ref (some (κ, ps_N σ κ)) :: st) (ps_mk σ κ N) (ce + 1) (sl + N)) : ps_V p l e R s m args below meth c nL D ca A H0 adr0 σ0 Q pc L (ps_int n :: st) σ ce sl :=
  by
  intro adr H locs ls hB hs hL hls
  refine va_newa (atype := .boolean) (a0 := (N, .inl fun _ => 0)) E.1 E.2.1 (E.2.2.2.2.words args _ w1) (ty := .boolean) rfl E.2.2.2.2.2 hB.1.P hB.1.D hB.2.1 hB.2.2.1 (fun _ => rfl) hn hN hbytes h1 h2 hd (fun q cA H1 hK hP hD hS => ?_)
  have hcA : cA = ca κ := by
    have f4 : s.vm.findClass _ = some cA := (hK.2 (ps_tys ca).length (cA, .boolean) (by rw [List.getElem?_append_right (Nat.le_refl _), Nat.sub_self]; rfl)).2
    have g4 : s.vm.findClass _ = some (ca κ) := (E.2.2.2.2.2.2 t0 _ ht).2
    exact Option.some.inj (f4.symm.trans g4)
  subst hcA
  exact ps_fresh hB (ps_tl hs) hL hls hκ hP hD hS (fun adr' => hF adr' _ _ _ _) kk
theorem pv_newJ (E : ps_E p s m c cc nL own D ca) {t0 N : Nat} (κ : Nat) {n : Int32} (hκ : κ < ps_NK) (hF : ∀ adr fI fJ fR len, ps_F ca adr κ fI fJ fR len = .inl (ca κ, len, .inr (.inl fJ))) (ht : (ps_tys ca)[t0]? = some (ca κ, .long)) (w1 : Cond.arrayClass .long ∈ ps_T) (hn : ¬ n < 0) (hN : n.toNatClampNeg = N) (hbytes : N * componentBytes .long ≤ 536870912) (h1 : ce + 1 ≤ R.cells) (h2 : sl + N ≤ R.slots) (hd : decode cc pc = .ok (.newarray .long, 2))
    (kk : ps_V p l e R s m args below meth c nL D ca A H0 adr0 σ0 Q (pc + 2) L (ps_ref (some (κ, ps_N σ κ)) :: st) (ps_mk σ κ N) (ce + 1) (sl + N)) : ps_V p l e R s m args below meth c nL D ca A H0 adr0 σ0 Q pc L (ps_int n :: st) σ ce sl :=
  by
  intro adr H locs ls hB hs hL hls
  refine va_newa (atype := .long) (a0 := (N, .inr (.inl fun _ => 0))) E.1 E.2.1 (E.2.2.2.2.words args _ w1) (ty := .long) rfl E.2.2.2.2.2 hB.1.P hB.1.D hB.2.1 hB.2.2.1 (fun _ => rfl) hn hN hbytes h1 h2 hd (fun q cA H1 hK hP hD hS => ?_)
  have hcA : cA = ca κ := by
    have f4 : s.vm.findClass _ = some cA := (hK.2 (ps_tys ca).length (cA, .long) (by rw [List.getElem?_append_right (Nat.le_refl _), Nat.sub_self]; rfl)).2
    have g4 : s.vm.findClass _ = some (ca κ) := (E.2.2.2.2.2.2 t0 _ ht).2
    exact Option.some.inj (f4.symm.trans g4)
  subst hcA
  exact ps_fresh hB (ps_tl hs) hL hls hκ hP hD hS (fun adr' => hF adr' _ _ _ _) kk
end PSV
end
section
/-! A method's contract over stores; calls; the ends. -/
def ps_Pc (D : va_G) (ca : Nat → ClassId) (A : Nat → Prop) (adr : Nat → Nat → Nat) (σ : ps_S) (as : List ps_A) : Array Value → State → Prop := fun v U =>
  v = (as.map (ps_v adr)).toArray ∧ (∀ a ∈ as, ps_ok σ a) ∧ ps_W D ca adr A σ U.heap ∧ ps_G D ca U ∧ ∀ q, U.heap.size ≤ q → A q
def ps_Qc (D : va_G) (ca : Nat → ClassId) (A : Nat → Prop) (adr : Nat → Nat → Nat) (σ : ps_S) (Qf : Option ps_A → ps_S → Prop) : Array Value → State → Outcome → State → Prop := fun _ st o t =>
  ∃ (r : Option ps_A) (σ' : ps_S) (adr' : Nat → Nat → Nat), Qf r σ' ∧ o = .returned (r.map (ps_v adr')) ∧ (∀ κ i, i < ps_N σ κ → adr' κ i = adr κ i) ∧ (∀ κ, ps_N σ κ ≤ ps_N σ' κ) ∧ (∀ a, r = some a → ps_ok σ' a) ∧ ps_W D ca adr' A σ' t.heap ∧ va_F A st t
/-- the contract: at the store σ, with these arguments, y returns an answer and a store with Qf -/
abbrev ps_M (l : Launch) (y : MethodName) (cc : ByteArray) (maxL : Nat) (ret : Option FieldType) (rm : Room) (D : va_G) (ca : Nat → ClassId) (A : Nat → Prop) (adr : Nat → Nat → Nat) (σ : ps_S) (as : List ps_A) (Qf : Option ps_A → ps_S → Prop) : Prop :=
  Met l y [Cond.code y cc maxL ret] rm (ps_Pc D ca A adr σ as) (ps_Qc D ca A adr σ Qf) rm.cells rm.slots A
theorem ps_Pc.blind {D : va_G} {ca : Nat → ClassId} {A : Nat → Prop} {adr : Nat → Nat → Nat} {σ : ps_S} {as : List ps_A} : FrameBlind (ps_Pc D ca A adr σ as) := by
  intro a U g mk h
  obtain ⟨h1, h2, h3, h4, h5⟩ := h
  exact ⟨h1, h2, h3, h4.warm (U := U.calling g mk a) (State.WarmedH.refl U), h5⟩
def ps_as : Nat → List ps_A → List (Nat × ps_A)
  | _, [] => []
  | i, a :: as => (i, a) :: ps_as (if ps_cat a = 2 then i + 2 else i + 1) as
theorem ps_as_map (adr : Nat → Nat → Nat) : ∀ (as : List ps_A) (i : Nat), ((ps_as i as).map fun q => (q.1, ps_v adr q.2)) = lv_args i (as.map (ps_v adr))
  | [], i => rfl
  | a :: as, i => by
    rw [ps_as, List.map_cons, List.map_cons, lv_args, ps_as_map adr as, ps_cat_v]
theorem ps_as_ok {σ : ps_S} : ∀ (as : List ps_A) (i : Nat), (∀ a ∈ as, ps_ok σ a) → ∀ q ∈ ps_as i as, ps_ok σ q.2
  | [], i, _, q, hq => by cases hq
  | a :: as, i, h, q, hq => by
    rw [ps_as] at hq
    rcases List.mem_cons.mp hq with rfl | hq
    · exact h a List.mem_cons_self
    · exact ps_as_ok as _ (fun b hb => h b (List.mem_cons_of_mem _ hb)) q hq
def ps_len : List ps_A → Nat
  | [] => 0
  | a :: as => ps_cat a + ps_len as
theorem ps_len_v (adr : Nat → Nat → Nat) : ∀ as : List ps_A, (lg_sl (as.map (ps_v adr))).length = ps_len as
  | [] => rfl
  | a :: as => by
    have ih := ps_len_v adr as
    rw [List.map_cons, ps_len]
    unfold lg_sl at ih ⊢
    rw [List.flatMap_cons, List.length_append, ih, ps_cat_v]
    rcases a with x | x | r
    · rfl
    · rfl
    · rfl
theorem ps_M.of {l : Launch} {y : MethodName} {cc : ByteArray} {maxL : Nat} {ret : Option FieldType} {rm : Room} {D : va_G} {ca : Nat → ClassId} {A : Nat → Prop} {adr : Nat → Nat → Nat} {σ : ps_S} {as : List ps_A} {Qf : Option ps_A → ps_S → Prop}
    (hy : plainName y.cls = true) (hlen : ps_len as ≤ maxL)
    (body : ∀ (p : Program) (e : Env) (s : State) (m : MethodId) (args : Array Value) (below : List Frame) (meth : Method) (c : Code), ps_E p s m c cc maxL y.cls D ca → meth.sig.returnType = ret → meth.locks = false → meth.name = y.name →
      ps_V p l e rm s m args below meth c maxL D ca A s.heap adr σ (MQ below (ps_Qc D ca A adr σ Qf) args s rm.cells rm.slots A) 0 (ps_as 0 as) [] σ 0 0) : ps_M l y cc maxL ret rm D ca A adr σ as Qf := by
  refine Met.ofW (cc := cc) (maxL := maxL) (ret := ret) hy rfl ?_
  intro p e s m args below meth c s₁ B hml hv
  obtain ⟨rfl, hok, hW, hG, hA⟩ := hv
  have hE : ps_E p s m c cc maxL y.cls D ca := ⟨B.exec, B.bytes, hml, findClass_of_methodNamed B.named, hG⟩
  have hl := lv_entry (as.map (ps_v adr)) (n := maxL) (by rw [ps_len_v]; exact hlen)
  rw [lg_entry_eq]
  exact body p e s m _ below meth c hE B.returns B.notSynchronized (name_of_methodNamed B.named B.method).1 adr s.heap [] _ ⟨hW, va_S.rf, hA, fun _ _ _ => rfl, fun _ => Nat.le_refl _⟩ (fun a h => by cases h) (ps_as_ok as 0 hok) (by rw [ps_as_map]; exact hl)
theorem ps_room {m : MethodId} {pc : Nat} {ls : Array Slot} {st : List Value} {rest : List ps_A} {adr : Nat → Nat → Nat} (h : (rest.map ps_cat).sum ≤ 8) : 2 * (F0 m pc ls st).monitorRoom + ((rest.map (ps_v adr)).map fun v => v.category).sum ≤ 8 := by
  refine lv_room ?_
  rw [List.map_map]
  have e : (fun v => Value.category v) ∘ ps_v adr = ps_cat := by
    funext a
    exact ps_cat_v adr a
  rw [show ((fun v : Value => v.category) ∘ ps_v adr) = ps_cat from e]
  exact h
/-- what a callee's names give: an instance method -/
def ps_YV (y : MethodName) (cc : ByteArray) (maxL : Nat) (ret : Option FieldType) (n : Nat) : Prop :=
  Cond.code y cc maxL ret ∈ ps_T ∧ Cond.initialized y.cls ∈ ps_T ∧ Cond.instanceMethod y ∈ ps_T ∧ Cond.selects y.cls y y ∈ ps_T ∧ y.cls ≠ "java/lang/invoke/MethodHandle" ∧ y.cls ≠ "java/lang/invoke/VarHandle" ∧ (parseMethodDescriptor y.desc).map (fun d => d.parameters.length) = some n
def ps_YS (y : MethodName) (cc : ByteArray) (maxL : Nat) (ret : Option FieldType) (n : Nat) : Prop :=
  Cond.code y cc maxL ret ∈ ps_T ∧ Cond.initialized y.cls ∈ ps_T ∧ Cond.static y ∈ ps_T ∧ y.cls ≠ "java/lang/invoke/MethodHandle" ∧ y.cls ≠ "java/lang/invoke/VarHandle" ∧ (parseMethodDescriptor y.desc).map (fun d => d.parameters.length) = some n
def ps_YI (y : MethodName) (cc : ByteArray) (maxL : Nat) (n : Nat) : Prop :=
  Cond.code y cc maxL none ∈ ps_T ∧ Cond.initialized y.cls ∈ ps_T ∧ Cond.instanceMethod y ∈ ps_T ∧ y.name = "<init>" ∧ y.cls ≠ "java/lang/invoke/MethodHandle" ∧ y.cls ≠ "java/lang/invoke/VarHandle" ∧ (parseMethodDescriptor y.desc).map (fun d => d.parameters.length) = some n
theorem ps_gc {y : MethodName} {cc : ByteArray} {maxL : Nat} {ret : Option FieldType} (h : Cond.code y cc maxL ret ∈ ps_T) : GoodIn ps_T [Cond.code y cc maxL ret] := by
  intro w hw
  rw [List.mem_singleton] at hw
  subst hw
  exact ⟨h, Or.inl rfl⟩
def ps_sub (L : List (Nat × ps_A)) : List (Nat × ps_A) → Prop
  | [] => True
  | q :: r => L.lookup q.1 = some q.2 ∧ ps_sub L r
theorem ps_sub_mem {L : List (Nat × ps_A)} : ∀ {L' : List (Nat × ps_A)}, ps_sub L L' → ∀ q ∈ L', L.lookup q.1 = some q.2
  | [], _, q, hq => by cases hq
  | a :: r, h, q, hq => by
    rcases List.mem_cons.mp hq with rfl | hq
    · exact h.1
    · exact ps_sub_mem h.2 q hq
section PSC
variable {p : Program} {l : Launch} {e : Env} {R : Room} {s : State} {m : MethodId} {args : Array Value} {below : List Frame} {meth : Method} {c : Code} {nL : Nat} {D : va_G} {ca : Nat → ClassId} {A : Nat → Prop} {H0 : Heap} {adr0 : Nat → Nat → Nat} {σ0 : ps_S} {Q : State → Prop}
variable {cc : ByteArray} {own : String} {pc : Nat} {L : List (Nat × ps_A)} {st : List ps_A} {σ : ps_S} {ce sl : Nat}
theorem pv_run {stk rest : List ps_A} {mc ms : Nat} {Qf : Option ps_A → ps_S → Prop} {av : (Nat → Nat → Nat) → Array Value}
    (hr : ∀ (adr : Nat → Nat → Nat) (H : Heap) (locs : List Loc) (ls : Array Slot), ps_B D ca A H0 adr0 σ0 adr σ H locs → (∀ a ∈ stk, ps_ok σ a) → ls.size = nL → va_Run p l e R s m args below meth c H locs ce sl mc ms (F0 m pc ls (stk.map (ps_v adr))) (rest.map (ps_v adr)) (ps_Qc D ca A adr σ Qf (av adr)) A)
    (hsub : ∀ a ∈ rest, a ∈ stk)
    (kk : ∀ (r : Option ps_A) (σ' : ps_S), Qf r σ' → ps_V p l e R s m args below meth c nL D ca A H0 adr0 σ0 Q (pc + 3) L (r.toList ++ rest) σ' (ce + mc) (sl + ms)) : ps_V p l e R s m args below meth c nL D ca A H0 adr0 σ0 Q pc L stk σ ce sl := by
  intro adr H locs ls hB hs hL hls T hT X
  obtain ⟨v, st₀, t, T', Lc, h0, X', hLf, e1, e2, ⟨r, σ', adr', hq, ho, hag, hmono, hok, hW', hF⟩, go⟩ := hr adr H locs ls hB hs hls.1 T hT X
  have hv : v = r.map (ps_v adr') := Outcome.returned.inj ho
  subst hv
  have hS := hB.2.1
  have hrest : ∀ a ∈ rest, ps_ok σ a := fun a ha => hs a (hsub a ha)
  have hB' : ps_B D ca A H0 adr0 σ0 adr' σ' T'.heap (locs ++ Lc) := by
    refine ⟨by rw [e1]; exact hW', ⟨?_, fun q h1 h2 => ?_, fun q hq => ?_⟩, hB.2.2.1, fun κ i hi => (hag κ i (Nat.lt_of_lt_of_le hi (hB.2.2.2.2 κ))).trans (hB.2.2.2.1 κ i hi), fun κ => Nat.le_trans (hB.2.2.2.2 κ) (hmono κ)⟩
    · rw [e1]
      exact Nat.le_trans hS.1 (by rw [← h0]; exact hF.1)
    · rw [e1, hF.2 q (by rw [h0]; exact Nat.lt_of_lt_of_le h1 hS.1) h2, h0]
      exact hS.2.1 q h1 h2
    · rcases List.mem_append.mp hq with h | h
      · exact hS.2.2 q h
      · exact hLf q h
  have hst : ∀ a ∈ r.toList ++ rest, ps_ok σ' a := by
    intro a ha
    rcases List.mem_append.mp ha with h | h
    · exact hok a (Option.mem_toList.mp h)
    · exact ps_ok_up hmono (hrest a h)
  obtain ⟨t2, a1, b1⟩ := kk r σ' hq adr' T'.heap (locs ++ Lc) ls hB' hst (fun q hq => ps_ok_up hmono (hL q hq)) (by rw [ps_L_eq hag hL]; exact hls) T' rfl X'
  have e5 : (r.toList ++ rest).map (ps_v adr') = (r.map (ps_v adr')).toList ++ rest.map (ps_v adr) := by
    rw [List.map_append, ps_st_eq hag hrest]
    cases r <;> rfl
  rw [e5] at a1
  exact ⟨t2, go t2 a1, b1⟩
theorem ps_rest {as rest : List ps_A} : ∀ a ∈ rest, a ∈ as ++ rest := fun _ h => List.mem_append_right _ h
theorem ps_rest2 {as rest : List ps_A} {b : ps_A} : ∀ a ∈ rest, a ∈ as ++ b :: rest := fun _ h => List.mem_append_right _ (List.mem_cons_of_mem _ h)
theorem pv_callV (E : ps_E p s m c cc nL own D ca) {y : MethodName} {bytes : ByteArray} {maxL : Nat} {ret : Option FieldType} {rm : Room} {index ci n : Nat} {T : u_T} {N : Nat} {κ i : Nat} {as rest stk : List ps_A} {Qf : Option ps_A → ps_S → Prop}
    (hM : ∀ adr, ps_M l y bytes maxL ret rm D ca A adr σ (ps_ref (some (κ, i)) :: as) Qf) (hY : ps_YV y bytes maxL ret n) (w1 : Cond.methodLink own index y ∈ ps_T)
    (hst : stk = as.reverse ++ ps_ref (some (κ, i)) :: rest) (hn : as.length = n) (hF : ∀ adr, ∃ fs, ps_cell ca adr σ κ i = .inr (ci, fs)) (hc : ps_cl[ci]? = some (y.cls, T, N)) (hR : rm.frames + 1 ≤ R.frames ∧ 8 + (maxL + 11) + rm.locals ≤ R.locals) (hro : (rest.map ps_cat).sum ≤ 8)
    (hd : decode cc pc = .ok (.invokevirtual index, 3)) (hf : ce + rm.cells ≤ R.cells ∧ sl + rm.slots ≤ R.slots)
    (kk : ∀ (r : Option ps_A) (σ' : ps_S), Qf r σ' → ps_V p l e R s m args below meth c nL D ca A H0 adr0 σ0 Q (pc + 3) L (r.toList ++ rest) σ' (ce + rm.cells) (sl + rm.slots)) : ps_V p l e R s m args below meth c nL D ca A H0 adr0 σ0 Q pc L stk σ ce sl := by
  subst hst
  refine pv_run (av := fun adr => ((ps_ref (some (κ, i)) :: as).map (ps_v adr)).toArray) (fun adr H locs ls hB hs hsz => ?_) ps_rest2 kk
  obtain ⟨y1, y2, y3, y4, y5, y6, y7⟩ := hY
  have hi : i < ps_N σ κ := hs _ (List.mem_append_right _ List.mem_cons_self)
  have ht := E.2.2.2.2.words args
  obtain ⟨fs, hfs⟩ := hF adr
  obtain ⟨k0, hk0⟩ := ps_ws_get (ca := ca) (adr := adr) hi (hB.1.1 κ i hi).1
  rw [hfs] at hk0
  refine va_runV (As := as.map (ps_v adr)) (b := adr κ i) (C := y.cls) ⟨E.1, E.2.1, E.2.2.1, E.2.2.2.1, ht⟩ (hM adr) ⟨callB_of n ht (ps_gc y1) rfl rfl rfl (ht _ y2) (ht _ w1) ⟨y5, y6, y7⟩ hR, ht _ y3, ht _ y4⟩
    ⟨ps_Pc.blind, va_recv E.2.2.2.2.2 hB.1.P hc hk0, fun U hU hW => ⟨rfl, fun a ha => hs a ?_, by rw [hU]; exact hB.1, E.2.2.2.2.warm hW, fun q hq => hB.2.2.1 q (Nat.le_trans hB.2.1.1 (by rw [hU] at hq; exact hq))⟩⟩ rfl (by rw [List.length_map]; exact hn) hsz ?_ (ps_room hro) hd hf
  · rcases List.mem_cons.mp ha with rfl | h
    · exact List.mem_append_right _ List.mem_cons_self
    · exact List.mem_append_left _ (List.mem_reverse.mpr h)
  · show (as.reverse ++ ps_ref (some (κ, i)) :: rest).map (ps_v adr) = _
    rw [List.map_append, List.map_reverse]
    rfl
theorem pv_callVN (E : ps_E p s m c cc nL own D ca) {y : MethodName} {bytes : ByteArray} {maxL : Nat} {ret : Option FieldType} {rm : Room} {index ci n : Nat} {T : u_T} {N : Nat} {host : String} {κ i : Nat} {as rest stk : List ps_A} {Qf : Option ps_A → ps_S → Prop}
    (hM : ∀ adr, ps_M l y bytes maxL ret rm D ca A adr σ (ps_ref (some (κ, i)) :: as) Qf) (hY : ps_YV y bytes maxL ret n) (w1 : Cond.methodLinkNest own index y host ∈ ps_T)
    (hst : stk = as.reverse ++ ps_ref (some (κ, i)) :: rest) (hn : as.length = n) (hF : ∀ adr, ∃ fs, ps_cell ca adr σ κ i = .inr (ci, fs)) (hc : ps_cl[ci]? = some (y.cls, T, N)) (hR : rm.frames + 1 ≤ R.frames ∧ 8 + (maxL + 11) + rm.locals ≤ R.locals) (hro : (rest.map ps_cat).sum ≤ 8)
    (hd : decode cc pc = .ok (.invokevirtual index, 3)) (hf : ce + rm.cells ≤ R.cells ∧ sl + rm.slots ≤ R.slots)
    (kk : ∀ (r : Option ps_A) (σ' : ps_S), Qf r σ' → ps_V p l e R s m args below meth c nL D ca A H0 adr0 σ0 Q (pc + 3) L (r.toList ++ rest) σ' (ce + rm.cells) (sl + rm.slots)) : ps_V p l e R s m args below meth c nL D ca A H0 adr0 σ0 Q pc L stk σ ce sl := by
  subst hst
  refine pv_run (av := fun adr => ((ps_ref (some (κ, i)) :: as).map (ps_v adr)).toArray) (fun adr H locs ls hB hs hsz => ?_) ps_rest2 kk
  obtain ⟨y1, y2, y3, y4, y5, y6, y7⟩ := hY
  have hi : i < ps_N σ κ := hs _ (List.mem_append_right _ List.mem_cons_self)
  have ht := E.2.2.2.2.words args
  obtain ⟨fs, hfs⟩ := hF adr
  obtain ⟨k0, hk0⟩ := ps_ws_get (ca := ca) (adr := adr) hi (hB.1.1 κ i hi).1
  rw [hfs] at hk0
  refine va_runVN (As := as.map (ps_v adr)) (b := adr κ i) (C := y.cls) (host := host) ⟨E.1, E.2.1, E.2.2.1, E.2.2.2.1, ht⟩ (hM adr) ⟨va_cnB n ht (ps_gc y1) rfl rfl rfl (va_Nw.of rfl (ht _ w1)) (ht _ y2) ⟨y5, y6, y7⟩ hR, ht _ y3, ht _ y4⟩
    ⟨ps_Pc.blind, va_recv E.2.2.2.2.2 hB.1.P hc hk0, fun U hU hW => ⟨rfl, fun a ha => hs a ?_, by rw [hU]; exact hB.1, E.2.2.2.2.warm hW, fun q hq => hB.2.2.1 q (Nat.le_trans hB.2.1.1 (by rw [hU] at hq; exact hq))⟩⟩ rfl (by rw [List.length_map]; exact hn) hsz ?_ (ps_room hro) hd hf
  · rcases List.mem_cons.mp ha with rfl | h
    · exact List.mem_append_right _ List.mem_cons_self
    · exact List.mem_append_left _ (List.mem_reverse.mpr h)
  · show (as.reverse ++ ps_ref (some (κ, i)) :: rest).map (ps_v adr) = _
    rw [List.map_append, List.map_reverse]
    rfl
theorem pv_callS (E : ps_E p s m c cc nL own D ca) {y : MethodName} {bytes : ByteArray} {maxL : Nat} {ret : Option FieldType} {rm : Room} {index n : Nat} {as rest stk : List ps_A} {Qf : Option ps_A → ps_S → Prop}
    (hM : ∀ adr, ps_M l y bytes maxL ret rm D ca A adr σ as Qf) (hY : ps_YS y bytes maxL ret n) (w1 : Cond.methodLink own index y ∈ ps_T)
    (hst : stk = as.reverse ++ rest) (hn : as.length = n) (hR : rm.frames + 1 ≤ R.frames ∧ 8 + (maxL + 11) + rm.locals ≤ R.locals) (hro : (rest.map ps_cat).sum ≤ 8)
    (hd : decode cc pc = .ok (.invokestatic index, 3)) (hf : ce + rm.cells ≤ R.cells ∧ sl + rm.slots ≤ R.slots)
    (kk : ∀ (r : Option ps_A) (σ' : ps_S), Qf r σ' → ps_V p l e R s m args below meth c nL D ca A H0 adr0 σ0 Q (pc + 3) L (r.toList ++ rest) σ' (ce + rm.cells) (sl + rm.slots)) : ps_V p l e R s m args below meth c nL D ca A H0 adr0 σ0 Q pc L stk σ ce sl := by
  subst hst
  refine pv_run (av := fun adr => (as.map (ps_v adr)).toArray) (fun adr H locs ls hB hs hsz => ?_) ps_rest kk
  obtain ⟨y1, y2, y3, y5, y6, y7⟩ := hY
  have ht := E.2.2.2.2.words args
  refine va_runS (As := as.map (ps_v adr)) ⟨E.1, E.2.1, E.2.2.1, E.2.2.2.1, ht⟩ (hM adr) ⟨callB_of n ht (ps_gc y1) rfl rfl rfl (ht _ y2) (ht _ w1) ⟨y5, y6, y7⟩ hR, ht _ y3⟩
    ⟨ps_Pc.blind, fun U hU hW => ⟨rfl, fun a ha => hs a (List.mem_append_left _ (List.mem_reverse.mpr ha)), by rw [hU]; exact hB.1, E.2.2.2.2.warm hW, fun q hq => hB.2.2.1 q (Nat.le_trans hB.2.1.1 (by rw [hU] at hq; exact hq))⟩⟩ rfl (by rw [List.length_map]; exact hn) hsz ?_ (ps_room hro) hd hf
  show (as.reverse ++ rest).map (ps_v adr) = _
  rw [List.map_append, List.map_reverse]
theorem pv_callSN (E : ps_E p s m c cc nL own D ca) {y : MethodName} {bytes : ByteArray} {maxL : Nat} {ret : Option FieldType} {rm : Room} {index n : Nat} {host : String} {as rest stk : List ps_A} {Qf : Option ps_A → ps_S → Prop}
    (hM : ∀ adr, ps_M l y bytes maxL ret rm D ca A adr σ as Qf) (hY : ps_YS y bytes maxL ret n) (w1 : Cond.methodLinkNest own index y host ∈ ps_T)
    (hst : stk = as.reverse ++ rest) (hn : as.length = n) (hR : rm.frames + 1 ≤ R.frames ∧ 8 + (maxL + 11) + rm.locals ≤ R.locals) (hro : (rest.map ps_cat).sum ≤ 8)
    (hd : decode cc pc = .ok (.invokestatic index, 3)) (hf : ce + rm.cells ≤ R.cells ∧ sl + rm.slots ≤ R.slots)
    (kk : ∀ (r : Option ps_A) (σ' : ps_S), Qf r σ' → ps_V p l e R s m args below meth c nL D ca A H0 adr0 σ0 Q (pc + 3) L (r.toList ++ rest) σ' (ce + rm.cells) (sl + rm.slots)) : ps_V p l e R s m args below meth c nL D ca A H0 adr0 σ0 Q pc L stk σ ce sl := by
  subst hst
  refine pv_run (av := fun adr => (as.map (ps_v adr)).toArray) (fun adr H locs ls hB hs hsz => ?_) ps_rest kk
  obtain ⟨y1, y2, y3, y5, y6, y7⟩ := hY
  have ht := E.2.2.2.2.words args
  refine va_runSN (As := as.map (ps_v adr)) (host := host) ⟨E.1, E.2.1, E.2.2.1, E.2.2.2.1, ht⟩ (hM adr) ⟨va_cnB n ht (ps_gc y1) rfl rfl rfl (va_Nw.of rfl (ht _ w1)) (ht _ y2) ⟨y5, y6, y7⟩ hR, ht _ y3, trivial⟩
    ⟨ps_Pc.blind, fun U hU hW => ⟨rfl, fun a ha => hs a (List.mem_append_left _ (List.mem_reverse.mpr ha)), by rw [hU]; exact hB.1, E.2.2.2.2.warm hW, fun q hq => hB.2.2.1 q (Nat.le_trans hB.2.1.1 (by rw [hU] at hq; exact hq))⟩⟩ rfl (by rw [List.length_map]; exact hn) hsz ?_ (ps_room hro) hd hf
  show (as.reverse ++ rest).map (ps_v adr) = _
  rw [List.map_append, List.map_reverse]
theorem pv_callI (E : ps_E p s m c cc nL own D ca) {y : MethodName} {bytes : ByteArray} {maxL : Nat} {rm : Room} {index n : Nat} {κ i : Nat} {as rest stk : List ps_A} {Qf : Option ps_A → ps_S → Prop}
    (hM : ∀ adr, ps_M l y bytes maxL none rm D ca A adr σ (ps_ref (some (κ, i)) :: as) Qf) (hY : ps_YI y bytes maxL n) (w1 : Cond.methodLink own index y ∈ ps_T)
    (hst : stk = as.reverse ++ ps_ref (some (κ, i)) :: rest) (hn : as.length = n) (hR : rm.frames + 1 ≤ R.frames ∧ 8 + (maxL + 11) + rm.locals ≤ R.locals) (hro : (rest.map ps_cat).sum ≤ 8)
    (hd : decode cc pc = .ok (.invokespecial index, 3)) (hf : ce + rm.cells ≤ R.cells ∧ sl + rm.slots ≤ R.slots)
    (kk : ∀ (r : Option ps_A) (σ' : ps_S), Qf r σ' → ps_V p l e R s m args below meth c nL D ca A H0 adr0 σ0 Q (pc + 3) L (r.toList ++ rest) σ' (ce + rm.cells) (sl + rm.slots)) : ps_V p l e R s m args below meth c nL D ca A H0 adr0 σ0 Q pc L stk σ ce sl := by
  subst hst
  refine pv_run (av := fun adr => ((ps_ref (some (κ, i)) :: as).map (ps_v adr)).toArray) (fun adr H locs ls hB hs hsz => ?_) ps_rest2 kk
  obtain ⟨y1, y2, y3, y4, y5, y6, y7⟩ := hY
  have ht := E.2.2.2.2.words args
  refine va_runI (As := as.map (ps_v adr)) (b := adr κ i) ⟨E.1, E.2.1, E.2.2.1, E.2.2.2.1, ht⟩ (hM adr) ⟨callB_of n ht (ps_gc y1) rfl rfl rfl (ht _ y2) (ht _ w1) ⟨y5, y6, y7⟩ hR, y4, ht _ y3⟩
    ⟨ps_Pc.blind, fun U hU hW => ⟨rfl, fun a ha => hs a ?_, by rw [hU]; exact hB.1, E.2.2.2.2.warm hW, fun q hq => hB.2.2.1 q (Nat.le_trans hB.2.1.1 (by rw [hU] at hq; exact hq))⟩⟩ rfl (by rw [List.length_map]; exact hn) hsz ?_ (ps_room hro) hd hf
  · rcases List.mem_cons.mp ha with rfl | h
    · exact List.mem_append_right _ List.mem_cons_self
    · exact List.mem_append_left _ (List.mem_reverse.mpr h)
  · show (as.reverse ++ ps_ref (some (κ, i)) :: rest).map (ps_v adr) = _
    rw [List.map_append, List.map_reverse]
    rfl
theorem pv_callIN (E : ps_E p s m c cc nL own D ca) {y : MethodName} {bytes : ByteArray} {maxL : Nat} {rm : Room} {index n : Nat} {host : String} {κ i : Nat} {as rest stk : List ps_A} {Qf : Option ps_A → ps_S → Prop}
    (hM : ∀ adr, ps_M l y bytes maxL none rm D ca A adr σ (ps_ref (some (κ, i)) :: as) Qf) (hY : ps_YI y bytes maxL n) (w1 : Cond.methodLinkNest own index y host ∈ ps_T)
    (hst : stk = as.reverse ++ ps_ref (some (κ, i)) :: rest) (hn : as.length = n) (hR : rm.frames + 1 ≤ R.frames ∧ 8 + (maxL + 11) + rm.locals ≤ R.locals) (hro : (rest.map ps_cat).sum ≤ 8)
    (hd : decode cc pc = .ok (.invokespecial index, 3)) (hf : ce + rm.cells ≤ R.cells ∧ sl + rm.slots ≤ R.slots)
    (kk : ∀ (r : Option ps_A) (σ' : ps_S), Qf r σ' → ps_V p l e R s m args below meth c nL D ca A H0 adr0 σ0 Q (pc + 3) L (r.toList ++ rest) σ' (ce + rm.cells) (sl + rm.slots)) : ps_V p l e R s m args below meth c nL D ca A H0 adr0 σ0 Q pc L stk σ ce sl := by
  subst hst
  refine pv_run (av := fun adr => ((ps_ref (some (κ, i)) :: as).map (ps_v adr)).toArray) (fun adr H locs ls hB hs hsz => ?_) ps_rest2 kk
  obtain ⟨y1, y2, y3, y4, y5, y6, y7⟩ := hY
  have ht := E.2.2.2.2.words args
  refine va_runIN (As := as.map (ps_v adr)) (b := adr κ i) (host := host) ⟨E.1, E.2.1, E.2.2.1, E.2.2.2.1, ht⟩ (hM adr) ⟨va_cnB n ht (ps_gc y1) rfl rfl rfl (va_Nw.of rfl (ht _ w1)) (ht _ y2) ⟨y5, y6, y7⟩ hR, y4, ht _ y3⟩
    ⟨ps_Pc.blind, fun U hU hW => ⟨rfl, fun a ha => hs a ?_, by rw [hU]; exact hB.1, E.2.2.2.2.warm hW, fun q hq => hB.2.2.1 q (Nat.le_trans hB.2.1.1 (by rw [hU] at hq; exact hq))⟩⟩ rfl (by rw [List.length_map]; exact hn) hsz ?_ (ps_room hro) hd hf
  · rcases List.mem_cons.mp ha with rfl | h
    · exact List.mem_append_right _ List.mem_cons_self
    · exact List.mem_append_left _ (List.mem_reverse.mpr h)
  · show (as.reverse ++ ps_ref (some (κ, i)) :: rest).map (ps_v adr) = _
    rw [List.map_append, List.map_reverse]
    rfl
/-- Object.<init> -/
theorem pv_objInit (E : ps_E p s m c cc nL own D ca) {idx κ i : Nat} (w1 : Cond.methodLink own idx Lib.objectInit ∈ ps_T) (w2 : Cond.instanceMethod Lib.objectInit ∈ ps_T) (w3 : Cond.code Lib.objectInit ⟨#[0xb1]⟩ 1 none ∈ ps_T) (hro : (st.map ps_cat).sum + 12 ≤ R.locals) (hfr : 1 ≤ R.frames) (hd : decode cc pc = .ok (.invokespecial idx, 3))
    (kk : ps_V p l e R s m args below meth c nL D ca A H0 adr0 σ0 Q (pc + 3) L st σ ce sl) : ps_V p l e R s m args below meth c nL D ca A H0 adr0 σ0 Q pc L (ps_ref (some (κ, i)) :: st) σ ce sl := by
  intro adr H locs ls hB hs hL hls
  have ht := E.2.2.2.2.words args
  have e1 : ((st.map (ps_v adr)).map fun v => v.category).sum = (st.map ps_cat).sum := by
    rw [List.map_map]
    exact congrArg List.sum (List.map_congr_left fun a _ => ps_cat_v adr a)
  refine W.objInit (a := adr κ i) (rest := st.map (ps_v adr)) E.1 E.2.1 E.2.2.2.1 (ht _ w1) (ht _ w2) (ht _ w3) rfl (hls.1.trans E.2.2.1.symm) rfl hd hfr ?_ (kk adr H locs ls hB (ps_tl hs) hL hls)
  show 2 * 0 + _ + 12 ≤ _
  rw [e1]
  omega
theorem pv_sub {L' : List (Nat × ps_A)} (h : ps_sub L L') (kk : ps_V p l e R s m args below meth c nL D ca A H0 adr0 σ0 Q pc L' st σ ce sl) : ps_V p l e R s m args below meth c nL D ca A H0 adr0 σ0 Q pc L st σ ce sl := pv_loc L' (ps_sub_mem h) kk
/-- a loop: a measure that falls -/
theorem pv_loop {ι : Type} (μ : ι → Nat) (Lf : ι → List (Nat × ps_A)) (σf : ι → ps_S) (I : ι → Prop)
    (step : ∀ x, I x → (∀ y, I y → μ y < μ x → ps_V p l e R s m args below meth c nL D ca A H0 adr0 σ0 Q pc (Lf y) st (σf y) ce sl) → ps_V p l e R s m args below meth c nL D ca A H0 adr0 σ0 Q pc (Lf x) st (σf x) ce sl) :
    ∀ x, I x → ps_V p l e R s m args below meth c nL D ca A H0 adr0 σ0 Q pc (Lf x) st (σf x) ce sl := by
  have key : ∀ n x, μ x ≤ n → I x → ps_V p l e R s m args below meth c nL D ca A H0 adr0 σ0 Q pc (Lf x) st (σf x) ce sl := by
    intro n
    induction n with
    | zero => intro x hx hI; exact step x hI (fun y _ hlt => absurd hlt (by omega))
    | succ n ih => intro x hx hI; exact step x hI (fun y hy hlt => ih y (by omega) hy)
  intro x hI
  exact key _ x (Nat.le_refl _) hI
section Ends
variable {Qf : Option ps_A → ps_S → Prop} {mc ms : Nat}
theorem pv_iret (E : ps_E p s m c cc nL own D ca) {x : Int32} (hr : meth.sig.returnType = some .int) (hlk : meth.locks = false) (hd : decode cc pc = .ok (.ireturn, 1)) (h1 : ce ≤ mc) (h2 : sl ≤ ms) (hq : Qf (some (ps_int x)) σ) :
    ps_V p l e R s m args below meth c nL D ca A s.heap adr0 σ0 (MQ below (ps_Qc D ca A adr0 σ0 Qf) args s mc ms A) pc L [ps_int x] σ ce sl :=
  fun adr H locs ls hB hs hL hls => W.widen h1 h2 (W.iret E.1 E.2.1 hr (fun t ht hW => ⟨some (ps_int x), σ, adr, hq, rfl, hB.2.2.2.1, hB.2.2.2.2, fun a ha => by cases ha; trivial, by rw [ht]; exact hB.1, hB.2.1.F ht⟩) hB.2.1.2.2 hd hlk)
theorem pv_zret (E : ps_E p s m c cc nL own D ca) {x : Int32} (hr : meth.sig.returnType = some .boolean) (hlk : meth.locks = false) (hd : decode cc pc = .ok (.ireturn, 1)) (hn : narrow .boolean (.int x) = .int x) (h1 : ce ≤ mc) (h2 : sl ≤ ms) (hq : Qf (some (ps_int x)) σ) :
    ps_V p l e R s m args below meth c nL D ca A s.heap adr0 σ0 (MQ below (ps_Qc D ca A adr0 σ0 Qf) args s mc ms A) pc L [ps_int x] σ ce sl :=
  fun adr H locs ls hB hs hL hls => W.widen h1 h2 (W.zret E.1 E.2.1 hr hn (fun t ht hW => ⟨some (ps_int x), σ, adr, hq, rfl, hB.2.2.2.1, hB.2.2.2.2, fun a ha => by cases ha; trivial, by rw [ht]; exact hB.1, hB.2.1.F ht⟩) hB.2.1.2.2 hd hlk)
theorem pv_vret (E : ps_E p s m c cc nL own D ca) (hr : meth.sig.returnType = none) (hlk : meth.locks = false) (hd : decode cc pc = .ok (.return_, 1)) (h1 : ce ≤ mc) (h2 : sl ≤ ms) (hq : Qf none σ) :
    ps_V p l e R s m args below meth c nL D ca A s.heap adr0 σ0 (MQ below (ps_Qc D ca A adr0 σ0 Qf) args s mc ms A) pc L [] σ ce sl :=
  fun adr H locs ls hB hs hL hls => W.widen h1 h2 (W.vret E.1 E.2.1 hr (fun t ht hW => ⟨none, σ, adr, hq, rfl, hB.2.2.2.1, hB.2.2.2.2, fun a ha => (by cases ha), by rw [ht]; exact hB.1, hB.2.1.F ht⟩) hB.2.1.2.2 hd hlk)
theorem pv_aret (E : ps_E p s m c cc nL own D ca) {x : Option (Nat × Nat)} {rt : FieldType} (hr : meth.sig.returnType = some rt) (hrt : (∃ n, rt = .object n) ∨ ∃ t, rt = .array t) (hlk : meth.locks = false) (hd : decode cc pc = .ok (.areturn, 1)) (h1 : ce ≤ mc) (h2 : sl ≤ ms) (hq : Qf (some (ps_ref x)) σ) :
    ps_V p l e R s m args below meth c nL D ca A s.heap adr0 σ0 (MQ below (ps_Qc D ca A adr0 σ0 Qf) args s mc ms A) pc L [ps_ref x] σ ce sl :=
  fun adr H locs ls hB hs hL hls => W.widen h1 h2 (W.aret (v := va_rf (ps_e adr x)) E.1 E.2.1 hr hrt (va_rf_or _) (fun t ht hW => ⟨some (ps_ref x), σ, adr, hq, rfl, hB.2.2.2.1, hB.2.2.2.2, fun a ha => by cases ha; exact ps_hd hs, by rw [ht]; exact hB.1, hB.2.1.F ht⟩) hB.2.1.2.2 hd hlk)
end Ends
end PSC
end
section
/-! The words of the tables, each by its place (by gen_names.py). -/
theorem wp_0 : Cond.selects ((⟨"PromiseScopes$StageGraph", "noteTurn", "(LPromiseScopes$Stage;)V"⟩ : MethodName)).cls ⟨"PromiseScopes$StageGraph", "noteTurn", "(LPromiseScopes$Stage;)V"⟩ ⟨"PromiseScopes$StageGraph", "noteTurn", "(LPromiseScopes$Stage;)V"⟩ ∈ ps_T := ps_in (List.mem_of_getElem? (i := 0) (by decide +kernel)) rfl
theorem wp_1 : Cond.selects ((⟨"PromiseScopes$StageGraph", "queueAllThatAreAble", "()V"⟩ : MethodName)).cls ⟨"PromiseScopes$StageGraph", "queueAllThatAreAble", "()V"⟩ ⟨"PromiseScopes$StageGraph", "queueAllThatAreAble", "()V"⟩ ∈ ps_T := ps_in (List.mem_of_getElem? (i := 1) (by decide +kernel)) rfl
theorem wp_2 : Cond.selects ((⟨"PromiseScopes$StageGraph", "advance", "(LPromiseScopes$Stage;)V"⟩ : MethodName)).cls ⟨"PromiseScopes$StageGraph", "advance", "(LPromiseScopes$Stage;)V"⟩ ⟨"PromiseScopes$StageGraph", "advance", "(LPromiseScopes$Stage;)V"⟩ ∈ ps_T := ps_in (List.mem_of_getElem? (i := 2) (by decide +kernel)) rfl
theorem wp_3 : Cond.selects ((⟨"PromiseScopes$StageGraph", "decide", "(LPromiseScopes$Stage;)V"⟩ : MethodName)).cls ⟨"PromiseScopes$StageGraph", "decide", "(LPromiseScopes$Stage;)V"⟩ ⟨"PromiseScopes$StageGraph", "decide", "(LPromiseScopes$Stage;)V"⟩ ∈ ps_T := ps_in (List.mem_of_getElem? (i := 3) (by decide +kernel)) rfl
theorem wp_4 : Cond.selects ((⟨"PromiseScopes$StageGraph", "compose", "(LPromiseScopes$Stage;LPromiseScopes$Stage;)V"⟩ : MethodName)).cls ⟨"PromiseScopes$StageGraph", "compose", "(LPromiseScopes$Stage;LPromiseScopes$Stage;)V"⟩ ⟨"PromiseScopes$StageGraph", "compose", "(LPromiseScopes$Stage;LPromiseScopes$Stage;)V"⟩ ∈ ps_T := ps_in (List.mem_of_getElem? (i := 4) (by decide +kernel)) rfl
theorem wp_5 : Cond.selects ((⟨"PromiseScopes$ScopeTree", "hasUnclosedBelow", "(LPromiseScopes$Scope;)Z"⟩ : MethodName)).cls ⟨"PromiseScopes$ScopeTree", "hasUnclosedBelow", "(LPromiseScopes$Scope;)Z"⟩ ⟨"PromiseScopes$ScopeTree", "hasUnclosedBelow", "(LPromiseScopes$Scope;)Z"⟩ ∈ ps_T := ps_in (List.mem_of_getElem? (i := 5) (by decide +kernel)) rfl
theorem wp_6 : Cond.selects ((⟨"PromiseScopes$ScopeTree", "giveResult", "(LPromiseScopes$Scope;LPromiseScopes$StageGraph;)V"⟩ : MethodName)).cls ⟨"PromiseScopes$ScopeTree", "giveResult", "(LPromiseScopes$Scope;LPromiseScopes$StageGraph;)V"⟩ ⟨"PromiseScopes$ScopeTree", "giveResult", "(LPromiseScopes$Scope;LPromiseScopes$StageGraph;)V"⟩ ∈ ps_T := ps_in (List.mem_of_getElem? (i := 6) (by decide +kernel)) rfl
theorem wp_7 : Cond.selects ((⟨"PromiseScopes$ScopeTree", "succeeded", "(LPromiseScopes$Scope;)Z"⟩ : MethodName)).cls ⟨"PromiseScopes$ScopeTree", "succeeded", "(LPromiseScopes$Scope;)Z"⟩ ⟨"PromiseScopes$ScopeTree", "succeeded", "(LPromiseScopes$Scope;)Z"⟩ ∈ ps_T := ps_in (List.mem_of_getElem? (i := 7) (by decide +kernel)) rfl
theorem wp_8 : Cond.selects ((⟨"PromiseScopes$ScopeTree", "valueOf", "(LPromiseScopes$Scope;)I"⟩ : MethodName)).cls ⟨"PromiseScopes$ScopeTree", "valueOf", "(LPromiseScopes$Scope;)I"⟩ ⟨"PromiseScopes$ScopeTree", "valueOf", "(LPromiseScopes$Scope;)I"⟩ ∈ ps_T := ps_in (List.mem_of_getElem? (i := 8) (by decide +kernel)) rfl
theorem wp_9 : Cond.selects ((⟨"PromiseScopes$ScopeTree", "firstEnded", "(LPromiseScopes$Scope;I)LPromiseScopes$Task;"⟩ : MethodName)).cls ⟨"PromiseScopes$ScopeTree", "firstEnded", "(LPromiseScopes$Scope;I)LPromiseScopes$Task;"⟩ ⟨"PromiseScopes$ScopeTree", "firstEnded", "(LPromiseScopes$Scope;I)LPromiseScopes$Task;"⟩ ∈ ps_T := ps_in (List.mem_of_getElem? (i := 9) (by decide +kernel)) rfl
theorem wp_10 : Cond.selects ((⟨"PromiseScopes$ScopeTree", "cancelTasks", "(LPromiseScopes$Scope;)V"⟩ : MethodName)).cls ⟨"PromiseScopes$ScopeTree", "cancelTasks", "(LPromiseScopes$Scope;)V"⟩ ⟨"PromiseScopes$ScopeTree", "cancelTasks", "(LPromiseScopes$Scope;)V"⟩ ∈ ps_T := ps_in (List.mem_of_getElem? (i := 10) (by decide +kernel)) rfl
theorem wp_11 : Cond.selects ((⟨"PromiseScopes$ScopeTree", "stopLateScopes", "()V"⟩ : MethodName)).cls ⟨"PromiseScopes$ScopeTree", "stopLateScopes", "()V"⟩ ⟨"PromiseScopes$ScopeTree", "stopLateScopes", "()V"⟩ ∈ ps_T := ps_in (List.mem_of_getElem? (i := 11) (by decide +kernel)) rfl
theorem wp_12 : Cond.selects ((⟨"PromiseScopes$ScopeTree", "noteEnd", "(LPromiseScopes$Task;)V"⟩ : MethodName)).cls ⟨"PromiseScopes$ScopeTree", "noteEnd", "(LPromiseScopes$Task;)V"⟩ ⟨"PromiseScopes$ScopeTree", "noteEnd", "(LPromiseScopes$Task;)V"⟩ ∈ ps_T := ps_in (List.mem_of_getElem? (i := 12) (by decide +kernel)) rfl
theorem wp_13 : Cond.selects ((⟨"java/lang/Throwable", "fillInStackTrace", "(I)Ljava/lang/Throwable;"⟩ : MethodName)).cls ⟨"java/lang/Throwable", "fillInStackTrace", "(I)Ljava/lang/Throwable;"⟩ ⟨"java/lang/Throwable", "fillInStackTrace", "(I)Ljava/lang/Throwable;"⟩ ∈ ps_T := ps_in (List.mem_of_getElem? (i := 13) (by decide +kernel)) rfl
theorem wp_14 : Cond.selects ((⟨"PromiseScopesModel", "make", "(IIIJIIZ)I"⟩ : MethodName)).cls ⟨"PromiseScopesModel", "make", "(IIIJIIZ)I"⟩ ⟨"PromiseScopesModel", "make", "(IIIJIIZ)I"⟩ ∈ ps_T := ps_in (List.mem_of_getElem? (i := 14) (by decide +kernel)) rfl
theorem wp_15 : Cond.selects ((⟨"PromiseScopesModel", "scan", "()V"⟩ : MethodName)).cls ⟨"PromiseScopesModel", "scan", "()V"⟩ ⟨"PromiseScopesModel", "scan", "()V"⟩ ∈ ps_T := ps_in (List.mem_of_getElem? (i := 15) (by decide +kernel)) rfl
theorem wp_16 : Cond.selects ((⟨"PromiseScopesModel", "settled", "(I)Z"⟩ : MethodName)).cls ⟨"PromiseScopesModel", "settled", "(I)Z"⟩ ⟨"PromiseScopesModel", "settled", "(I)Z"⟩ ∈ ps_T := ps_in (List.mem_of_getElem? (i := 16) (by decide +kernel)) rfl
theorem wp_17 : Cond.selects ((⟨"PromiseScopesModel", "isAble", "(I)Z"⟩ : MethodName)).cls ⟨"PromiseScopesModel", "isAble", "(I)Z"⟩ ⟨"PromiseScopesModel", "isAble", "(I)Z"⟩ ∈ ps_T := ps_in (List.mem_of_getElem? (i := 17) (by decide +kernel)) rfl
theorem wp_18 : Cond.selects ((⟨"PromiseScopesModel", "come", "(IZ)Z"⟩ : MethodName)).cls ⟨"PromiseScopesModel", "come", "(IZ)Z"⟩ ⟨"PromiseScopesModel", "come", "(IZ)Z"⟩ ∈ ps_T := ps_in (List.mem_of_getElem? (i := 18) (by decide +kernel)) rfl
theorem wp_19 : Cond.selects ((⟨"PromiseScopesModel", "isStage", "(I)Z"⟩ : MethodName)).cls ⟨"PromiseScopesModel", "isStage", "(I)Z"⟩ ⟨"PromiseScopesModel", "isStage", "(I)Z"⟩ ∈ ps_T := ps_in (List.mem_of_getElem? (i := 19) (by decide +kernel)) rfl
theorem wp_20 : Cond.selects ((⟨"PromiseScopesModel", "workOff", "()V"⟩ : MethodName)).cls ⟨"PromiseScopesModel", "workOff", "()V"⟩ ⟨"PromiseScopesModel", "workOff", "()V"⟩ ∈ ps_T := ps_in (List.mem_of_getElem? (i := 20) (by decide +kernel)) rfl
theorem wp_21 : Cond.selects ((⟨"PromiseScopesModel", "resolve", "(I)V"⟩ : MethodName)).cls ⟨"PromiseScopesModel", "resolve", "(I)V"⟩ ⟨"PromiseScopesModel", "resolve", "(I)V"⟩ ∈ ps_T := ps_in (List.mem_of_getElem? (i := 21) (by decide +kernel)) rfl
theorem wp_22 : Cond.selects ((⟨"PromiseScopesModel", "copy", "(II)V"⟩ : MethodName)).cls ⟨"PromiseScopesModel", "copy", "(II)V"⟩ ⟨"PromiseScopesModel", "copy", "(II)V"⟩ ∈ ps_T := ps_in (List.mem_of_getElem? (i := 22) (by decide +kernel)) rfl
theorem wp_23 : Cond.selects ((⟨"PromiseScopesModel", "give", "(III)V"⟩ : MethodName)).cls ⟨"PromiseScopesModel", "give", "(III)V"⟩ ⟨"PromiseScopesModel", "give", "(III)V"⟩ ∈ ps_T := ps_in (List.mem_of_getElem? (i := 23) (by decide +kernel)) rfl
theorem wp_24 : Cond.selects ((⟨"PromiseScopesModel", "one", "(II)V"⟩ : MethodName)).cls ⟨"PromiseScopesModel", "one", "(II)V"⟩ ⟨"PromiseScopesModel", "one", "(II)V"⟩ ∈ ps_T := ps_in (List.mem_of_getElem? (i := 24) (by decide +kernel)) rfl
theorem wp_25 : Cond.selects ((⟨"PromiseScopesModel", "apply", "(III)V"⟩ : MethodName)).cls ⟨"PromiseScopesModel", "apply", "(III)V"⟩ ⟨"PromiseScopesModel", "apply", "(III)V"⟩ ∈ ps_T := ps_in (List.mem_of_getElem? (i := 25) (by decide +kernel)) rfl
theorem wp_26 : Cond.selects ((⟨"PromiseScopesModel", "giveMade", "(I)V"⟩ : MethodName)).cls ⟨"PromiseScopesModel", "giveMade", "(I)V"⟩ ⟨"PromiseScopesModel", "giveMade", "(I)V"⟩ ∈ ps_T := ps_in (List.mem_of_getElem? (i := 26) (by decide +kernel)) rfl
theorem wp_27 : Cond.selects ((⟨"PromiseScopesModel", "all", "(I)V"⟩ : MethodName)).cls ⟨"PromiseScopesModel", "all", "(I)V"⟩ ⟨"PromiseScopesModel", "all", "(I)V"⟩ ∈ ps_T := ps_in (List.mem_of_getElem? (i := 27) (by decide +kernel)) rfl
theorem wp_28 : Cond.selects ((⟨"PromiseScopesModel", "earliest", "(I)I"⟩ : MethodName)).cls ⟨"PromiseScopesModel", "earliest", "(I)I"⟩ ⟨"PromiseScopesModel", "earliest", "(I)I"⟩ ∈ ps_T := ps_in (List.mem_of_getElem? (i := 28) (by decide +kernel)) rfl
theorem wp_29 : Cond.selects ((⟨"PromiseScopesModel", "settle", "(III)Z"⟩ : MethodName)).cls ⟨"PromiseScopesModel", "settle", "(III)Z"⟩ ⟨"PromiseScopesModel", "settle", "(III)Z"⟩ ∈ ps_T := ps_in (List.mem_of_getElem? (i := 29) (by decide +kernel)) rfl
theorem wp_30 : Cond.selects ((⟨"PromiseScopesModel", "isOpen", "(I)Z"⟩ : MethodName)).cls ⟨"PromiseScopesModel", "isOpen", "(I)Z"⟩ ⟨"PromiseScopesModel", "isOpen", "(I)Z"⟩ ∈ ps_T := ps_in (List.mem_of_getElem? (i := 30) (by decide +kernel)) rfl
theorem wp_31 : Cond.selects ((⟨"PromiseScopesModel", "isScope", "(I)Z"⟩ : MethodName)).cls ⟨"PromiseScopesModel", "isScope", "(I)Z"⟩ ⟨"PromiseScopesModel", "isScope", "(I)Z"⟩ ∈ ps_T := ps_in (List.mem_of_getElem? (i := 31) (by decide +kernel)) rfl
theorem wp_32 : Cond.selects ((⟨"PromiseScopesModel", "look", "(II)I"⟩ : MethodName)).cls ⟨"PromiseScopesModel", "look", "(II)I"⟩ ⟨"PromiseScopesModel", "look", "(II)I"⟩ ∈ ps_T := ps_in (List.mem_of_getElem? (i := 32) (by decide +kernel)) rfl
theorem wp_33 : Cond.selects ((⟨"PromiseScopesModel", "below", "(II)Z"⟩ : MethodName)).cls ⟨"PromiseScopesModel", "below", "(II)Z"⟩ ⟨"PromiseScopesModel", "below", "(II)Z"⟩ ∈ ps_T := ps_in (List.mem_of_getElem? (i := 33) (by decide +kernel)) rfl
theorem wp_34 : Cond.selects ((⟨"PromiseScopesModel", "closeAll", "()V"⟩ : MethodName)).cls ⟨"PromiseScopesModel", "closeAll", "()V"⟩ ⟨"PromiseScopesModel", "closeAll", "()V"⟩ ∈ ps_T := ps_in (List.mem_of_getElem? (i := 34) (by decide +kernel)) rfl
theorem wp_35 : Cond.selects ((⟨"PromiseScopesModel", "running", "(I)I"⟩ : MethodName)).cls ⟨"PromiseScopesModel", "running", "(I)I"⟩ ⟨"PromiseScopesModel", "running", "(I)I"⟩ ∈ ps_T := ps_in (List.mem_of_getElem? (i := 35) (by decide +kernel)) rfl
theorem wp_36 : Cond.selects ((⟨"PromiseScopesModel", "conclude", "(I)V"⟩ : MethodName)).cls ⟨"PromiseScopesModel", "conclude", "(I)V"⟩ ⟨"PromiseScopesModel", "conclude", "(I)V"⟩ ∈ ps_T := ps_in (List.mem_of_getElem? (i := 36) (by decide +kernel)) rfl
theorem wp_37 : Cond.selects ((⟨"PromiseScopesModel", "stop", "(I)V"⟩ : MethodName)).cls ⟨"PromiseScopesModel", "stop", "(I)V"⟩ ⟨"PromiseScopesModel", "stop", "(I)V"⟩ ∈ ps_T := ps_in (List.mem_of_getElem? (i := 37) (by decide +kernel)) rfl
theorem wp_38 : Cond.selects ((⟨"PromiseScopesModel", "pass", "()I"⟩ : MethodName)).cls ⟨"PromiseScopesModel", "pass", "()I"⟩ ⟨"PromiseScopesModel", "pass", "()I"⟩ ∈ ps_T := ps_in (List.mem_of_getElem? (i := 38) (by decide +kernel)) rfl
theorem wp_39 : Cond.selects ((⟨"PromiseScopesModel", "effective", "(I)I"⟩ : MethodName)).cls ⟨"PromiseScopesModel", "effective", "(I)I"⟩ ⟨"PromiseScopesModel", "effective", "(I)I"⟩ ∈ ps_T := ps_in (List.mem_of_getElem? (i := 39) (by decide +kernel)) rfl
theorem wp_40 : Cond.selects ((⟨"PromiseScopesModel", "end", "(I)V"⟩ : MethodName)).cls ⟨"PromiseScopesModel", "end", "(I)V"⟩ ⟨"PromiseScopesModel", "end", "(I)V"⟩ ∈ ps_T := ps_in (List.mem_of_getElem? (i := 40) (by decide +kernel)) rfl
theorem wd_0 : (Jvm.Cond.initialized "PromiseScopesLaw") ∈ ps_T := ps_in (List.mem_of_getElem? (i := 41) (by decide +kernel)) rfl
theorem wd_1 : (Jvm.Cond.initialized "PromiseScopes") ∈ ps_T := ps_in (List.mem_of_getElem? (i := 42) (by decide +kernel)) rfl
theorem wd_2 : (Jvm.Cond.initialized "PromiseScopes$StageGraph") ∈ ps_T := ps_in (List.mem_of_getElem? (i := 43) (by decide +kernel)) rfl
theorem wd_3 : (Jvm.Cond.initialized "PromiseScopes$StageQueue") ∈ ps_T := ps_in (List.mem_of_getElem? (i := 44) (by decide +kernel)) rfl
theorem wd_4 : (Jvm.Cond.initialized "PromiseScopes$ScopeTree") ∈ ps_T := ps_in (List.mem_of_getElem? (i := 45) (by decide +kernel)) rfl
theorem wd_5 : (Jvm.Cond.initialized "PromiseScopesModel") ∈ ps_T := ps_in (List.mem_of_getElem? (i := 46) (by decide +kernel)) rfl
theorem wd_6 : (Jvm.Cond.initialized "java/lang/Throwable") ∈ ps_T := ps_in (List.mem_of_getElem? (i := 47) (by decide +kernel)) rfl
theorem wd_7 : (Jvm.Cond.initialized "java/lang/Exception") ∈ ps_T := ps_in (List.mem_of_getElem? (i := 48) (by decide +kernel)) rfl
theorem wd_8 : (Jvm.Cond.initialized "java/lang/RuntimeException") ∈ ps_T := ps_in (List.mem_of_getElem? (i := 49) (by decide +kernel)) rfl
theorem wd_9 : (Jvm.Cond.initialized "java/lang/IllegalStateException") ∈ ps_T := ps_in (List.mem_of_getElem? (i := 50) (by decide +kernel)) rfl
theorem wd_10 : (Jvm.Cond.initialized "PromiseScopes$Stage") ∈ ps_T := ps_in (List.mem_of_getElem? (i := 51) (by decide +kernel)) rfl
theorem wd_11 : (Jvm.Cond.initialized "PromiseScopes$Functions") ∈ ps_T := ps_in (List.mem_of_getElem? (i := 52) (by decide +kernel)) rfl
theorem wd_12 : (Jvm.Cond.initialized "java/lang/IllegalArgumentException") ∈ ps_T := ps_in (List.mem_of_getElem? (i := 53) (by decide +kernel)) rfl
theorem wd_13 : (Jvm.Cond.initialized "java/lang/Long") ∈ ps_T := ps_in (List.mem_of_getElem? (i := 54) (by decide +kernel)) rfl
theorem wd_14 : (Jvm.Cond.initialized "java/lang/UnsupportedOperationException") ∈ ps_T := ps_in (List.mem_of_getElem? (i := 55) (by decide +kernel)) rfl
theorem wd_15 : (Jvm.Cond.initialized "PromiseScopes$Scope") ∈ ps_T := ps_in (List.mem_of_getElem? (i := 56) (by decide +kernel)) rfl
theorem wd_16 : (Jvm.Cond.initialized "java/lang/Math") ∈ ps_T := ps_in (List.mem_of_getElem? (i := 57) (by decide +kernel)) rfl
theorem wd_17 : (Jvm.Cond.initialized "PromiseScopes$Task") ∈ ps_T := ps_in (List.mem_of_getElem? (i := 58) (by decide +kernel)) rfl
theorem wd_18 : (Jvm.Cond.classLink "PromiseScopesLaw" (8 : Nat) "PromiseScopes") ∈ ps_T := ps_in (List.mem_of_getElem? (i := 59) (by decide +kernel)) rfl
theorem wd_19 : (Jvm.Cond.instantiable "PromiseScopes" (2 : Nat)) ∈ ps_T := ps_in (List.mem_of_getElem? (i := 60) (by decide +kernel)) rfl
theorem wd_20 : (Jvm.Cond.methodLink "PromiseScopesLaw" (47 : Nat) ({ cls := "PromiseScopes", name := "<init>", desc := "()V" } : Jvm.MethodName)) ∈ ps_T := ps_in (List.mem_of_getElem? (i := 61) (by decide +kernel)) rfl
theorem wd_21 : (Jvm.Cond.instanceMethod ({ cls := "PromiseScopes", name := "<init>", desc := "()V" } : Jvm.MethodName)) ∈ ps_T := ps_in (List.mem_of_getElem? (i := 62) (by decide +kernel)) rfl
set_option maxRecDepth 20000 in
theorem wd_22 : (Jvm.Cond.code ({ cls := "PromiseScopes", name := "<init>", desc := "()V" } : Jvm.MethodName) prog_1_method_1_code (1 : Nat) (Option.none : Option Jvm.ClassFile.FieldType)) ∈ ps_T := ps_in (List.mem_of_getElem? (i := 63) rfl) rfl
theorem wd_23 : (Jvm.Cond.methodLink "PromiseScopes" (1 : Nat) ({ cls := "java/lang/Object", name := "<init>", desc := "()V" } : Jvm.MethodName)) ∈ ps_T := ps_in (List.mem_of_getElem? (i := 64) (by decide +kernel)) rfl
theorem wd_24 : (Jvm.Cond.instanceMethod ({ cls := "java/lang/Object", name := "<init>", desc := "()V" } : Jvm.MethodName)) ∈ ps_T := ps_in (List.mem_of_getElem? (i := 65) (by decide +kernel)) rfl
set_option maxRecDepth 20000 in
theorem wd_25 : (Jvm.Cond.code ({ cls := "java/lang/Object", name := "<init>", desc := "()V" } : Jvm.MethodName) object_method_1_code (1 : Nat) (Option.none : Option Jvm.ClassFile.FieldType)) ∈ ps_T := ps_in (List.mem_of_getElem? (i := 66) rfl) rfl
theorem wd_26 : (Jvm.Cond.classLink "PromiseScopes" (7 : Nat) "PromiseScopes$StageGraph") ∈ ps_T := ps_in (List.mem_of_getElem? (i := 67) (by decide +kernel)) rfl
theorem wd_27 : (Jvm.Cond.instantiable "PromiseScopes$StageGraph" (5 : Nat)) ∈ ps_T := ps_in (List.mem_of_getElem? (i := 68) (by decide +kernel)) rfl
theorem wd_28 : (Jvm.Cond.methodLink "PromiseScopes" (9 : Nat) ({ cls := "PromiseScopes$StageGraph", name := "<init>", desc := "()V" } : Jvm.MethodName)) ∈ ps_T := ps_in (List.mem_of_getElem? (i := 69) (by decide +kernel)) rfl
theorem wd_29 : (Jvm.Cond.instanceMethod ({ cls := "PromiseScopes$StageGraph", name := "<init>", desc := "()V" } : Jvm.MethodName)) ∈ ps_T := ps_in (List.mem_of_getElem? (i := 70) (by decide +kernel)) rfl
set_option maxRecDepth 20000 in
theorem wd_30 : (Jvm.Cond.code ({ cls := "PromiseScopes$StageGraph", name := "<init>", desc := "()V" } : Jvm.MethodName) prog_6_method_1_code (1 : Nat) (Option.none : Option Jvm.ClassFile.FieldType)) ∈ ps_T := ps_in (List.mem_of_getElem? (i := 71) rfl) rfl
theorem wd_31 : (Jvm.Cond.methodLink "PromiseScopes$StageGraph" (3 : Nat) ({ cls := "java/lang/Object", name := "<init>", desc := "()V" } : Jvm.MethodName)) ∈ ps_T := ps_in (List.mem_of_getElem? (i := 72) (by decide +kernel)) rfl
theorem wd_32 : (Jvm.Cond.classLink "PromiseScopes$StageGraph" (9 : Nat) "PromiseScopes$Stage") ∈ ps_T := ps_in (List.mem_of_getElem? (i := 73) (by decide +kernel)) rfl
theorem wd_33 : (Jvm.Cond.arrayOver (Jvm.ClassFile.FieldType.object "PromiseScopes$Stage")) ∈ ps_T := ps_in (List.mem_of_getElem? (i := 74) (by decide +kernel)) rfl
theorem wd_34 : (Jvm.Cond.classLink "PromiseScopes$StageGraph" (15 : Nat) "PromiseScopes$StageQueue") ∈ ps_T := ps_in (List.mem_of_getElem? (i := 75) (by decide +kernel)) rfl
theorem wd_35 : (Jvm.Cond.instantiable "PromiseScopes$StageQueue" (3 : Nat)) ∈ ps_T := ps_in (List.mem_of_getElem? (i := 76) (by decide +kernel)) rfl
theorem wd_36 : (Jvm.Cond.methodLink "PromiseScopes$StageGraph" (17 : Nat) ({ cls := "PromiseScopes$StageQueue", name := "<init>", desc := "()V" } : Jvm.MethodName)) ∈ ps_T := ps_in (List.mem_of_getElem? (i := 77) (by decide +kernel)) rfl
theorem wd_37 : (Jvm.Cond.instanceMethod ({ cls := "PromiseScopes$StageQueue", name := "<init>", desc := "()V" } : Jvm.MethodName)) ∈ ps_T := ps_in (List.mem_of_getElem? (i := 78) (by decide +kernel)) rfl
set_option maxRecDepth 20000 in
theorem wd_38 : (Jvm.Cond.code ({ cls := "PromiseScopes$StageQueue", name := "<init>", desc := "()V" } : Jvm.MethodName) prog_7_method_1_code (1 : Nat) (Option.none : Option Jvm.ClassFile.FieldType)) ∈ ps_T := ps_in (List.mem_of_getElem? (i := 79) rfl) rfl
theorem wd_39 : (Jvm.Cond.methodLink "PromiseScopes$StageQueue" (5 : Nat) ({ cls := "java/lang/Object", name := "<init>", desc := "()V" } : Jvm.MethodName)) ∈ ps_T := ps_in (List.mem_of_getElem? (i := 80) (by decide +kernel)) rfl
theorem wd_40 : (Jvm.Cond.classLink "PromiseScopes$StageQueue" (13 : Nat) "PromiseScopes$Stage") ∈ ps_T := ps_in (List.mem_of_getElem? (i := 81) (by decide +kernel)) rfl
theorem wd_41 : (Jvm.Cond.fieldLink "PromiseScopes$StageQueue" (15 : Nat) "PromiseScopes$StageQueue" "ring" "[LPromiseScopes$Stage;") ∈ ps_T := ps_in (List.mem_of_getElem? (i := 82) (by decide +kernel)) rfl
theorem wd_42 : (Jvm.Cond.fieldLink "PromiseScopes$StageQueue" (23 : Nat) "PromiseScopes$StageQueue" "front" "I") ∈ ps_T := ps_in (List.mem_of_getElem? (i := 83) (by decide +kernel)) rfl
theorem wd_43 : (Jvm.Cond.fieldLink "PromiseScopes$StageQueue" (19 : Nat) "PromiseScopes$StageQueue" "size" "I") ∈ ps_T := ps_in (List.mem_of_getElem? (i := 84) (by decide +kernel)) rfl
theorem wd_44 : (Jvm.Cond.laysFinal "PromiseScopes$StageQueue" "PromiseScopes$StageQueue" "ring" "[LPromiseScopes$Stage;") ∈ ps_T := ps_in (List.mem_of_getElem? (i := 85) (by decide +kernel)) rfl
theorem wd_46 : (Jvm.Cond.lays "PromiseScopes$StageQueue" "PromiseScopes$StageQueue" "front" "I") ∈ ps_T := ps_in (List.mem_of_getElem? (i := 87) (by decide +kernel)) rfl
theorem wd_48 : (Jvm.Cond.lays "PromiseScopes$StageQueue" "PromiseScopes$StageQueue" "size" "I") ∈ ps_T := ps_in (List.mem_of_getElem? (i := 89) (by decide +kernel)) rfl
theorem wd_51 : (Jvm.Cond.fieldLink "PromiseScopes$StageGraph" (11 : Nat) "PromiseScopes$StageGraph" "stages" "[LPromiseScopes$Stage;") ∈ ps_T := ps_in (List.mem_of_getElem? (i := 92) (by decide +kernel)) rfl
theorem wd_52 : (Jvm.Cond.fieldLink "PromiseScopes$StageGraph" (18 : Nat) "PromiseScopes$StageGraph" "line" "LPromiseScopes$StageQueue;") ∈ ps_T := ps_in (List.mem_of_getElem? (i := 93) (by decide +kernel)) rfl
theorem wd_53 : (Jvm.Cond.fieldLink "PromiseScopes$StageGraph" (22 : Nat) "PromiseScopes$StageGraph" "pool" "LPromiseScopes$StageQueue;") ∈ ps_T := ps_in (List.mem_of_getElem? (i := 94) (by decide +kernel)) rfl
theorem wd_54 : (Jvm.Cond.fieldLink "PromiseScopes$StageGraph" (25 : Nat) "PromiseScopes$StageGraph" "made" "I") ∈ ps_T := ps_in (List.mem_of_getElem? (i := 95) (by decide +kernel)) rfl
theorem wd_55 : (Jvm.Cond.fieldLink "PromiseScopes" (116 : Nat) "PromiseScopes$StageGraph" "made" "I") ∈ ps_T := ps_in (List.mem_of_getElem? (i := 96) (by decide +kernel)) rfl
theorem wd_56 : (Jvm.Cond.fieldLink "PromiseScopes$StageGraph" (78 : Nat) "PromiseScopes$StageGraph" "settled" "I") ∈ ps_T := ps_in (List.mem_of_getElem? (i := 97) (by decide +kernel)) rfl
theorem wd_57 : (Jvm.Cond.laysFinal "PromiseScopes$StageGraph" "PromiseScopes$StageGraph" "stages" "[LPromiseScopes$Stage;") ∈ ps_T := ps_in (List.mem_of_getElem? (i := 98) (by decide +kernel)) rfl
theorem wd_59 : (Jvm.Cond.laysFinal "PromiseScopes$StageGraph" "PromiseScopes$StageGraph" "line" "LPromiseScopes$StageQueue;") ∈ ps_T := ps_in (List.mem_of_getElem? (i := 100) (by decide +kernel)) rfl
theorem wd_61 : (Jvm.Cond.laysFinal "PromiseScopes$StageGraph" "PromiseScopes$StageGraph" "pool" "LPromiseScopes$StageQueue;") ∈ ps_T := ps_in (List.mem_of_getElem? (i := 102) (by decide +kernel)) rfl
theorem wd_63 : (Jvm.Cond.lays "PromiseScopes$StageGraph" "PromiseScopes$StageGraph" "made" "I") ∈ ps_T := ps_in (List.mem_of_getElem? (i := 104) (by decide +kernel)) rfl
theorem wd_65 : (Jvm.Cond.lays "PromiseScopes$StageGraph" "PromiseScopes$StageGraph" "settled" "I") ∈ ps_T := ps_in (List.mem_of_getElem? (i := 106) (by decide +kernel)) rfl
theorem wd_68 : (Jvm.Cond.classLink "PromiseScopes" (16 : Nat) "PromiseScopes$ScopeTree") ∈ ps_T := ps_in (List.mem_of_getElem? (i := 109) (by decide +kernel)) rfl
theorem wd_69 : (Jvm.Cond.instantiable "PromiseScopes$ScopeTree" (6 : Nat)) ∈ ps_T := ps_in (List.mem_of_getElem? (i := 110) (by decide +kernel)) rfl
theorem wd_70 : (Jvm.Cond.methodLink "PromiseScopes" (18 : Nat) ({ cls := "PromiseScopes$ScopeTree", name := "<init>", desc := "()V" } : Jvm.MethodName)) ∈ ps_T := ps_in (List.mem_of_getElem? (i := 111) (by decide +kernel)) rfl
theorem wd_71 : (Jvm.Cond.instanceMethod ({ cls := "PromiseScopes$ScopeTree", name := "<init>", desc := "()V" } : Jvm.MethodName)) ∈ ps_T := ps_in (List.mem_of_getElem? (i := 112) (by decide +kernel)) rfl
set_option maxRecDepth 20000 in
theorem wd_72 : (Jvm.Cond.code ({ cls := "PromiseScopes$ScopeTree", name := "<init>", desc := "()V" } : Jvm.MethodName) prog_4_method_1_code (1 : Nat) (Option.none : Option Jvm.ClassFile.FieldType)) ∈ ps_T := ps_in (List.mem_of_getElem? (i := 113) rfl) rfl
theorem wd_73 : (Jvm.Cond.methodLink "PromiseScopes$ScopeTree" (1 : Nat) ({ cls := "java/lang/Object", name := "<init>", desc := "()V" } : Jvm.MethodName)) ∈ ps_T := ps_in (List.mem_of_getElem? (i := 114) (by decide +kernel)) rfl
theorem wd_74 : (Jvm.Cond.classLink "PromiseScopes$ScopeTree" (9 : Nat) "PromiseScopes$Scope") ∈ ps_T := ps_in (List.mem_of_getElem? (i := 115) (by decide +kernel)) rfl
theorem wd_75 : (Jvm.Cond.arrayOver (Jvm.ClassFile.FieldType.object "PromiseScopes$Scope")) ∈ ps_T := ps_in (List.mem_of_getElem? (i := 116) (by decide +kernel)) rfl
theorem wd_76 : (Jvm.Cond.classLink "PromiseScopes$ScopeTree" (15 : Nat) "PromiseScopes$Task") ∈ ps_T := ps_in (List.mem_of_getElem? (i := 117) (by decide +kernel)) rfl
theorem wd_77 : (Jvm.Cond.arrayOver (Jvm.ClassFile.FieldType.object "PromiseScopes$Task")) ∈ ps_T := ps_in (List.mem_of_getElem? (i := 118) (by decide +kernel)) rfl
theorem wd_78 : (Jvm.Cond.fieldLink "PromiseScopes$ScopeTree" (11 : Nat) "PromiseScopes$ScopeTree" "scopes" "[LPromiseScopes$Scope;") ∈ ps_T := ps_in (List.mem_of_getElem? (i := 119) (by decide +kernel)) rfl
theorem wd_79 : (Jvm.Cond.fieldLink "PromiseScopes$ScopeTree" (17 : Nat) "PromiseScopes$ScopeTree" "tasks" "[LPromiseScopes$Task;") ∈ ps_T := ps_in (List.mem_of_getElem? (i := 120) (by decide +kernel)) rfl
theorem wd_80 : (Jvm.Cond.fieldLink "PromiseScopes$ScopeTree" (21 : Nat) "PromiseScopes$ScopeTree" "scopesMade" "I") ∈ ps_T := ps_in (List.mem_of_getElem? (i := 121) (by decide +kernel)) rfl
theorem wd_81 : (Jvm.Cond.fieldLink "PromiseScopes" (123 : Nat) "PromiseScopes$ScopeTree" "scopesMade" "I") ∈ ps_T := ps_in (List.mem_of_getElem? (i := 122) (by decide +kernel)) rfl
theorem wd_82 : (Jvm.Cond.fieldLink "PromiseScopes$ScopeTree" (25 : Nat) "PromiseScopes$ScopeTree" "tasksMade" "I") ∈ ps_T := ps_in (List.mem_of_getElem? (i := 123) (by decide +kernel)) rfl
theorem wd_83 : (Jvm.Cond.fieldLink "PromiseScopes" (126 : Nat) "PromiseScopes$ScopeTree" "tasksMade" "I") ∈ ps_T := ps_in (List.mem_of_getElem? (i := 124) (by decide +kernel)) rfl
theorem wd_84 : (Jvm.Cond.fieldLink "PromiseScopes" (129 : Nat) "PromiseScopes$ScopeTree" "time" "I") ∈ ps_T := ps_in (List.mem_of_getElem? (i := 125) (by decide +kernel)) rfl
theorem wd_85 : (Jvm.Cond.fieldLink "PromiseScopes$ScopeTree" (66 : Nat) "PromiseScopes$ScopeTree" "time" "I") ∈ ps_T := ps_in (List.mem_of_getElem? (i := 126) (by decide +kernel)) rfl
theorem wd_86 : (Jvm.Cond.fieldLink "PromiseScopes$ScopeTree" (89 : Nat) "PromiseScopes$ScopeTree" "tasksEnded" "I") ∈ ps_T := ps_in (List.mem_of_getElem? (i := 127) (by decide +kernel)) rfl
theorem wd_87 : (Jvm.Cond.laysFinal "PromiseScopes$ScopeTree" "PromiseScopes$ScopeTree" "scopes" "[LPromiseScopes$Scope;") ∈ ps_T := ps_in (List.mem_of_getElem? (i := 128) (by decide +kernel)) rfl
theorem wd_89 : (Jvm.Cond.laysFinal "PromiseScopes$ScopeTree" "PromiseScopes$ScopeTree" "tasks" "[LPromiseScopes$Task;") ∈ ps_T := ps_in (List.mem_of_getElem? (i := 130) (by decide +kernel)) rfl
theorem wd_91 : (Jvm.Cond.lays "PromiseScopes$ScopeTree" "PromiseScopes$ScopeTree" "scopesMade" "I") ∈ ps_T := ps_in (List.mem_of_getElem? (i := 132) (by decide +kernel)) rfl
theorem wd_93 : (Jvm.Cond.lays "PromiseScopes$ScopeTree" "PromiseScopes$ScopeTree" "tasksMade" "I") ∈ ps_T := ps_in (List.mem_of_getElem? (i := 134) (by decide +kernel)) rfl
theorem wd_95 : (Jvm.Cond.lays "PromiseScopes$ScopeTree" "PromiseScopes$ScopeTree" "time" "I") ∈ ps_T := ps_in (List.mem_of_getElem? (i := 136) (by decide +kernel)) rfl
theorem wd_97 : (Jvm.Cond.lays "PromiseScopes$ScopeTree" "PromiseScopes$ScopeTree" "tasksEnded" "I") ∈ ps_T := ps_in (List.mem_of_getElem? (i := 138) (by decide +kernel)) rfl
theorem wd_100 : (Jvm.Cond.fieldLink "PromiseScopes" (10 : Nat) "PromiseScopes" "graph" "LPromiseScopes$StageGraph;") ∈ ps_T := ps_in (List.mem_of_getElem? (i := 141) (by decide +kernel)) rfl
theorem wd_101 : (Jvm.Cond.fieldLink "PromiseScopes" (19 : Nat) "PromiseScopes" "tree" "LPromiseScopes$ScopeTree;") ∈ ps_T := ps_in (List.mem_of_getElem? (i := 142) (by decide +kernel)) rfl
theorem wd_102 : (Jvm.Cond.laysFinal "PromiseScopes" "PromiseScopes" "graph" "LPromiseScopes$StageGraph;") ∈ ps_T := ps_in (List.mem_of_getElem? (i := 143) (by decide +kernel)) rfl
theorem wd_104 : (Jvm.Cond.laysFinal "PromiseScopes" "PromiseScopes" "tree" "LPromiseScopes$ScopeTree;") ∈ ps_T := ps_in (List.mem_of_getElem? (i := 145) (by decide +kernel)) rfl
theorem wd_107 : (Jvm.Cond.methodLink "PromiseScopesLaw" (74 : Nat) ({ cls := "PromiseScopes", name := "complete", desc := "(II)Z" } : Jvm.MethodName)) ∈ ps_T := ps_in (List.mem_of_getElem? (i := 148) (by decide +kernel)) rfl
theorem wd_108 : (Jvm.Cond.instanceMethod ({ cls := "PromiseScopes", name := "complete", desc := "(II)Z" } : Jvm.MethodName)) ∈ ps_T := ps_in (List.mem_of_getElem? (i := 149) (by decide +kernel)) rfl
theorem wd_109 : (Jvm.Cond.selects "PromiseScopes" ({ cls := "PromiseScopes", name := "complete", desc := "(II)Z" } : Jvm.MethodName) ({ cls := "PromiseScopes", name := "complete", desc := "(II)Z" } : Jvm.MethodName)) ∈ ps_T := ps_in (List.mem_of_getElem? (i := 150) (by decide +kernel)) rfl
set_option maxRecDepth 20000 in
theorem wd_110 : (Jvm.Cond.code ({ cls := "PromiseScopes", name := "complete", desc := "(II)Z" } : Jvm.MethodName) prog_1_method_6_code (4 : Nat) (Option.some Jvm.ClassFile.FieldType.boolean)) ∈ ps_T := ps_in (List.mem_of_getElem? (i := 151) rfl) rfl
theorem wd_111 : (Jvm.Cond.methodLink "PromiseScopes" (80 : Nat) ({ cls := "PromiseScopes$StageGraph", name := "settleIfPending", desc := "(III)Z" } : Jvm.MethodName)) ∈ ps_T := ps_in (List.mem_of_getElem? (i := 152) (by decide +kernel)) rfl
theorem wd_112 : (Jvm.Cond.instanceMethod ({ cls := "PromiseScopes$StageGraph", name := "settleIfPending", desc := "(III)Z" } : Jvm.MethodName)) ∈ ps_T := ps_in (List.mem_of_getElem? (i := 153) (by decide +kernel)) rfl
theorem wd_113 : (Jvm.Cond.selects "PromiseScopes$StageGraph" ({ cls := "PromiseScopes$StageGraph", name := "settleIfPending", desc := "(III)Z" } : Jvm.MethodName) ({ cls := "PromiseScopes$StageGraph", name := "settleIfPending", desc := "(III)Z" } : Jvm.MethodName)) ∈ ps_T := ps_in (List.mem_of_getElem? (i := 154) (by decide +kernel)) rfl
set_option maxRecDepth 20000 in
theorem wd_114 : (Jvm.Cond.code ({ cls := "PromiseScopes$StageGraph", name := "settleIfPending", desc := "(III)Z" } : Jvm.MethodName) prog_6_method_14_code (5 : Nat) (Option.some Jvm.ClassFile.FieldType.boolean)) ∈ ps_T := ps_in (List.mem_of_getElem? (i := 155) rfl) rfl
theorem wd_115 : (Jvm.Cond.methodLink "PromiseScopes$StageGraph" (67 : Nat) ({ cls := "PromiseScopes$StageGraph", name := "find", desc := "(I)LPromiseScopes$Stage;" } : Jvm.MethodName)) ∈ ps_T := ps_in (List.mem_of_getElem? (i := 156) (by decide +kernel)) rfl
theorem wd_116 : (Jvm.Cond.instanceMethod ({ cls := "PromiseScopes$StageGraph", name := "find", desc := "(I)LPromiseScopes$Stage;" } : Jvm.MethodName)) ∈ ps_T := ps_in (List.mem_of_getElem? (i := 157) (by decide +kernel)) rfl
theorem wd_117 : (Jvm.Cond.selects "PromiseScopes$StageGraph" ({ cls := "PromiseScopes$StageGraph", name := "find", desc := "(I)LPromiseScopes$Stage;" } : Jvm.MethodName) ({ cls := "PromiseScopes$StageGraph", name := "find", desc := "(I)LPromiseScopes$Stage;" } : Jvm.MethodName)) ∈ ps_T := ps_in (List.mem_of_getElem? (i := 158) (by decide +kernel)) rfl
set_option maxRecDepth 20000 in
theorem wd_118 : (Jvm.Cond.code ({ cls := "PromiseScopes$StageGraph", name := "find", desc := "(I)LPromiseScopes$Stage;" } : Jvm.MethodName) prog_6_method_5_code (2 : Nat) (Option.some (Jvm.ClassFile.FieldType.object "PromiseScopes$Stage"))) ∈ ps_T := ps_in (List.mem_of_getElem? (i := 159) rfl) rfl
theorem wd_119 : (Jvm.Cond.methodLink "PromiseScopes$StageGraph" (29 : Nat) ({ cls := "PromiseScopes$StageGraph", name := "has", desc := "(I)Z" } : Jvm.MethodName)) ∈ ps_T := ps_in (List.mem_of_getElem? (i := 160) (by decide +kernel)) rfl
theorem wd_120 : (Jvm.Cond.instanceMethod ({ cls := "PromiseScopes$StageGraph", name := "has", desc := "(I)Z" } : Jvm.MethodName)) ∈ ps_T := ps_in (List.mem_of_getElem? (i := 161) (by decide +kernel)) rfl
theorem wd_121 : (Jvm.Cond.selects "PromiseScopes$StageGraph" ({ cls := "PromiseScopes$StageGraph", name := "has", desc := "(I)Z" } : Jvm.MethodName) ({ cls := "PromiseScopes$StageGraph", name := "has", desc := "(I)Z" } : Jvm.MethodName)) ∈ ps_T := ps_in (List.mem_of_getElem? (i := 162) (by decide +kernel)) rfl
set_option maxRecDepth 20000 in
theorem wd_122 : (Jvm.Cond.code ({ cls := "PromiseScopes$StageGraph", name := "has", desc := "(I)Z" } : Jvm.MethodName) prog_6_method_3_code (2 : Nat) (Option.some Jvm.ClassFile.FieldType.boolean)) ∈ ps_T := ps_in (List.mem_of_getElem? (i := 163) rfl) rfl
theorem wd_123 : (Jvm.Cond.methodLink "PromiseScopes$StageGraph" (74 : Nat) ({ cls := "PromiseScopes$StageGraph", name := "settle", desc := "(LPromiseScopes$Stage;II)V" } : Jvm.MethodName)) ∈ ps_T := ps_in (List.mem_of_getElem? (i := 164) (by decide +kernel)) rfl
theorem wd_124 : (Jvm.Cond.instanceMethod ({ cls := "PromiseScopes$StageGraph", name := "settle", desc := "(LPromiseScopes$Stage;II)V" } : Jvm.MethodName)) ∈ ps_T := ps_in (List.mem_of_getElem? (i := 165) (by decide +kernel)) rfl
theorem wd_125 : (Jvm.Cond.selects "PromiseScopes$StageGraph" ({ cls := "PromiseScopes$StageGraph", name := "settle", desc := "(LPromiseScopes$Stage;II)V" } : Jvm.MethodName) ({ cls := "PromiseScopes$StageGraph", name := "settle", desc := "(LPromiseScopes$Stage;II)V" } : Jvm.MethodName)) ∈ ps_T := ps_in (List.mem_of_getElem? (i := 166) (by decide +kernel)) rfl
set_option maxRecDepth 20000 in
theorem wd_126 : (Jvm.Cond.code ({ cls := "PromiseScopes$StageGraph", name := "settle", desc := "(LPromiseScopes$Stage;II)V" } : Jvm.MethodName) prog_6_method_13_code (4 : Nat) (Option.none : Option Jvm.ClassFile.FieldType)) ∈ ps_T := ps_in (List.mem_of_getElem? (i := 167) rfl) rfl
theorem wd_127 : (Jvm.Cond.methodLink "PromiseScopes$StageGraph" (59 : Nat) ({ cls := "PromiseScopes$Stage", name := "become", desc := "(II)V" } : Jvm.MethodName)) ∈ ps_T := ps_in (List.mem_of_getElem? (i := 168) (by decide +kernel)) rfl
theorem wd_128 : (Jvm.Cond.instanceMethod ({ cls := "PromiseScopes$Stage", name := "become", desc := "(II)V" } : Jvm.MethodName)) ∈ ps_T := ps_in (List.mem_of_getElem? (i := 169) (by decide +kernel)) rfl
theorem wd_129 : (Jvm.Cond.selects "PromiseScopes$Stage" ({ cls := "PromiseScopes$Stage", name := "become", desc := "(II)V" } : Jvm.MethodName) ({ cls := "PromiseScopes$Stage", name := "become", desc := "(II)V" } : Jvm.MethodName)) ∈ ps_T := ps_in (List.mem_of_getElem? (i := 170) (by decide +kernel)) rfl
set_option maxRecDepth 20000 in
theorem wd_130 : (Jvm.Cond.code ({ cls := "PromiseScopes$Stage", name := "become", desc := "(II)V" } : Jvm.MethodName) prog_5_method_4_code (3 : Nat) (Option.none : Option Jvm.ClassFile.FieldType)) ∈ ps_T := ps_in (List.mem_of_getElem? (i := 171) rfl) rfl
theorem wd_131 : (Jvm.Cond.methodLink "PromiseScopes$StageGraph" (63 : Nat) ({ cls := "PromiseScopes$StageGraph", name := "noteTurn", desc := "(LPromiseScopes$Stage;)V" } : Jvm.MethodName)) ∈ ps_T := ps_in (List.mem_of_getElem? (i := 172) (by decide +kernel)) rfl
theorem wd_133 : (Jvm.Cond.instanceMethod ({ cls := "PromiseScopes$StageGraph", name := "noteTurn", desc := "(LPromiseScopes$Stage;)V" } : Jvm.MethodName)) ∈ ps_T := ps_in (List.mem_of_getElem? (i := 174) (by decide +kernel)) rfl
set_option maxRecDepth 20000 in
theorem wd_134 : (Jvm.Cond.code ({ cls := "PromiseScopes$StageGraph", name := "noteTurn", desc := "(LPromiseScopes$Stage;)V" } : Jvm.MethodName) prog_6_method_15_code (2 : Nat) (Option.none : Option Jvm.ClassFile.FieldType)) ∈ ps_T := ps_in (List.mem_of_getElem? (i := 175) rfl) rfl
theorem wd_135 : (Jvm.Cond.methodLink "PromiseScopes$StageGraph" (56 : Nat) ({ cls := "PromiseScopes$StageGraph", name := "queueAllThatAreAble", desc := "()V" } : Jvm.MethodName)) ∈ ps_T := ps_in (List.mem_of_getElem? (i := 176) (by decide +kernel)) rfl
theorem wd_137 : (Jvm.Cond.instanceMethod ({ cls := "PromiseScopes$StageGraph", name := "queueAllThatAreAble", desc := "()V" } : Jvm.MethodName)) ∈ ps_T := ps_in (List.mem_of_getElem? (i := 178) (by decide +kernel)) rfl
set_option maxRecDepth 20000 in
theorem wd_138 : (Jvm.Cond.code ({ cls := "PromiseScopes$StageGraph", name := "queueAllThatAreAble", desc := "()V" } : Jvm.MethodName) prog_6_method_19_code (3 : Nat) (Option.none : Option Jvm.ClassFile.FieldType)) ∈ ps_T := ps_in (List.mem_of_getElem? (i := 179) rfl) rfl
theorem wd_139 : (Jvm.Cond.methodLink "PromiseScopes$StageGraph" (98 : Nat) ({ cls := "PromiseScopes$Stage", name := "isAble", desc := "()Z" } : Jvm.MethodName)) ∈ ps_T := ps_in (List.mem_of_getElem? (i := 180) (by decide +kernel)) rfl
theorem wd_140 : (Jvm.Cond.instanceMethod ({ cls := "PromiseScopes$Stage", name := "isAble", desc := "()Z" } : Jvm.MethodName)) ∈ ps_T := ps_in (List.mem_of_getElem? (i := 181) (by decide +kernel)) rfl
theorem wd_141 : (Jvm.Cond.selects "PromiseScopes$Stage" ({ cls := "PromiseScopes$Stage", name := "isAble", desc := "()Z" } : Jvm.MethodName) ({ cls := "PromiseScopes$Stage", name := "isAble", desc := "()Z" } : Jvm.MethodName)) ∈ ps_T := ps_in (List.mem_of_getElem? (i := 182) (by decide +kernel)) rfl
set_option maxRecDepth 20000 in
theorem wd_142 : (Jvm.Cond.code ({ cls := "PromiseScopes$Stage", name := "isAble", desc := "()Z" } : Jvm.MethodName) prog_5_method_2_code (3 : Nat) (Option.some Jvm.ClassFile.FieldType.boolean)) ∈ ps_T := ps_in (List.mem_of_getElem? (i := 183) rfl) rfl
theorem wd_143 : (Jvm.Cond.methodLink "PromiseScopes$StageGraph" (102 : Nat) ({ cls := "PromiseScopes$Stage", name := "goesToPool", desc := "()Z" } : Jvm.MethodName)) ∈ ps_T := ps_in (List.mem_of_getElem? (i := 184) (by decide +kernel)) rfl
theorem wd_144 : (Jvm.Cond.instanceMethod ({ cls := "PromiseScopes$Stage", name := "goesToPool", desc := "()Z" } : Jvm.MethodName)) ∈ ps_T := ps_in (List.mem_of_getElem? (i := 185) (by decide +kernel)) rfl
theorem wd_145 : (Jvm.Cond.selects "PromiseScopes$Stage" ({ cls := "PromiseScopes$Stage", name := "goesToPool", desc := "()Z" } : Jvm.MethodName) ({ cls := "PromiseScopes$Stage", name := "goesToPool", desc := "()Z" } : Jvm.MethodName)) ∈ ps_T := ps_in (List.mem_of_getElem? (i := 186) (by decide +kernel)) rfl
set_option maxRecDepth 20000 in
theorem wd_146 : (Jvm.Cond.code ({ cls := "PromiseScopes$Stage", name := "goesToPool", desc := "()Z" } : Jvm.MethodName) prog_5_method_3_code (1 : Nat) (Option.some Jvm.ClassFile.FieldType.boolean)) ∈ ps_T := ps_in (List.mem_of_getElem? (i := 187) rfl) rfl
theorem wd_147 : (Jvm.Cond.methodLink "PromiseScopes$StageGraph" (105 : Nat) ({ cls := "PromiseScopes$StageQueue", name := "append", desc := "(LPromiseScopes$Stage;)V" } : Jvm.MethodName)) ∈ ps_T := ps_in (List.mem_of_getElem? (i := 188) (by decide +kernel)) rfl
theorem wd_148 : (Jvm.Cond.instanceMethod ({ cls := "PromiseScopes$StageQueue", name := "append", desc := "(LPromiseScopes$Stage;)V" } : Jvm.MethodName)) ∈ ps_T := ps_in (List.mem_of_getElem? (i := 189) (by decide +kernel)) rfl
theorem wd_149 : (Jvm.Cond.selects "PromiseScopes$StageQueue" ({ cls := "PromiseScopes$StageQueue", name := "append", desc := "(LPromiseScopes$Stage;)V" } : Jvm.MethodName) ({ cls := "PromiseScopes$StageQueue", name := "append", desc := "(LPromiseScopes$Stage;)V" } : Jvm.MethodName)) ∈ ps_T := ps_in (List.mem_of_getElem? (i := 190) (by decide +kernel)) rfl
set_option maxRecDepth 20000 in
theorem wd_150 : (Jvm.Cond.code ({ cls := "PromiseScopes$StageQueue", name := "append", desc := "(LPromiseScopes$Stage;)V" } : Jvm.MethodName) prog_7_method_3_code (2 : Nat) (Option.none : Option Jvm.ClassFile.FieldType)) ∈ ps_T := ps_in (List.mem_of_getElem? (i := 191) rfl) rfl
theorem wd_151 : (Jvm.Cond.methodLink "PromiseScopes" (64 : Nat) ({ cls := "PromiseScopes$StageGraph", name := "workOffLine", desc := "()V" } : Jvm.MethodName)) ∈ ps_T := ps_in (List.mem_of_getElem? (i := 192) (by decide +kernel)) rfl
theorem wd_152 : (Jvm.Cond.instanceMethod ({ cls := "PromiseScopes$StageGraph", name := "workOffLine", desc := "()V" } : Jvm.MethodName)) ∈ ps_T := ps_in (List.mem_of_getElem? (i := 193) (by decide +kernel)) rfl
theorem wd_153 : (Jvm.Cond.selects "PromiseScopes$StageGraph" ({ cls := "PromiseScopes$StageGraph", name := "workOffLine", desc := "()V" } : Jvm.MethodName) ({ cls := "PromiseScopes$StageGraph", name := "workOffLine", desc := "()V" } : Jvm.MethodName)) ∈ ps_T := ps_in (List.mem_of_getElem? (i := 194) (by decide +kernel)) rfl
set_option maxRecDepth 20000 in
theorem wd_154 : (Jvm.Cond.code ({ cls := "PromiseScopes$StageGraph", name := "workOffLine", desc := "()V" } : Jvm.MethodName) prog_6_method_16_code (3 : Nat) (Option.none : Option Jvm.ClassFile.FieldType)) ∈ ps_T := ps_in (List.mem_of_getElem? (i := 195) rfl) rfl
theorem wd_155 : (Jvm.Cond.methodLink "PromiseScopes$StageGraph" (84 : Nat) ({ cls := "PromiseScopes$StageQueue", name := "takeFront", desc := "()LPromiseScopes$Stage;" } : Jvm.MethodName)) ∈ ps_T := ps_in (List.mem_of_getElem? (i := 196) (by decide +kernel)) rfl
theorem wd_156 : (Jvm.Cond.instanceMethod ({ cls := "PromiseScopes$StageQueue", name := "takeFront", desc := "()LPromiseScopes$Stage;" } : Jvm.MethodName)) ∈ ps_T := ps_in (List.mem_of_getElem? (i := 197) (by decide +kernel)) rfl
theorem wd_157 : (Jvm.Cond.selects "PromiseScopes$StageQueue" ({ cls := "PromiseScopes$StageQueue", name := "takeFront", desc := "()LPromiseScopes$Stage;" } : Jvm.MethodName) ({ cls := "PromiseScopes$StageQueue", name := "takeFront", desc := "()LPromiseScopes$Stage;" } : Jvm.MethodName)) ∈ ps_T := ps_in (List.mem_of_getElem? (i := 198) (by decide +kernel)) rfl
set_option maxRecDepth 20000 in
theorem wd_158 : (Jvm.Cond.code ({ cls := "PromiseScopes$StageQueue", name := "takeFront", desc := "()LPromiseScopes$Stage;" } : Jvm.MethodName) prog_7_method_4_code (2 : Nat) (Option.some (Jvm.ClassFile.FieldType.object "PromiseScopes$Stage"))) ∈ ps_T := ps_in (List.mem_of_getElem? (i := 199) rfl) rfl
theorem wd_159 : (Jvm.Cond.methodLink "PromiseScopes$StageGraph" (88 : Nat) ({ cls := "PromiseScopes$StageGraph", name := "advance", desc := "(LPromiseScopes$Stage;)V" } : Jvm.MethodName)) ∈ ps_T := ps_in (List.mem_of_getElem? (i := 200) (by decide +kernel)) rfl
theorem wd_161 : (Jvm.Cond.instanceMethod ({ cls := "PromiseScopes$StageGraph", name := "advance", desc := "(LPromiseScopes$Stage;)V" } : Jvm.MethodName)) ∈ ps_T := ps_in (List.mem_of_getElem? (i := 202) (by decide +kernel)) rfl
set_option maxRecDepth 20000 in
theorem wd_162 : (Jvm.Cond.code ({ cls := "PromiseScopes$StageGraph", name := "advance", desc := "(LPromiseScopes$Stage;)V" } : Jvm.MethodName) prog_6_method_18_code (2 : Nat) (Option.none : Option Jvm.ClassFile.FieldType)) ∈ ps_T := ps_in (List.mem_of_getElem? (i := 203) rfl) rfl
theorem wd_163 : (Jvm.Cond.methodLink "PromiseScopes$StageGraph" (95 : Nat) ({ cls := "PromiseScopes$StageGraph", name := "decide", desc := "(LPromiseScopes$Stage;)V" } : Jvm.MethodName)) ∈ ps_T := ps_in (List.mem_of_getElem? (i := 204) (by decide +kernel)) rfl
theorem wd_165 : (Jvm.Cond.instanceMethod ({ cls := "PromiseScopes$StageGraph", name := "decide", desc := "(LPromiseScopes$Stage;)V" } : Jvm.MethodName)) ∈ ps_T := ps_in (List.mem_of_getElem? (i := 206) (by decide +kernel)) rfl
set_option maxRecDepth 20000 in
theorem wd_166 : (Jvm.Cond.code ({ cls := "PromiseScopes$StageGraph", name := "decide", desc := "(LPromiseScopes$Stage;)V" } : Jvm.MethodName) prog_6_method_20_code (3 : Nat) (Option.none : Option Jvm.ClassFile.FieldType)) ∈ ps_T := ps_in (List.mem_of_getElem? (i := 207) rfl) rfl
theorem wd_167 : (Jvm.Cond.methodLink "PromiseScopes$StageGraph" (114 : Nat) ({ cls := "PromiseScopes$Stage", name := "applyTo", desc := "(LPromiseScopes$Stage;)V" } : Jvm.MethodName)) ∈ ps_T := ps_in (List.mem_of_getElem? (i := 208) (by decide +kernel)) rfl
theorem wd_168 : (Jvm.Cond.instanceMethod ({ cls := "PromiseScopes$Stage", name := "applyTo", desc := "(LPromiseScopes$Stage;)V" } : Jvm.MethodName)) ∈ ps_T := ps_in (List.mem_of_getElem? (i := 209) (by decide +kernel)) rfl
theorem wd_169 : (Jvm.Cond.selects "PromiseScopes$Stage" ({ cls := "PromiseScopes$Stage", name := "applyTo", desc := "(LPromiseScopes$Stage;)V" } : Jvm.MethodName) ({ cls := "PromiseScopes$Stage", name := "applyTo", desc := "(LPromiseScopes$Stage;)V" } : Jvm.MethodName)) ∈ ps_T := ps_in (List.mem_of_getElem? (i := 210) (by decide +kernel)) rfl
set_option maxRecDepth 20000 in
theorem wd_170 : (Jvm.Cond.code ({ cls := "PromiseScopes$Stage", name := "applyTo", desc := "(LPromiseScopes$Stage;)V" } : Jvm.MethodName) prog_5_method_7_code (2 : Nat) (Option.none : Option Jvm.ClassFile.FieldType)) ∈ ps_T := ps_in (List.mem_of_getElem? (i := 211) rfl) rfl
theorem wd_171 : (Jvm.Cond.methodLink "PromiseScopes$Stage" (57 : Nat) ({ cls := "PromiseScopes$Stage", name := "useFunction", desc := "(I)V" } : Jvm.MethodName)) ∈ ps_T := ps_in (List.mem_of_getElem? (i := 212) (by decide +kernel)) rfl
theorem wd_172 : (Jvm.Cond.instanceMethod ({ cls := "PromiseScopes$Stage", name := "useFunction", desc := "(I)V" } : Jvm.MethodName)) ∈ ps_T := ps_in (List.mem_of_getElem? (i := 213) (by decide +kernel)) rfl
theorem wd_173 : (Jvm.Cond.selects "PromiseScopes$Stage" ({ cls := "PromiseScopes$Stage", name := "useFunction", desc := "(I)V" } : Jvm.MethodName) ({ cls := "PromiseScopes$Stage", name := "useFunction", desc := "(I)V" } : Jvm.MethodName)) ∈ ps_T := ps_in (List.mem_of_getElem? (i := 214) (by decide +kernel)) rfl
set_option maxRecDepth 20000 in
theorem wd_174 : (Jvm.Cond.code ({ cls := "PromiseScopes$Stage", name := "useFunction", desc := "(I)V" } : Jvm.MethodName) prog_5_method_6_code (3 : Nat) (Option.none : Option Jvm.ClassFile.FieldType)) ∈ ps_T := ps_in (List.mem_of_getElem? (i := 215) rfl) rfl
theorem wd_175 : (Jvm.Cond.methodLink "PromiseScopes$Stage" (48 : Nat) ({ cls := "PromiseScopes$Functions", name := "thrownFor", desc := "(III)I" } : Jvm.MethodName)) ∈ ps_T := ps_in (List.mem_of_getElem? (i := 216) (by decide +kernel)) rfl
theorem wd_176 : (Jvm.Cond.static ({ cls := "PromiseScopes$Functions", name := "thrownFor", desc := "(III)I" } : Jvm.MethodName)) ∈ ps_T := ps_in (List.mem_of_getElem? (i := 217) (by decide +kernel)) rfl
set_option maxRecDepth 20000 in
theorem wd_177 : (Jvm.Cond.code ({ cls := "PromiseScopes$Functions", name := "thrownFor", desc := "(III)I" } : Jvm.MethodName) prog_2_method_3_code (3 : Nat) (Option.some Jvm.ClassFile.FieldType.int)) ∈ ps_T := ps_in (List.mem_of_getElem? (i := 218) rfl) rfl
theorem wd_178 : (Jvm.Cond.methodLink "PromiseScopes$Stage" (44 : Nat) ({ cls := "PromiseScopes$Stage", name := "become", desc := "(II)V" } : Jvm.MethodName)) ∈ ps_T := ps_in (List.mem_of_getElem? (i := 219) (by decide +kernel)) rfl
theorem wd_179 : (Jvm.Cond.methodLink "PromiseScopes$Stage" (54 : Nat) ({ cls := "PromiseScopes$Functions", name := "madeOf", desc := "(III)I" } : Jvm.MethodName)) ∈ ps_T := ps_in (List.mem_of_getElem? (i := 220) (by decide +kernel)) rfl
theorem wd_180 : (Jvm.Cond.static ({ cls := "PromiseScopes$Functions", name := "madeOf", desc := "(III)I" } : Jvm.MethodName)) ∈ ps_T := ps_in (List.mem_of_getElem? (i := 221) (by decide +kernel)) rfl
set_option maxRecDepth 20000 in
theorem wd_181 : (Jvm.Cond.code ({ cls := "PromiseScopes$Functions", name := "madeOf", desc := "(III)I" } : Jvm.MethodName) prog_2_method_4_code (3 : Nat) (Option.some Jvm.ClassFile.FieldType.int)) ∈ ps_T := ps_in (List.mem_of_getElem? (i := 222) rfl) rfl
theorem wd_182 : (Jvm.Cond.methodLink "PromiseScopes$Stage" (61 : Nat) ({ cls := "PromiseScopes$Stage", name := "follow", desc := "(LPromiseScopes$Stage;)V" } : Jvm.MethodName)) ∈ ps_T := ps_in (List.mem_of_getElem? (i := 223) (by decide +kernel)) rfl
theorem wd_183 : (Jvm.Cond.instanceMethod ({ cls := "PromiseScopes$Stage", name := "follow", desc := "(LPromiseScopes$Stage;)V" } : Jvm.MethodName)) ∈ ps_T := ps_in (List.mem_of_getElem? (i := 224) (by decide +kernel)) rfl
theorem wd_184 : (Jvm.Cond.selects "PromiseScopes$Stage" ({ cls := "PromiseScopes$Stage", name := "follow", desc := "(LPromiseScopes$Stage;)V" } : Jvm.MethodName) ({ cls := "PromiseScopes$Stage", name := "follow", desc := "(LPromiseScopes$Stage;)V" } : Jvm.MethodName)) ∈ ps_T := ps_in (List.mem_of_getElem? (i := 225) (by decide +kernel)) rfl
set_option maxRecDepth 20000 in
theorem wd_185 : (Jvm.Cond.code ({ cls := "PromiseScopes$Stage", name := "follow", desc := "(LPromiseScopes$Stage;)V" } : Jvm.MethodName) prog_5_method_5_code (2 : Nat) (Option.none : Option Jvm.ClassFile.FieldType)) ∈ ps_T := ps_in (List.mem_of_getElem? (i := 226) rfl) rfl
theorem wd_186 : (Jvm.Cond.methodLink "PromiseScopes$StageGraph" (117 : Nat) ({ cls := "PromiseScopes$Stage", name := "recoverFrom", desc := "(LPromiseScopes$Stage;)V" } : Jvm.MethodName)) ∈ ps_T := ps_in (List.mem_of_getElem? (i := 227) (by decide +kernel)) rfl
theorem wd_187 : (Jvm.Cond.instanceMethod ({ cls := "PromiseScopes$Stage", name := "recoverFrom", desc := "(LPromiseScopes$Stage;)V" } : Jvm.MethodName)) ∈ ps_T := ps_in (List.mem_of_getElem? (i := 228) (by decide +kernel)) rfl
theorem wd_188 : (Jvm.Cond.selects "PromiseScopes$Stage" ({ cls := "PromiseScopes$Stage", name := "recoverFrom", desc := "(LPromiseScopes$Stage;)V" } : Jvm.MethodName) ({ cls := "PromiseScopes$Stage", name := "recoverFrom", desc := "(LPromiseScopes$Stage;)V" } : Jvm.MethodName)) ∈ ps_T := ps_in (List.mem_of_getElem? (i := 229) (by decide +kernel)) rfl
set_option maxRecDepth 20000 in
theorem wd_189 : (Jvm.Cond.code ({ cls := "PromiseScopes$Stage", name := "recoverFrom", desc := "(LPromiseScopes$Stage;)V" } : Jvm.MethodName) prog_5_method_8_code (2 : Nat) (Option.none : Option Jvm.ClassFile.FieldType)) ∈ ps_T := ps_in (List.mem_of_getElem? (i := 230) rfl) rfl
theorem wd_190 : (Jvm.Cond.methodLink "PromiseScopes$StageGraph" (120 : Nat) ({ cls := "PromiseScopes$Stage", name := "handle", desc := "(LPromiseScopes$Stage;)V" } : Jvm.MethodName)) ∈ ps_T := ps_in (List.mem_of_getElem? (i := 231) (by decide +kernel)) rfl
theorem wd_191 : (Jvm.Cond.instanceMethod ({ cls := "PromiseScopes$Stage", name := "handle", desc := "(LPromiseScopes$Stage;)V" } : Jvm.MethodName)) ∈ ps_T := ps_in (List.mem_of_getElem? (i := 232) (by decide +kernel)) rfl
theorem wd_192 : (Jvm.Cond.selects "PromiseScopes$Stage" ({ cls := "PromiseScopes$Stage", name := "handle", desc := "(LPromiseScopes$Stage;)V" } : Jvm.MethodName) ({ cls := "PromiseScopes$Stage", name := "handle", desc := "(LPromiseScopes$Stage;)V" } : Jvm.MethodName)) ∈ ps_T := ps_in (List.mem_of_getElem? (i := 233) (by decide +kernel)) rfl
set_option maxRecDepth 20000 in
theorem wd_193 : (Jvm.Cond.code ({ cls := "PromiseScopes$Stage", name := "handle", desc := "(LPromiseScopes$Stage;)V" } : Jvm.MethodName) prog_5_method_9_code (2 : Nat) (Option.none : Option Jvm.ClassFile.FieldType)) ∈ ps_T := ps_in (List.mem_of_getElem? (i := 234) rfl) rfl
theorem wd_194 : (Jvm.Cond.methodLink "PromiseScopes$StageGraph" (123 : Nat) ({ cls := "PromiseScopes$Stage", name := "watch", desc := "(LPromiseScopes$Stage;)V" } : Jvm.MethodName)) ∈ ps_T := ps_in (List.mem_of_getElem? (i := 235) (by decide +kernel)) rfl
theorem wd_195 : (Jvm.Cond.instanceMethod ({ cls := "PromiseScopes$Stage", name := "watch", desc := "(LPromiseScopes$Stage;)V" } : Jvm.MethodName)) ∈ ps_T := ps_in (List.mem_of_getElem? (i := 236) (by decide +kernel)) rfl
theorem wd_196 : (Jvm.Cond.selects "PromiseScopes$Stage" ({ cls := "PromiseScopes$Stage", name := "watch", desc := "(LPromiseScopes$Stage;)V" } : Jvm.MethodName) ({ cls := "PromiseScopes$Stage", name := "watch", desc := "(LPromiseScopes$Stage;)V" } : Jvm.MethodName)) ∈ ps_T := ps_in (List.mem_of_getElem? (i := 237) (by decide +kernel)) rfl
set_option maxRecDepth 20000 in
theorem wd_197 : (Jvm.Cond.code ({ cls := "PromiseScopes$Stage", name := "watch", desc := "(LPromiseScopes$Stage;)V" } : Jvm.MethodName) prog_5_method_10_code (3 : Nat) (Option.none : Option Jvm.ClassFile.FieldType)) ∈ ps_T := ps_in (List.mem_of_getElem? (i := 238) rfl) rfl
theorem wd_198 : (Jvm.Cond.methodLink "PromiseScopes$StageGraph" (126 : Nat) ({ cls := "PromiseScopes$StageGraph", name := "compose", desc := "(LPromiseScopes$Stage;LPromiseScopes$Stage;)V" } : Jvm.MethodName)) ∈ ps_T := ps_in (List.mem_of_getElem? (i := 239) (by decide +kernel)) rfl
theorem wd_200 : (Jvm.Cond.instanceMethod ({ cls := "PromiseScopes$StageGraph", name := "compose", desc := "(LPromiseScopes$Stage;LPromiseScopes$Stage;)V" } : Jvm.MethodName)) ∈ ps_T := ps_in (List.mem_of_getElem? (i := 241) (by decide +kernel)) rfl
set_option maxRecDepth 20000 in
theorem wd_201 : (Jvm.Cond.code ({ cls := "PromiseScopes$StageGraph", name := "compose", desc := "(LPromiseScopes$Stage;LPromiseScopes$Stage;)V" } : Jvm.MethodName) prog_6_method_21_code (4 : Nat) (Option.none : Option Jvm.ClassFile.FieldType)) ∈ ps_T := ps_in (List.mem_of_getElem? (i := 242) rfl) rfl
theorem wd_202 : (Jvm.Cond.methodLink "PromiseScopes$StageGraph" (139 : Nat) ({ cls := "PromiseScopes$Stage", name := "follow", desc := "(LPromiseScopes$Stage;)V" } : Jvm.MethodName)) ∈ ps_T := ps_in (List.mem_of_getElem? (i := 243) (by decide +kernel)) rfl
theorem wd_203 : (Jvm.Cond.methodLink "PromiseScopes$StageGraph" (155 : Nat) ({ cls := "PromiseScopes$Functions", name := "thrownFor", desc := "(III)I" } : Jvm.MethodName)) ∈ ps_T := ps_in (List.mem_of_getElem? (i := 244) (by decide +kernel)) rfl
theorem wd_204 : (Jvm.Cond.methodLink "PromiseScopes$StageGraph" (159 : Nat) ({ cls := "PromiseScopes$Functions", name := "madeOf", desc := "(III)I" } : Jvm.MethodName)) ∈ ps_T := ps_in (List.mem_of_getElem? (i := 245) (by decide +kernel)) rfl
theorem wd_205 : (Jvm.Cond.methodLink "PromiseScopes$StageGraph" (130 : Nat) ({ cls := "PromiseScopes$Stage", name := "combine", desc := "(LPromiseScopes$Stage;LPromiseScopes$Stage;)V" } : Jvm.MethodName)) ∈ ps_T := ps_in (List.mem_of_getElem? (i := 246) (by decide +kernel)) rfl
theorem wd_206 : (Jvm.Cond.instanceMethod ({ cls := "PromiseScopes$Stage", name := "combine", desc := "(LPromiseScopes$Stage;LPromiseScopes$Stage;)V" } : Jvm.MethodName)) ∈ ps_T := ps_in (List.mem_of_getElem? (i := 247) (by decide +kernel)) rfl
theorem wd_207 : (Jvm.Cond.selects "PromiseScopes$Stage" ({ cls := "PromiseScopes$Stage", name := "combine", desc := "(LPromiseScopes$Stage;LPromiseScopes$Stage;)V" } : Jvm.MethodName) ({ cls := "PromiseScopes$Stage", name := "combine", desc := "(LPromiseScopes$Stage;LPromiseScopes$Stage;)V" } : Jvm.MethodName)) ∈ ps_T := ps_in (List.mem_of_getElem? (i := 248) (by decide +kernel)) rfl
set_option maxRecDepth 20000 in
theorem wd_208 : (Jvm.Cond.code ({ cls := "PromiseScopes$Stage", name := "combine", desc := "(LPromiseScopes$Stage;LPromiseScopes$Stage;)V" } : Jvm.MethodName) prog_5_method_11_code (3 : Nat) (Option.none : Option Jvm.ClassFile.FieldType)) ∈ ps_T := ps_in (List.mem_of_getElem? (i := 249) rfl) rfl
theorem wd_209 : (Jvm.Cond.methodLink "PromiseScopes$StageGraph" (133 : Nat) ({ cls := "PromiseScopes$Stage", name := "firstSettledInput", desc := "()LPromiseScopes$Stage;" } : Jvm.MethodName)) ∈ ps_T := ps_in (List.mem_of_getElem? (i := 250) (by decide +kernel)) rfl
theorem wd_210 : (Jvm.Cond.instanceMethod ({ cls := "PromiseScopes$Stage", name := "firstSettledInput", desc := "()LPromiseScopes$Stage;" } : Jvm.MethodName)) ∈ ps_T := ps_in (List.mem_of_getElem? (i := 251) (by decide +kernel)) rfl
theorem wd_211 : (Jvm.Cond.selects "PromiseScopes$Stage" ({ cls := "PromiseScopes$Stage", name := "firstSettledInput", desc := "()LPromiseScopes$Stage;" } : Jvm.MethodName) ({ cls := "PromiseScopes$Stage", name := "firstSettledInput", desc := "()LPromiseScopes$Stage;" } : Jvm.MethodName)) ∈ ps_T := ps_in (List.mem_of_getElem? (i := 252) (by decide +kernel)) rfl
set_option maxRecDepth 20000 in
theorem wd_212 : (Jvm.Cond.code ({ cls := "PromiseScopes$Stage", name := "firstSettledInput", desc := "()LPromiseScopes$Stage;" } : Jvm.MethodName) prog_5_method_13_code (3 : Nat) (Option.some (Jvm.ClassFile.FieldType.object "PromiseScopes$Stage"))) ∈ ps_T := ps_in (List.mem_of_getElem? (i := 253) rfl) rfl
theorem wd_213 : (Jvm.Cond.methodLink "PromiseScopes$StageGraph" (136 : Nat) ({ cls := "PromiseScopes$Stage", name := "sumUp", desc := "()V" } : Jvm.MethodName)) ∈ ps_T := ps_in (List.mem_of_getElem? (i := 254) (by decide +kernel)) rfl
theorem wd_214 : (Jvm.Cond.instanceMethod ({ cls := "PromiseScopes$Stage", name := "sumUp", desc := "()V" } : Jvm.MethodName)) ∈ ps_T := ps_in (List.mem_of_getElem? (i := 255) (by decide +kernel)) rfl
theorem wd_215 : (Jvm.Cond.selects "PromiseScopes$Stage" ({ cls := "PromiseScopes$Stage", name := "sumUp", desc := "()V" } : Jvm.MethodName) ({ cls := "PromiseScopes$Stage", name := "sumUp", desc := "()V" } : Jvm.MethodName)) ∈ ps_T := ps_in (List.mem_of_getElem? (i := 256) (by decide +kernel)) rfl
set_option maxRecDepth 20000 in
theorem wd_216 : (Jvm.Cond.code ({ cls := "PromiseScopes$Stage", name := "sumUp", desc := "()V" } : Jvm.MethodName) prog_5_method_12_code (3 : Nat) (Option.none : Option Jvm.ClassFile.FieldType)) ∈ ps_T := ps_in (List.mem_of_getElem? (i := 257) rfl) rfl
theorem wd_217 : (Jvm.Cond.methodLink "PromiseScopesLaw" (79 : Nat) ({ cls := "PromiseScopes", name := "fail", desc := "(II)Z" } : Jvm.MethodName)) ∈ ps_T := ps_in (List.mem_of_getElem? (i := 258) (by decide +kernel)) rfl
theorem wd_218 : (Jvm.Cond.instanceMethod ({ cls := "PromiseScopes", name := "fail", desc := "(II)Z" } : Jvm.MethodName)) ∈ ps_T := ps_in (List.mem_of_getElem? (i := 259) (by decide +kernel)) rfl
theorem wd_219 : (Jvm.Cond.selects "PromiseScopes" ({ cls := "PromiseScopes", name := "fail", desc := "(II)Z" } : Jvm.MethodName) ({ cls := "PromiseScopes", name := "fail", desc := "(II)Z" } : Jvm.MethodName)) ∈ ps_T := ps_in (List.mem_of_getElem? (i := 260) (by decide +kernel)) rfl
set_option maxRecDepth 20000 in
theorem wd_220 : (Jvm.Cond.code ({ cls := "PromiseScopes", name := "fail", desc := "(II)Z" } : Jvm.MethodName) prog_1_method_7_code (4 : Nat) (Option.some Jvm.ClassFile.FieldType.boolean)) ∈ ps_T := ps_in (List.mem_of_getElem? (i := 261) rfl) rfl
theorem wd_221 : (Jvm.Cond.methodLink "PromiseScopesLaw" (83 : Nat) ({ cls := "PromiseScopes", name := "cancel", desc := "(I)Z" } : Jvm.MethodName)) ∈ ps_T := ps_in (List.mem_of_getElem? (i := 262) (by decide +kernel)) rfl
theorem wd_222 : (Jvm.Cond.instanceMethod ({ cls := "PromiseScopes", name := "cancel", desc := "(I)Z" } : Jvm.MethodName)) ∈ ps_T := ps_in (List.mem_of_getElem? (i := 263) (by decide +kernel)) rfl
theorem wd_223 : (Jvm.Cond.selects "PromiseScopes" ({ cls := "PromiseScopes", name := "cancel", desc := "(I)Z" } : Jvm.MethodName) ({ cls := "PromiseScopes", name := "cancel", desc := "(I)Z" } : Jvm.MethodName)) ∈ ps_T := ps_in (List.mem_of_getElem? (i := 264) (by decide +kernel)) rfl
set_option maxRecDepth 20000 in
theorem wd_224 : (Jvm.Cond.code ({ cls := "PromiseScopes", name := "cancel", desc := "(I)Z" } : Jvm.MethodName) prog_1_method_8_code (3 : Nat) (Option.some Jvm.ClassFile.FieldType.boolean)) ∈ ps_T := ps_in (List.mem_of_getElem? (i := 265) rfl) rfl
theorem wd_225 : (Jvm.Cond.methodLink "PromiseScopesLaw" (88 : Nat) ({ cls := "PromiseScopes", name := "work", desc := "(I)I" } : Jvm.MethodName)) ∈ ps_T := ps_in (List.mem_of_getElem? (i := 266) (by decide +kernel)) rfl
theorem wd_226 : (Jvm.Cond.instanceMethod ({ cls := "PromiseScopes", name := "work", desc := "(I)I" } : Jvm.MethodName)) ∈ ps_T := ps_in (List.mem_of_getElem? (i := 267) (by decide +kernel)) rfl
theorem wd_227 : (Jvm.Cond.selects "PromiseScopes" ({ cls := "PromiseScopes", name := "work", desc := "(I)I" } : Jvm.MethodName) ({ cls := "PromiseScopes", name := "work", desc := "(I)I" } : Jvm.MethodName)) ∈ ps_T := ps_in (List.mem_of_getElem? (i := 268) (by decide +kernel)) rfl
set_option maxRecDepth 20000 in
theorem wd_228 : (Jvm.Cond.code ({ cls := "PromiseScopes", name := "work", desc := "(I)I" } : Jvm.MethodName) prog_1_method_9_code (3 : Nat) (Option.some Jvm.ClassFile.FieldType.int)) ∈ ps_T := ps_in (List.mem_of_getElem? (i := 269) rfl) rfl
theorem wd_229 : (Jvm.Cond.methodLink "PromiseScopes" (84 : Nat) ({ cls := "PromiseScopes", name := "isStepCount", desc := "(I)Z" } : Jvm.MethodName)) ∈ ps_T := ps_in (List.mem_of_getElem? (i := 270) (by decide +kernel)) rfl
theorem wd_230 : (Jvm.Cond.static ({ cls := "PromiseScopes", name := "isStepCount", desc := "(I)Z" } : Jvm.MethodName)) ∈ ps_T := ps_in (List.mem_of_getElem? (i := 271) (by decide +kernel)) rfl
set_option maxRecDepth 20000 in
theorem wd_231 : (Jvm.Cond.code ({ cls := "PromiseScopes", name := "isStepCount", desc := "(I)Z" } : Jvm.MethodName) prog_1_method_22_code (1 : Nat) (Option.some Jvm.ClassFile.FieldType.boolean)) ∈ ps_T := ps_in (List.mem_of_getElem? (i := 272) rfl) rfl
theorem wd_232 : (Jvm.Cond.methodLink "PromiseScopes" (87 : Nat) ({ cls := "PromiseScopes$StageGraph", name := "advancePool", desc := "()Z" } : Jvm.MethodName)) ∈ ps_T := ps_in (List.mem_of_getElem? (i := 273) (by decide +kernel)) rfl
theorem wd_233 : (Jvm.Cond.instanceMethod ({ cls := "PromiseScopes$StageGraph", name := "advancePool", desc := "()Z" } : Jvm.MethodName)) ∈ ps_T := ps_in (List.mem_of_getElem? (i := 274) (by decide +kernel)) rfl
theorem wd_234 : (Jvm.Cond.selects "PromiseScopes$StageGraph" ({ cls := "PromiseScopes$StageGraph", name := "advancePool", desc := "()Z" } : Jvm.MethodName) ({ cls := "PromiseScopes$StageGraph", name := "advancePool", desc := "()Z" } : Jvm.MethodName)) ∈ ps_T := ps_in (List.mem_of_getElem? (i := 275) (by decide +kernel)) rfl
set_option maxRecDepth 20000 in
theorem wd_235 : (Jvm.Cond.code ({ cls := "PromiseScopes$StageGraph", name := "advancePool", desc := "()Z" } : Jvm.MethodName) prog_6_method_17_code (2 : Nat) (Option.some Jvm.ClassFile.FieldType.boolean)) ∈ ps_T := ps_in (List.mem_of_getElem? (i := 276) rfl) rfl
theorem wd_236 : (Jvm.Cond.methodLink "PromiseScopesLaw" (96 : Nat) ({ cls := "PromiseScopes", name := "stage", desc := "(II)I" } : Jvm.MethodName)) ∈ ps_T := ps_in (List.mem_of_getElem? (i := 277) (by decide +kernel)) rfl
theorem wd_237 : (Jvm.Cond.instanceMethod ({ cls := "PromiseScopes", name := "stage", desc := "(II)I" } : Jvm.MethodName)) ∈ ps_T := ps_in (List.mem_of_getElem? (i := 278) (by decide +kernel)) rfl
theorem wd_238 : (Jvm.Cond.selects "PromiseScopes" ({ cls := "PromiseScopes", name := "stage", desc := "(II)I" } : Jvm.MethodName) ({ cls := "PromiseScopes", name := "stage", desc := "(II)I" } : Jvm.MethodName)) ∈ ps_T := ps_in (List.mem_of_getElem? (i := 279) (by decide +kernel)) rfl
set_option maxRecDepth 20000 in
theorem wd_239 : (Jvm.Cond.code ({ cls := "PromiseScopes", name := "stage", desc := "(II)I" } : Jvm.MethodName) prog_1_method_11_code (4 : Nat) (Option.some Jvm.ClassFile.FieldType.int)) ∈ ps_T := ps_in (List.mem_of_getElem? (i := 280) rfl) rfl
theorem wd_240 : (Jvm.Cond.methodLink "PromiseScopes" (90 : Nat) ({ cls := "PromiseScopes$StageGraph", name := "find", desc := "(I)LPromiseScopes$Stage;" } : Jvm.MethodName)) ∈ ps_T := ps_in (List.mem_of_getElem? (i := 281) (by decide +kernel)) rfl
theorem wd_241 : (Jvm.Cond.methodLink "PromiseScopes" (112 : Nat) ({ cls := "PromiseScopes$StageGraph", name := "placeInPool", desc := "(LPromiseScopes$Stage;)I" } : Jvm.MethodName)) ∈ ps_T := ps_in (List.mem_of_getElem? (i := 282) (by decide +kernel)) rfl
theorem wd_242 : (Jvm.Cond.instanceMethod ({ cls := "PromiseScopes$StageGraph", name := "placeInPool", desc := "(LPromiseScopes$Stage;)I" } : Jvm.MethodName)) ∈ ps_T := ps_in (List.mem_of_getElem? (i := 283) (by decide +kernel)) rfl
theorem wd_243 : (Jvm.Cond.selects "PromiseScopes$StageGraph" ({ cls := "PromiseScopes$StageGraph", name := "placeInPool", desc := "(LPromiseScopes$Stage;)I" } : Jvm.MethodName) ({ cls := "PromiseScopes$StageGraph", name := "placeInPool", desc := "(LPromiseScopes$Stage;)I" } : Jvm.MethodName)) ∈ ps_T := ps_in (List.mem_of_getElem? (i := 284) (by decide +kernel)) rfl
set_option maxRecDepth 20000 in
theorem wd_244 : (Jvm.Cond.code ({ cls := "PromiseScopes$StageGraph", name := "placeInPool", desc := "(LPromiseScopes$Stage;)I" } : Jvm.MethodName) prog_6_method_7_code (2 : Nat) (Option.some Jvm.ClassFile.FieldType.int)) ∈ ps_T := ps_in (List.mem_of_getElem? (i := 285) rfl) rfl
theorem wd_245 : (Jvm.Cond.methodLink "PromiseScopes$StageGraph" (37 : Nat) ({ cls := "PromiseScopes$StageQueue", name := "placeOf", desc := "(LPromiseScopes$Stage;)I" } : Jvm.MethodName)) ∈ ps_T := ps_in (List.mem_of_getElem? (i := 286) (by decide +kernel)) rfl
theorem wd_246 : (Jvm.Cond.instanceMethod ({ cls := "PromiseScopes$StageQueue", name := "placeOf", desc := "(LPromiseScopes$Stage;)I" } : Jvm.MethodName)) ∈ ps_T := ps_in (List.mem_of_getElem? (i := 287) (by decide +kernel)) rfl
theorem wd_247 : (Jvm.Cond.selects "PromiseScopes$StageQueue" ({ cls := "PromiseScopes$StageQueue", name := "placeOf", desc := "(LPromiseScopes$Stage;)I" } : Jvm.MethodName) ({ cls := "PromiseScopes$StageQueue", name := "placeOf", desc := "(LPromiseScopes$Stage;)I" } : Jvm.MethodName)) ∈ ps_T := ps_in (List.mem_of_getElem? (i := 288) (by decide +kernel)) rfl
set_option maxRecDepth 20000 in
theorem wd_248 : (Jvm.Cond.code ({ cls := "PromiseScopes$StageQueue", name := "placeOf", desc := "(LPromiseScopes$Stage;)I" } : Jvm.MethodName) prog_7_method_5_code (3 : Nat) (Option.some Jvm.ClassFile.FieldType.int)) ∈ ps_T := ps_in (List.mem_of_getElem? (i := 289) rfl) rfl
theorem wd_249 : (Jvm.Cond.methodLink "PromiseScopesLaw" (100 : Nat) ({ cls := "PromiseScopes", name := "count", desc := "(I)I" } : Jvm.MethodName)) ∈ ps_T := ps_in (List.mem_of_getElem? (i := 290) (by decide +kernel)) rfl
theorem wd_250 : (Jvm.Cond.instanceMethod ({ cls := "PromiseScopes", name := "count", desc := "(I)I" } : Jvm.MethodName)) ∈ ps_T := ps_in (List.mem_of_getElem? (i := 291) (by decide +kernel)) rfl
theorem wd_251 : (Jvm.Cond.selects "PromiseScopes" ({ cls := "PromiseScopes", name := "count", desc := "(I)I" } : Jvm.MethodName) ({ cls := "PromiseScopes", name := "count", desc := "(I)I" } : Jvm.MethodName)) ∈ ps_T := ps_in (List.mem_of_getElem? (i := 292) (by decide +kernel)) rfl
set_option maxRecDepth 20000 in
theorem wd_252 : (Jvm.Cond.code ({ cls := "PromiseScopes", name := "count", desc := "(I)I" } : Jvm.MethodName) prog_1_method_12_code (2 : Nat) (Option.some Jvm.ClassFile.FieldType.int)) ∈ ps_T := ps_in (List.mem_of_getElem? (i := 293) rfl) rfl
theorem wd_253 : (Jvm.Cond.methodLink "PromiseScopes" (119 : Nat) ({ cls := "PromiseScopes$StageGraph", name := "poolSize", desc := "()I" } : Jvm.MethodName)) ∈ ps_T := ps_in (List.mem_of_getElem? (i := 294) (by decide +kernel)) rfl
theorem wd_254 : (Jvm.Cond.instanceMethod ({ cls := "PromiseScopes$StageGraph", name := "poolSize", desc := "()I" } : Jvm.MethodName)) ∈ ps_T := ps_in (List.mem_of_getElem? (i := 295) (by decide +kernel)) rfl
theorem wd_255 : (Jvm.Cond.selects "PromiseScopes$StageGraph" ({ cls := "PromiseScopes$StageGraph", name := "poolSize", desc := "()I" } : Jvm.MethodName) ({ cls := "PromiseScopes$StageGraph", name := "poolSize", desc := "()I" } : Jvm.MethodName)) ∈ ps_T := ps_in (List.mem_of_getElem? (i := 296) (by decide +kernel)) rfl
set_option maxRecDepth 20000 in
theorem wd_256 : (Jvm.Cond.code ({ cls := "PromiseScopes$StageGraph", name := "poolSize", desc := "()I" } : Jvm.MethodName) prog_6_method_6_code (1 : Nat) (Option.some Jvm.ClassFile.FieldType.int)) ∈ ps_T := ps_in (List.mem_of_getElem? (i := 297) rfl) rfl
theorem wd_257 : (Jvm.Cond.methodLink "PromiseScopes$StageGraph" (33 : Nat) ({ cls := "PromiseScopes$StageQueue", name := "length", desc := "()I" } : Jvm.MethodName)) ∈ ps_T := ps_in (List.mem_of_getElem? (i := 298) (by decide +kernel)) rfl
theorem wd_258 : (Jvm.Cond.instanceMethod ({ cls := "PromiseScopes$StageQueue", name := "length", desc := "()I" } : Jvm.MethodName)) ∈ ps_T := ps_in (List.mem_of_getElem? (i := 299) (by decide +kernel)) rfl
theorem wd_259 : (Jvm.Cond.selects "PromiseScopes$StageQueue" ({ cls := "PromiseScopes$StageQueue", name := "length", desc := "()I" } : Jvm.MethodName) ({ cls := "PromiseScopes$StageQueue", name := "length", desc := "()I" } : Jvm.MethodName)) ∈ ps_T := ps_in (List.mem_of_getElem? (i := 300) (by decide +kernel)) rfl
set_option maxRecDepth 20000 in
theorem wd_260 : (Jvm.Cond.code ({ cls := "PromiseScopes$StageQueue", name := "length", desc := "()I" } : Jvm.MethodName) prog_7_method_2_code (1 : Nat) (Option.some Jvm.ClassFile.FieldType.int)) ∈ ps_T := ps_in (List.mem_of_getElem? (i := 301) rfl) rfl
theorem wd_261 : (Jvm.Cond.methodLink "PromiseScopesLaw" (108 : Nat) ({ cls := "PromiseScopes", name := "bind", desc := "(III)Z" } : Jvm.MethodName)) ∈ ps_T := ps_in (List.mem_of_getElem? (i := 302) (by decide +kernel)) rfl
theorem wd_262 : (Jvm.Cond.instanceMethod ({ cls := "PromiseScopes", name := "bind", desc := "(III)Z" } : Jvm.MethodName)) ∈ ps_T := ps_in (List.mem_of_getElem? (i := 303) (by decide +kernel)) rfl
theorem wd_263 : (Jvm.Cond.selects "PromiseScopes" ({ cls := "PromiseScopes", name := "bind", desc := "(III)Z" } : Jvm.MethodName) ({ cls := "PromiseScopes", name := "bind", desc := "(III)Z" } : Jvm.MethodName)) ∈ ps_T := ps_in (List.mem_of_getElem? (i := 304) (by decide +kernel)) rfl
set_option maxRecDepth 20000 in
theorem wd_264 : (Jvm.Cond.code ({ cls := "PromiseScopes", name := "bind", desc := "(III)Z" } : Jvm.MethodName) prog_1_method_14_code (5 : Nat) (Option.some Jvm.ClassFile.FieldType.boolean)) ∈ ps_T := ps_in (List.mem_of_getElem? (i := 305) rfl) rfl
theorem wd_265 : (Jvm.Cond.methodLink "PromiseScopes" (132 : Nat) ({ cls := "PromiseScopes$ScopeTree", name := "findOpen", desc := "(I)LPromiseScopes$Scope;" } : Jvm.MethodName)) ∈ ps_T := ps_in (List.mem_of_getElem? (i := 306) (by decide +kernel)) rfl
theorem wd_266 : (Jvm.Cond.instanceMethod ({ cls := "PromiseScopes$ScopeTree", name := "findOpen", desc := "(I)LPromiseScopes$Scope;" } : Jvm.MethodName)) ∈ ps_T := ps_in (List.mem_of_getElem? (i := 307) (by decide +kernel)) rfl
theorem wd_267 : (Jvm.Cond.selects "PromiseScopes$ScopeTree" ({ cls := "PromiseScopes$ScopeTree", name := "findOpen", desc := "(I)LPromiseScopes$Scope;" } : Jvm.MethodName) ({ cls := "PromiseScopes$ScopeTree", name := "findOpen", desc := "(I)LPromiseScopes$Scope;" } : Jvm.MethodName)) ∈ ps_T := ps_in (List.mem_of_getElem? (i := 308) (by decide +kernel)) rfl
set_option maxRecDepth 20000 in
theorem wd_268 : (Jvm.Cond.code ({ cls := "PromiseScopes$ScopeTree", name := "findOpen", desc := "(I)LPromiseScopes$Scope;" } : Jvm.MethodName) prog_4_method_5_code (3 : Nat) (Option.some (Jvm.ClassFile.FieldType.object "PromiseScopes$Scope"))) ∈ ps_T := ps_in (List.mem_of_getElem? (i := 309) rfl) rfl
theorem wd_269 : (Jvm.Cond.methodLink "PromiseScopes$ScopeTree" (28 : Nat) ({ cls := "PromiseScopes$ScopeTree", name := "find", desc := "(I)LPromiseScopes$Scope;" } : Jvm.MethodName)) ∈ ps_T := ps_in (List.mem_of_getElem? (i := 310) (by decide +kernel)) rfl
theorem wd_270 : (Jvm.Cond.instanceMethod ({ cls := "PromiseScopes$ScopeTree", name := "find", desc := "(I)LPromiseScopes$Scope;" } : Jvm.MethodName)) ∈ ps_T := ps_in (List.mem_of_getElem? (i := 311) (by decide +kernel)) rfl
theorem wd_271 : (Jvm.Cond.selects "PromiseScopes$ScopeTree" ({ cls := "PromiseScopes$ScopeTree", name := "find", desc := "(I)LPromiseScopes$Scope;" } : Jvm.MethodName) ({ cls := "PromiseScopes$ScopeTree", name := "find", desc := "(I)LPromiseScopes$Scope;" } : Jvm.MethodName)) ∈ ps_T := ps_in (List.mem_of_getElem? (i := 312) (by decide +kernel)) rfl
set_option maxRecDepth 20000 in
theorem wd_272 : (Jvm.Cond.code ({ cls := "PromiseScopes$ScopeTree", name := "find", desc := "(I)LPromiseScopes$Scope;" } : Jvm.MethodName) prog_4_method_4_code (2 : Nat) (Option.some (Jvm.ClassFile.FieldType.object "PromiseScopes$Scope"))) ∈ ps_T := ps_in (List.mem_of_getElem? (i := 313) rfl) rfl
theorem wd_273 : (Jvm.Cond.methodLink "PromiseScopes" (151 : Nat) ({ cls := "PromiseScopes$Scope", name := "isKey", desc := "(I)Z" } : Jvm.MethodName)) ∈ ps_T := ps_in (List.mem_of_getElem? (i := 314) (by decide +kernel)) rfl
theorem wd_274 : (Jvm.Cond.static ({ cls := "PromiseScopes$Scope", name := "isKey", desc := "(I)Z" } : Jvm.MethodName)) ∈ ps_T := ps_in (List.mem_of_getElem? (i := 315) (by decide +kernel)) rfl
set_option maxRecDepth 20000 in
theorem wd_275 : (Jvm.Cond.code ({ cls := "PromiseScopes$Scope", name := "isKey", desc := "(I)Z" } : Jvm.MethodName) prog_3_method_2_code (1 : Nat) (Option.some Jvm.ClassFile.FieldType.boolean)) ∈ ps_T := ps_in (List.mem_of_getElem? (i := 316) rfl) rfl
theorem wd_276 : (Jvm.Cond.methodLink "PromiseScopes" (154 : Nat) ({ cls := "PromiseScopes$Scope", name := "keep", desc := "(II)V" } : Jvm.MethodName)) ∈ ps_T := ps_in (List.mem_of_getElem? (i := 317) (by decide +kernel)) rfl
theorem wd_277 : (Jvm.Cond.instanceMethod ({ cls := "PromiseScopes$Scope", name := "keep", desc := "(II)V" } : Jvm.MethodName)) ∈ ps_T := ps_in (List.mem_of_getElem? (i := 318) (by decide +kernel)) rfl
theorem wd_278 : (Jvm.Cond.selects "PromiseScopes$Scope" ({ cls := "PromiseScopes$Scope", name := "keep", desc := "(II)V" } : Jvm.MethodName) ({ cls := "PromiseScopes$Scope", name := "keep", desc := "(II)V" } : Jvm.MethodName)) ∈ ps_T := ps_in (List.mem_of_getElem? (i := 319) (by decide +kernel)) rfl
set_option maxRecDepth 20000 in
theorem wd_279 : (Jvm.Cond.code ({ cls := "PromiseScopes$Scope", name := "keep", desc := "(II)V" } : Jvm.MethodName) prog_3_method_4_code (3 : Nat) (Option.none : Option Jvm.ClassFile.FieldType)) ∈ ps_T := ps_in (List.mem_of_getElem? (i := 320) rfl) rfl
theorem wd_280 : (Jvm.Cond.methodLink "PromiseScopesLaw" (117 : Nat) ({ cls := "PromiseScopes", name := "joinScope", desc := "(I)Z" } : Jvm.MethodName)) ∈ ps_T := ps_in (List.mem_of_getElem? (i := 321) (by decide +kernel)) rfl
theorem wd_281 : (Jvm.Cond.instanceMethod ({ cls := "PromiseScopes", name := "joinScope", desc := "(I)Z" } : Jvm.MethodName)) ∈ ps_T := ps_in (List.mem_of_getElem? (i := 322) (by decide +kernel)) rfl
theorem wd_282 : (Jvm.Cond.selects "PromiseScopes" ({ cls := "PromiseScopes", name := "joinScope", desc := "(I)Z" } : Jvm.MethodName) ({ cls := "PromiseScopes", name := "joinScope", desc := "(I)Z" } : Jvm.MethodName)) ∈ ps_T := ps_in (List.mem_of_getElem? (i := 323) (by decide +kernel)) rfl
set_option maxRecDepth 20000 in
theorem wd_283 : (Jvm.Cond.code ({ cls := "PromiseScopes", name := "joinScope", desc := "(I)Z" } : Jvm.MethodName) prog_1_method_16_code (3 : Nat) (Option.some Jvm.ClassFile.FieldType.boolean)) ∈ ps_T := ps_in (List.mem_of_getElem? (i := 324) rfl) rfl
theorem wd_284 : (Jvm.Cond.methodLink "PromiseScopes" (174 : Nat) ({ cls := "PromiseScopes$ScopeTree", name := "hasOpenBelow", desc := "(LPromiseScopes$Scope;)Z" } : Jvm.MethodName)) ∈ ps_T := ps_in (List.mem_of_getElem? (i := 325) (by decide +kernel)) rfl
theorem wd_285 : (Jvm.Cond.instanceMethod ({ cls := "PromiseScopes$ScopeTree", name := "hasOpenBelow", desc := "(LPromiseScopes$Scope;)Z" } : Jvm.MethodName)) ∈ ps_T := ps_in (List.mem_of_getElem? (i := 326) (by decide +kernel)) rfl
theorem wd_286 : (Jvm.Cond.selects "PromiseScopes$ScopeTree" ({ cls := "PromiseScopes$ScopeTree", name := "hasOpenBelow", desc := "(LPromiseScopes$Scope;)Z" } : Jvm.MethodName) ({ cls := "PromiseScopes$ScopeTree", name := "hasOpenBelow", desc := "(LPromiseScopes$Scope;)Z" } : Jvm.MethodName)) ∈ ps_T := ps_in (List.mem_of_getElem? (i := 327) (by decide +kernel)) rfl
set_option maxRecDepth 20000 in
theorem wd_287 : (Jvm.Cond.code ({ cls := "PromiseScopes$ScopeTree", name := "hasOpenBelow", desc := "(LPromiseScopes$Scope;)Z" } : Jvm.MethodName) prog_4_method_10_code (3 : Nat) (Option.some Jvm.ClassFile.FieldType.boolean)) ∈ ps_T := ps_in (List.mem_of_getElem? (i := 328) rfl) rfl
theorem wd_288 : (Jvm.Cond.methodLink "PromiseScopes$ScopeTree" (54 : Nat) ({ cls := "PromiseScopes$Scope", name := "isBelow", desc := "(LPromiseScopes$Scope;)Z" } : Jvm.MethodName)) ∈ ps_T := ps_in (List.mem_of_getElem? (i := 329) (by decide +kernel)) rfl
theorem wd_289 : (Jvm.Cond.instanceMethod ({ cls := "PromiseScopes$Scope", name := "isBelow", desc := "(LPromiseScopes$Scope;)Z" } : Jvm.MethodName)) ∈ ps_T := ps_in (List.mem_of_getElem? (i := 330) (by decide +kernel)) rfl
theorem wd_290 : (Jvm.Cond.selects "PromiseScopes$Scope" ({ cls := "PromiseScopes$Scope", name := "isBelow", desc := "(LPromiseScopes$Scope;)Z" } : Jvm.MethodName) ({ cls := "PromiseScopes$Scope", name := "isBelow", desc := "(LPromiseScopes$Scope;)Z" } : Jvm.MethodName)) ∈ ps_T := ps_in (List.mem_of_getElem? (i := 331) (by decide +kernel)) rfl
set_option maxRecDepth 20000 in
theorem wd_291 : (Jvm.Cond.code ({ cls := "PromiseScopes$Scope", name := "isBelow", desc := "(LPromiseScopes$Scope;)Z" } : Jvm.MethodName) prog_3_method_6_code (3 : Nat) (Option.some Jvm.ClassFile.FieldType.boolean)) ∈ ps_T := ps_in (List.mem_of_getElem? (i := 332) rfl) rfl
theorem wd_292 : (Jvm.Cond.methodLink "PromiseScopes" (179 : Nat) ({ cls := "PromiseScopes$ScopeTree", name := "closeAllThatCan", desc := "(LPromiseScopes$StageGraph;)V" } : Jvm.MethodName)) ∈ ps_T := ps_in (List.mem_of_getElem? (i := 333) (by decide +kernel)) rfl
theorem wd_293 : (Jvm.Cond.instanceMethod ({ cls := "PromiseScopes$ScopeTree", name := "closeAllThatCan", desc := "(LPromiseScopes$StageGraph;)V" } : Jvm.MethodName)) ∈ ps_T := ps_in (List.mem_of_getElem? (i := 334) (by decide +kernel)) rfl
theorem wd_294 : (Jvm.Cond.selects "PromiseScopes$ScopeTree" ({ cls := "PromiseScopes$ScopeTree", name := "closeAllThatCan", desc := "(LPromiseScopes$StageGraph;)V" } : Jvm.MethodName) ({ cls := "PromiseScopes$ScopeTree", name := "closeAllThatCan", desc := "(LPromiseScopes$StageGraph;)V" } : Jvm.MethodName)) ∈ ps_T := ps_in (List.mem_of_getElem? (i := 335) (by decide +kernel)) rfl
set_option maxRecDepth 20000 in
theorem wd_295 : (Jvm.Cond.code ({ cls := "PromiseScopes$ScopeTree", name := "closeAllThatCan", desc := "(LPromiseScopes$StageGraph;)V" } : Jvm.MethodName) prog_4_method_17_code (4 : Nat) (Option.none : Option Jvm.ClassFile.FieldType)) ∈ ps_T := ps_in (List.mem_of_getElem? (i := 336) rfl) rfl
theorem wd_296 : (Jvm.Cond.methodLink "PromiseScopes$ScopeTree" (99 : Nat) ({ cls := "PromiseScopes$ScopeTree", name := "countTasks", desc := "(LPromiseScopes$Scope;I)I" } : Jvm.MethodName)) ∈ ps_T := ps_in (List.mem_of_getElem? (i := 337) (by decide +kernel)) rfl
theorem wd_297 : (Jvm.Cond.instanceMethod ({ cls := "PromiseScopes$ScopeTree", name := "countTasks", desc := "(LPromiseScopes$Scope;I)I" } : Jvm.MethodName)) ∈ ps_T := ps_in (List.mem_of_getElem? (i := 338) (by decide +kernel)) rfl
theorem wd_298 : (Jvm.Cond.selects "PromiseScopes$ScopeTree" ({ cls := "PromiseScopes$ScopeTree", name := "countTasks", desc := "(LPromiseScopes$Scope;I)I" } : Jvm.MethodName) ({ cls := "PromiseScopes$ScopeTree", name := "countTasks", desc := "(LPromiseScopes$Scope;I)I" } : Jvm.MethodName)) ∈ ps_T := ps_in (List.mem_of_getElem? (i := 339) (by decide +kernel)) rfl
set_option maxRecDepth 20000 in
theorem wd_299 : (Jvm.Cond.code ({ cls := "PromiseScopes$ScopeTree", name := "countTasks", desc := "(LPromiseScopes$Scope;I)I" } : Jvm.MethodName) prog_4_method_9_code (5 : Nat) (Option.some Jvm.ClassFile.FieldType.int)) ∈ ps_T := ps_in (List.mem_of_getElem? (i := 340) rfl) rfl
theorem wd_300 : (Jvm.Cond.methodLink "PromiseScopes$ScopeTree" (102 : Nat) ({ cls := "PromiseScopes$ScopeTree", name := "hasUnclosedBelow", desc := "(LPromiseScopes$Scope;)Z" } : Jvm.MethodName)) ∈ ps_T := ps_in (List.mem_of_getElem? (i := 341) (by decide +kernel)) rfl
theorem wd_302 : (Jvm.Cond.instanceMethod ({ cls := "PromiseScopes$ScopeTree", name := "hasUnclosedBelow", desc := "(LPromiseScopes$Scope;)Z" } : Jvm.MethodName)) ∈ ps_T := ps_in (List.mem_of_getElem? (i := 343) (by decide +kernel)) rfl
set_option maxRecDepth 20000 in
theorem wd_303 : (Jvm.Cond.code ({ cls := "PromiseScopes$ScopeTree", name := "hasUnclosedBelow", desc := "(LPromiseScopes$Scope;)Z" } : Jvm.MethodName) prog_4_method_11_code (3 : Nat) (Option.some Jvm.ClassFile.FieldType.boolean)) ∈ ps_T := ps_in (List.mem_of_getElem? (i := 344) rfl) rfl
theorem wd_304 : (Jvm.Cond.methodLink "PromiseScopes$ScopeTree" (105 : Nat) ({ cls := "PromiseScopes$ScopeTree", name := "giveResult", desc := "(LPromiseScopes$Scope;LPromiseScopes$StageGraph;)V" } : Jvm.MethodName)) ∈ ps_T := ps_in (List.mem_of_getElem? (i := 345) (by decide +kernel)) rfl
theorem wd_306 : (Jvm.Cond.instanceMethod ({ cls := "PromiseScopes$ScopeTree", name := "giveResult", desc := "(LPromiseScopes$Scope;LPromiseScopes$StageGraph;)V" } : Jvm.MethodName)) ∈ ps_T := ps_in (List.mem_of_getElem? (i := 347) (by decide +kernel)) rfl
set_option maxRecDepth 20000 in
theorem wd_307 : (Jvm.Cond.code ({ cls := "PromiseScopes$ScopeTree", name := "giveResult", desc := "(LPromiseScopes$Scope;LPromiseScopes$StageGraph;)V" } : Jvm.MethodName) prog_4_method_18_code (4 : Nat) (Option.none : Option Jvm.ClassFile.FieldType)) ∈ ps_T := ps_in (List.mem_of_getElem? (i := 348) rfl) rfl
theorem wd_308 : (Jvm.Cond.methodLink "PromiseScopes$ScopeTree" (116 : Nat) ({ cls := "PromiseScopes$StageGraph", name := "settle", desc := "(LPromiseScopes$Stage;II)V" } : Jvm.MethodName)) ∈ ps_T := ps_in (List.mem_of_getElem? (i := 349) (by decide +kernel)) rfl
theorem wd_309 : (Jvm.Cond.methodLink "PromiseScopes$ScopeTree" (122 : Nat) ({ cls := "PromiseScopes$ScopeTree", name := "succeeded", desc := "(LPromiseScopes$Scope;)Z" } : Jvm.MethodName)) ∈ ps_T := ps_in (List.mem_of_getElem? (i := 350) (by decide +kernel)) rfl
theorem wd_311 : (Jvm.Cond.instanceMethod ({ cls := "PromiseScopes$ScopeTree", name := "succeeded", desc := "(LPromiseScopes$Scope;)Z" } : Jvm.MethodName)) ∈ ps_T := ps_in (List.mem_of_getElem? (i := 352) (by decide +kernel)) rfl
set_option maxRecDepth 20000 in
theorem wd_312 : (Jvm.Cond.code ({ cls := "PromiseScopes$ScopeTree", name := "succeeded", desc := "(LPromiseScopes$Scope;)Z" } : Jvm.MethodName) prog_4_method_19_code (2 : Nat) (Option.some Jvm.ClassFile.FieldType.boolean)) ∈ ps_T := ps_in (List.mem_of_getElem? (i := 353) rfl) rfl
theorem wd_313 : (Jvm.Cond.methodLink "PromiseScopes$ScopeTree" (125 : Nat) ({ cls := "PromiseScopes$ScopeTree", name := "valueOf", desc := "(LPromiseScopes$Scope;)I" } : Jvm.MethodName)) ∈ ps_T := ps_in (List.mem_of_getElem? (i := 354) (by decide +kernel)) rfl
theorem wd_315 : (Jvm.Cond.instanceMethod ({ cls := "PromiseScopes$ScopeTree", name := "valueOf", desc := "(LPromiseScopes$Scope;)I" } : Jvm.MethodName)) ∈ ps_T := ps_in (List.mem_of_getElem? (i := 356) (by decide +kernel)) rfl
set_option maxRecDepth 20000 in
theorem wd_316 : (Jvm.Cond.code ({ cls := "PromiseScopes$ScopeTree", name := "valueOf", desc := "(LPromiseScopes$Scope;)I" } : Jvm.MethodName) prog_4_method_20_code (4 : Nat) (Option.some Jvm.ClassFile.FieldType.int)) ∈ ps_T := ps_in (List.mem_of_getElem? (i := 357) rfl) rfl
theorem wd_317 : (Jvm.Cond.methodLink "PromiseScopes$ScopeTree" (129 : Nat) ({ cls := "PromiseScopes$ScopeTree", name := "firstEnded", desc := "(LPromiseScopes$Scope;I)LPromiseScopes$Task;" } : Jvm.MethodName)) ∈ ps_T := ps_in (List.mem_of_getElem? (i := 358) (by decide +kernel)) rfl
theorem wd_319 : (Jvm.Cond.instanceMethod ({ cls := "PromiseScopes$ScopeTree", name := "firstEnded", desc := "(LPromiseScopes$Scope;I)LPromiseScopes$Task;" } : Jvm.MethodName)) ∈ ps_T := ps_in (List.mem_of_getElem? (i := 360) (by decide +kernel)) rfl
set_option maxRecDepth 20000 in
theorem wd_320 : (Jvm.Cond.code ({ cls := "PromiseScopes$ScopeTree", name := "firstEnded", desc := "(LPromiseScopes$Scope;I)LPromiseScopes$Task;" } : Jvm.MethodName) prog_4_method_21_code (6 : Nat) (Option.some (Jvm.ClassFile.FieldType.object "PromiseScopes$Task"))) ∈ ps_T := ps_in (List.mem_of_getElem? (i := 361) rfl) rfl
theorem wd_321 : (Jvm.Cond.methodLink "PromiseScopesLaw" (121 : Nat) ({ cls := "PromiseScopes", name := "cancelScope", desc := "(I)Z" } : Jvm.MethodName)) ∈ ps_T := ps_in (List.mem_of_getElem? (i := 362) (by decide +kernel)) rfl
theorem wd_322 : (Jvm.Cond.instanceMethod ({ cls := "PromiseScopes", name := "cancelScope", desc := "(I)Z" } : Jvm.MethodName)) ∈ ps_T := ps_in (List.mem_of_getElem? (i := 363) (by decide +kernel)) rfl
theorem wd_323 : (Jvm.Cond.selects "PromiseScopes" ({ cls := "PromiseScopes", name := "cancelScope", desc := "(I)Z" } : Jvm.MethodName) ({ cls := "PromiseScopes", name := "cancelScope", desc := "(I)Z" } : Jvm.MethodName)) ∈ ps_T := ps_in (List.mem_of_getElem? (i := 364) (by decide +kernel)) rfl
set_option maxRecDepth 20000 in
theorem wd_324 : (Jvm.Cond.code ({ cls := "PromiseScopes", name := "cancelScope", desc := "(I)Z" } : Jvm.MethodName) prog_1_method_17_code (3 : Nat) (Option.some Jvm.ClassFile.FieldType.boolean)) ∈ ps_T := ps_in (List.mem_of_getElem? (i := 365) rfl) rfl
theorem wd_325 : (Jvm.Cond.methodLink "PromiseScopes" (145 : Nat) ({ cls := "PromiseScopes$ScopeTree", name := "find", desc := "(I)LPromiseScopes$Scope;" } : Jvm.MethodName)) ∈ ps_T := ps_in (List.mem_of_getElem? (i := 366) (by decide +kernel)) rfl
theorem wd_326 : (Jvm.Cond.methodLink "PromiseScopes" (183 : Nat) ({ cls := "PromiseScopes$ScopeTree", name := "stop", desc := "(LPromiseScopes$Scope;)V" } : Jvm.MethodName)) ∈ ps_T := ps_in (List.mem_of_getElem? (i := 367) (by decide +kernel)) rfl
theorem wd_327 : (Jvm.Cond.instanceMethod ({ cls := "PromiseScopes$ScopeTree", name := "stop", desc := "(LPromiseScopes$Scope;)V" } : Jvm.MethodName)) ∈ ps_T := ps_in (List.mem_of_getElem? (i := 368) (by decide +kernel)) rfl
theorem wd_328 : (Jvm.Cond.selects "PromiseScopes$ScopeTree" ({ cls := "PromiseScopes$ScopeTree", name := "stop", desc := "(LPromiseScopes$Scope;)V" } : Jvm.MethodName) ({ cls := "PromiseScopes$ScopeTree", name := "stop", desc := "(LPromiseScopes$Scope;)V" } : Jvm.MethodName)) ∈ ps_T := ps_in (List.mem_of_getElem? (i := 369) (by decide +kernel)) rfl
set_option maxRecDepth 20000 in
theorem wd_329 : (Jvm.Cond.code ({ cls := "PromiseScopes$ScopeTree", name := "stop", desc := "(LPromiseScopes$Scope;)V" } : Jvm.MethodName) prog_4_method_12_code (4 : Nat) (Option.none : Option Jvm.ClassFile.FieldType)) ∈ ps_T := ps_in (List.mem_of_getElem? (i := 370) rfl) rfl
theorem wd_330 : (Jvm.Cond.methodLink "PromiseScopes$ScopeTree" (62 : Nat) ({ cls := "PromiseScopes$ScopeTree", name := "cancelTasks", desc := "(LPromiseScopes$Scope;)V" } : Jvm.MethodName)) ∈ ps_T := ps_in (List.mem_of_getElem? (i := 371) (by decide +kernel)) rfl
theorem wd_332 : (Jvm.Cond.instanceMethod ({ cls := "PromiseScopes$ScopeTree", name := "cancelTasks", desc := "(LPromiseScopes$Scope;)V" } : Jvm.MethodName)) ∈ ps_T := ps_in (List.mem_of_getElem? (i := 373) (by decide +kernel)) rfl
set_option maxRecDepth 20000 in
theorem wd_333 : (Jvm.Cond.code ({ cls := "PromiseScopes$ScopeTree", name := "cancelTasks", desc := "(LPromiseScopes$Scope;)V" } : Jvm.MethodName) prog_4_method_13_code (3 : Nat) (Option.none : Option Jvm.ClassFile.FieldType)) ∈ ps_T := ps_in (List.mem_of_getElem? (i := 374) rfl) rfl
theorem wd_334 : (Jvm.Cond.methodLink "PromiseScopesLaw" (125 : Nat) ({ cls := "PromiseScopes", name := "tick", desc := "(I)I" } : Jvm.MethodName)) ∈ ps_T := ps_in (List.mem_of_getElem? (i := 375) (by decide +kernel)) rfl
theorem wd_335 : (Jvm.Cond.instanceMethod ({ cls := "PromiseScopes", name := "tick", desc := "(I)I" } : Jvm.MethodName)) ∈ ps_T := ps_in (List.mem_of_getElem? (i := 376) (by decide +kernel)) rfl
theorem wd_336 : (Jvm.Cond.selects "PromiseScopes" ({ cls := "PromiseScopes", name := "tick", desc := "(I)I" } : Jvm.MethodName) ({ cls := "PromiseScopes", name := "tick", desc := "(I)I" } : Jvm.MethodName)) ∈ ps_T := ps_in (List.mem_of_getElem? (i := 377) (by decide +kernel)) rfl
set_option maxRecDepth 20000 in
theorem wd_337 : (Jvm.Cond.code ({ cls := "PromiseScopes", name := "tick", desc := "(I)I" } : Jvm.MethodName) prog_1_method_18_code (4 : Nat) (Option.some Jvm.ClassFile.FieldType.int)) ∈ ps_T := ps_in (List.mem_of_getElem? (i := 378) rfl) rfl
theorem wd_338 : (Jvm.Cond.methodLink "PromiseScopes" (187 : Nat) ({ cls := "PromiseScopes$ScopeTree", name := "passOneTick", desc := "()I" } : Jvm.MethodName)) ∈ ps_T := ps_in (List.mem_of_getElem? (i := 379) (by decide +kernel)) rfl
theorem wd_339 : (Jvm.Cond.instanceMethod ({ cls := "PromiseScopes$ScopeTree", name := "passOneTick", desc := "()I" } : Jvm.MethodName)) ∈ ps_T := ps_in (List.mem_of_getElem? (i := 380) (by decide +kernel)) rfl
theorem wd_340 : (Jvm.Cond.selects "PromiseScopes$ScopeTree" ({ cls := "PromiseScopes$ScopeTree", name := "passOneTick", desc := "()I" } : Jvm.MethodName) ({ cls := "PromiseScopes$ScopeTree", name := "passOneTick", desc := "()I" } : Jvm.MethodName)) ∈ ps_T := ps_in (List.mem_of_getElem? (i := 381) (by decide +kernel)) rfl
set_option maxRecDepth 20000 in
theorem wd_341 : (Jvm.Cond.code ({ cls := "PromiseScopes$ScopeTree", name := "passOneTick", desc := "()I" } : Jvm.MethodName) prog_4_method_14_code (3 : Nat) (Option.some Jvm.ClassFile.FieldType.int)) ∈ ps_T := ps_in (List.mem_of_getElem? (i := 382) rfl) rfl
theorem wd_342 : (Jvm.Cond.methodLink "PromiseScopes$ScopeTree" (69 : Nat) ({ cls := "PromiseScopes$ScopeTree", name := "stopLateScopes", desc := "()V" } : Jvm.MethodName)) ∈ ps_T := ps_in (List.mem_of_getElem? (i := 383) (by decide +kernel)) rfl
theorem wd_344 : (Jvm.Cond.instanceMethod ({ cls := "PromiseScopes$ScopeTree", name := "stopLateScopes", desc := "()V" } : Jvm.MethodName)) ∈ ps_T := ps_in (List.mem_of_getElem? (i := 385) (by decide +kernel)) rfl
set_option maxRecDepth 20000 in
theorem wd_345 : (Jvm.Cond.code ({ cls := "PromiseScopes$ScopeTree", name := "stopLateScopes", desc := "()V" } : Jvm.MethodName) prog_4_method_15_code (3 : Nat) (Option.none : Option Jvm.ClassFile.FieldType)) ∈ ps_T := ps_in (List.mem_of_getElem? (i := 386) rfl) rfl
theorem wd_346 : (Jvm.Cond.methodLink "PromiseScopes$ScopeTree" (79 : Nat) ({ cls := "PromiseScopes$Scope", name := "isPastDeadline", desc := "(I)Z" } : Jvm.MethodName)) ∈ ps_T := ps_in (List.mem_of_getElem? (i := 387) (by decide +kernel)) rfl
theorem wd_347 : (Jvm.Cond.instanceMethod ({ cls := "PromiseScopes$Scope", name := "isPastDeadline", desc := "(I)Z" } : Jvm.MethodName)) ∈ ps_T := ps_in (List.mem_of_getElem? (i := 388) (by decide +kernel)) rfl
theorem wd_348 : (Jvm.Cond.selects "PromiseScopes$Scope" ({ cls := "PromiseScopes$Scope", name := "isPastDeadline", desc := "(I)Z" } : Jvm.MethodName) ({ cls := "PromiseScopes$Scope", name := "isPastDeadline", desc := "(I)Z" } : Jvm.MethodName)) ∈ ps_T := ps_in (List.mem_of_getElem? (i := 389) (by decide +kernel)) rfl
set_option maxRecDepth 20000 in
theorem wd_349 : (Jvm.Cond.code ({ cls := "PromiseScopes$Scope", name := "isPastDeadline", desc := "(I)Z" } : Jvm.MethodName) prog_3_method_7_code (2 : Nat) (Option.some Jvm.ClassFile.FieldType.boolean)) ∈ ps_T := ps_in (List.mem_of_getElem? (i := 390) rfl) rfl
theorem wd_350 : (Jvm.Cond.methodLink "PromiseScopes$ScopeTree" (86 : Nat) ({ cls := "PromiseScopes$ScopeTree", name := "stop", desc := "(LPromiseScopes$Scope;)V" } : Jvm.MethodName)) ∈ ps_T := ps_in (List.mem_of_getElem? (i := 391) (by decide +kernel)) rfl
theorem wd_351 : (Jvm.Cond.methodLink "PromiseScopes$ScopeTree" (72 : Nat) ({ cls := "PromiseScopes$Task", name := "workOnce", desc := "()V" } : Jvm.MethodName)) ∈ ps_T := ps_in (List.mem_of_getElem? (i := 392) (by decide +kernel)) rfl
theorem wd_352 : (Jvm.Cond.instanceMethod ({ cls := "PromiseScopes$Task", name := "workOnce", desc := "()V" } : Jvm.MethodName)) ∈ ps_T := ps_in (List.mem_of_getElem? (i := 393) (by decide +kernel)) rfl
theorem wd_353 : (Jvm.Cond.selects "PromiseScopes$Task" ({ cls := "PromiseScopes$Task", name := "workOnce", desc := "()V" } : Jvm.MethodName) ({ cls := "PromiseScopes$Task", name := "workOnce", desc := "()V" } : Jvm.MethodName)) ∈ ps_T := ps_in (List.mem_of_getElem? (i := 394) (by decide +kernel)) rfl
set_option maxRecDepth 20000 in
theorem wd_354 : (Jvm.Cond.code ({ cls := "PromiseScopes$Task", name := "workOnce", desc := "()V" } : Jvm.MethodName) prog_8_method_3_code (2 : Nat) (Option.none : Option Jvm.ClassFile.FieldType)) ∈ ps_T := ps_in (List.mem_of_getElem? (i := 395) rfl) rfl
theorem wd_355 : (Jvm.Cond.methodLink "PromiseScopes$Task" (38 : Nat) ({ cls := "PromiseScopes$Functions", name := "thrownFor", desc := "(III)I" } : Jvm.MethodName)) ∈ ps_T := ps_in (List.mem_of_getElem? (i := 396) (by decide +kernel)) rfl
theorem wd_356 : (Jvm.Cond.methodLink "PromiseScopes$Task" (44 : Nat) ({ cls := "PromiseScopes$Functions", name := "madeOf", desc := "(III)I" } : Jvm.MethodName)) ∈ ps_T := ps_in (List.mem_of_getElem? (i := 397) (by decide +kernel)) rfl
theorem wd_357 : (Jvm.Cond.methodLink "PromiseScopes$ScopeTree" (75 : Nat) ({ cls := "PromiseScopes$ScopeTree", name := "noteEnd", desc := "(LPromiseScopes$Task;)V" } : Jvm.MethodName)) ∈ ps_T := ps_in (List.mem_of_getElem? (i := 398) (by decide +kernel)) rfl
theorem wd_359 : (Jvm.Cond.instanceMethod ({ cls := "PromiseScopes$ScopeTree", name := "noteEnd", desc := "(LPromiseScopes$Task;)V" } : Jvm.MethodName)) ∈ ps_T := ps_in (List.mem_of_getElem? (i := 400) (by decide +kernel)) rfl
set_option maxRecDepth 20000 in
theorem wd_360 : (Jvm.Cond.code ({ cls := "PromiseScopes$ScopeTree", name := "noteEnd", desc := "(LPromiseScopes$Task;)V" } : Jvm.MethodName) prog_4_method_16_code (2 : Nat) (Option.none : Option Jvm.ClassFile.FieldType)) ∈ ps_T := ps_in (List.mem_of_getElem? (i := 401) rfl) rfl
theorem wd_361 : (Jvm.Cond.methodLink "PromiseScopes$ScopeTree" (95 : Nat) ({ cls := "PromiseScopes$Scope", name := "isStoppedBy", desc := "(LPromiseScopes$Task;)Z" } : Jvm.MethodName)) ∈ ps_T := ps_in (List.mem_of_getElem? (i := 402) (by decide +kernel)) rfl
theorem wd_362 : (Jvm.Cond.instanceMethod ({ cls := "PromiseScopes$Scope", name := "isStoppedBy", desc := "(LPromiseScopes$Task;)Z" } : Jvm.MethodName)) ∈ ps_T := ps_in (List.mem_of_getElem? (i := 403) (by decide +kernel)) rfl
theorem wd_363 : (Jvm.Cond.selects "PromiseScopes$Scope" ({ cls := "PromiseScopes$Scope", name := "isStoppedBy", desc := "(LPromiseScopes$Task;)Z" } : Jvm.MethodName) ({ cls := "PromiseScopes$Scope", name := "isStoppedBy", desc := "(LPromiseScopes$Task;)Z" } : Jvm.MethodName)) ∈ ps_T := ps_in (List.mem_of_getElem? (i := 404) (by decide +kernel)) rfl
set_option maxRecDepth 20000 in
theorem wd_364 : (Jvm.Cond.code ({ cls := "PromiseScopes$Scope", name := "isStoppedBy", desc := "(LPromiseScopes$Task;)Z" } : Jvm.MethodName) prog_3_method_8_code (2 : Nat) (Option.some Jvm.ClassFile.FieldType.boolean)) ∈ ps_T := ps_in (List.mem_of_getElem? (i := 405) rfl) rfl
theorem wd_365 : (Jvm.Cond.methodLink "PromiseScopesLaw" (129 : Nat) ({ cls := "PromiseScopes", name := "scope", desc := "(II)I" } : Jvm.MethodName)) ∈ ps_T := ps_in (List.mem_of_getElem? (i := 406) (by decide +kernel)) rfl
theorem wd_366 : (Jvm.Cond.instanceMethod ({ cls := "PromiseScopes", name := "scope", desc := "(II)I" } : Jvm.MethodName)) ∈ ps_T := ps_in (List.mem_of_getElem? (i := 407) (by decide +kernel)) rfl
theorem wd_367 : (Jvm.Cond.selects "PromiseScopes" ({ cls := "PromiseScopes", name := "scope", desc := "(II)I" } : Jvm.MethodName) ({ cls := "PromiseScopes", name := "scope", desc := "(II)I" } : Jvm.MethodName)) ∈ ps_T := ps_in (List.mem_of_getElem? (i := 408) (by decide +kernel)) rfl
set_option maxRecDepth 20000 in
theorem wd_368 : (Jvm.Cond.code ({ cls := "PromiseScopes", name := "scope", desc := "(II)I" } : Jvm.MethodName) prog_1_method_19_code (4 : Nat) (Option.some Jvm.ClassFile.FieldType.int)) ∈ ps_T := ps_in (List.mem_of_getElem? (i := 409) rfl) rfl
theorem wd_369 : (Jvm.Cond.methodLink "PromiseScopes" (197 : Nat) ({ cls := "PromiseScopes$ScopeTree", name := "countTasks", desc := "(LPromiseScopes$Scope;I)I" } : Jvm.MethodName)) ∈ ps_T := ps_in (List.mem_of_getElem? (i := 410) (by decide +kernel)) rfl
theorem wd_370 : (Jvm.Cond.methodLink "PromiseScopesLaw" (137 : Nat) ({ cls := "PromiseScopes", name := "task", desc := "(II)I" } : Jvm.MethodName)) ∈ ps_T := ps_in (List.mem_of_getElem? (i := 411) (by decide +kernel)) rfl
theorem wd_371 : (Jvm.Cond.instanceMethod ({ cls := "PromiseScopes", name := "task", desc := "(II)I" } : Jvm.MethodName)) ∈ ps_T := ps_in (List.mem_of_getElem? (i := 412) (by decide +kernel)) rfl
theorem wd_372 : (Jvm.Cond.selects "PromiseScopes" ({ cls := "PromiseScopes", name := "task", desc := "(II)I" } : Jvm.MethodName) ({ cls := "PromiseScopes", name := "task", desc := "(II)I" } : Jvm.MethodName)) ∈ ps_T := ps_in (List.mem_of_getElem? (i := 413) (by decide +kernel)) rfl
set_option maxRecDepth 20000 in
theorem wd_373 : (Jvm.Cond.code ({ cls := "PromiseScopes", name := "task", desc := "(II)I" } : Jvm.MethodName) prog_1_method_21_code (4 : Nat) (Option.some Jvm.ClassFile.FieldType.int)) ∈ ps_T := ps_in (List.mem_of_getElem? (i := 414) rfl) rfl
theorem wd_374 : (Jvm.Cond.methodLink "PromiseScopes" (214 : Nat) ({ cls := "PromiseScopes$ScopeTree", name := "findTask", desc := "(I)LPromiseScopes$Task;" } : Jvm.MethodName)) ∈ ps_T := ps_in (List.mem_of_getElem? (i := 415) (by decide +kernel)) rfl
theorem wd_375 : (Jvm.Cond.instanceMethod ({ cls := "PromiseScopes$ScopeTree", name := "findTask", desc := "(I)LPromiseScopes$Task;" } : Jvm.MethodName)) ∈ ps_T := ps_in (List.mem_of_getElem? (i := 416) (by decide +kernel)) rfl
theorem wd_376 : (Jvm.Cond.selects "PromiseScopes$ScopeTree" ({ cls := "PromiseScopes$ScopeTree", name := "findTask", desc := "(I)LPromiseScopes$Task;" } : Jvm.MethodName) ({ cls := "PromiseScopes$ScopeTree", name := "findTask", desc := "(I)LPromiseScopes$Task;" } : Jvm.MethodName)) ∈ ps_T := ps_in (List.mem_of_getElem? (i := 417) (by decide +kernel)) rfl
set_option maxRecDepth 20000 in
theorem wd_377 : (Jvm.Cond.code ({ cls := "PromiseScopes$ScopeTree", name := "findTask", desc := "(I)LPromiseScopes$Task;" } : Jvm.MethodName) prog_4_method_6_code (2 : Nat) (Option.some (Jvm.ClassFile.FieldType.object "PromiseScopes$Task"))) ∈ ps_T := ps_in (List.mem_of_getElem? (i := 418) rfl) rfl
theorem wd_378 : (Jvm.Cond.methodLink "PromiseScopesLaw" (51 : Nat) ({ cls := "PromiseScopesLaw", name := "source", desc := "(LPromiseScopes;[J)I" } : Jvm.MethodName)) ∈ ps_T := ps_in (List.mem_of_getElem? (i := 419) (by decide +kernel)) rfl
theorem wd_379 : (Jvm.Cond.static ({ cls := "PromiseScopesLaw", name := "source", desc := "(LPromiseScopes;[J)I" } : Jvm.MethodName)) ∈ ps_T := ps_in (List.mem_of_getElem? (i := 420) (by decide +kernel)) rfl
theorem wd_381 : (Jvm.Cond.classLink "PromiseScopesLaw" (13 : Nat) "java/lang/IllegalStateException") ∈ ps_T := ps_in (List.mem_of_getElem? (i := 422) (by decide +kernel)) rfl
theorem wd_382 : (Jvm.Cond.methodLink "PromiseScopesLaw" (7 : Nat) ({ cls := "PromiseScopes", name := "source", desc := "()I" } : Jvm.MethodName)) ∈ ps_T := ps_in (List.mem_of_getElem? (i := 423) (by decide +kernel)) rfl
theorem wd_383 : (Jvm.Cond.instanceMethod ({ cls := "PromiseScopes", name := "source", desc := "()I" } : Jvm.MethodName)) ∈ ps_T := ps_in (List.mem_of_getElem? (i := 424) (by decide +kernel)) rfl
theorem wd_384 : (Jvm.Cond.selects "PromiseScopes" ({ cls := "PromiseScopes", name := "source", desc := "()I" } : Jvm.MethodName) ({ cls := "PromiseScopes", name := "source", desc := "()I" } : Jvm.MethodName)) ∈ ps_T := ps_in (List.mem_of_getElem? (i := 425) (by decide +kernel)) rfl
set_option maxRecDepth 20000 in
theorem wd_385 : (Jvm.Cond.code ({ cls := "PromiseScopes", name := "source", desc := "()I" } : Jvm.MethodName) prog_1_method_2_code (1 : Nat) (Option.some Jvm.ClassFile.FieldType.int)) ∈ ps_T := ps_in (List.mem_of_getElem? (i := 426) rfl) rfl
theorem wd_386 : (Jvm.Cond.methodLink "PromiseScopes" (23 : Nat) ({ cls := "PromiseScopes$StageGraph", name := "isFull", desc := "()Z" } : Jvm.MethodName)) ∈ ps_T := ps_in (List.mem_of_getElem? (i := 427) (by decide +kernel)) rfl
theorem wd_387 : (Jvm.Cond.instanceMethod ({ cls := "PromiseScopes$StageGraph", name := "isFull", desc := "()Z" } : Jvm.MethodName)) ∈ ps_T := ps_in (List.mem_of_getElem? (i := 428) (by decide +kernel)) rfl
theorem wd_388 : (Jvm.Cond.selects "PromiseScopes$StageGraph" ({ cls := "PromiseScopes$StageGraph", name := "isFull", desc := "()Z" } : Jvm.MethodName) ({ cls := "PromiseScopes$StageGraph", name := "isFull", desc := "()Z" } : Jvm.MethodName)) ∈ ps_T := ps_in (List.mem_of_getElem? (i := 429) (by decide +kernel)) rfl
set_option maxRecDepth 20000 in
theorem wd_389 : (Jvm.Cond.code ({ cls := "PromiseScopes$StageGraph", name := "isFull", desc := "()Z" } : Jvm.MethodName) prog_6_method_2_code (1 : Nat) (Option.some Jvm.ClassFile.FieldType.boolean)) ∈ ps_T := ps_in (List.mem_of_getElem? (i := 430) rfl) rfl
theorem wd_390 : (Jvm.Cond.classLink "PromiseScopes" (27 : Nat) "java/lang/IllegalStateException") ∈ ps_T := ps_in (List.mem_of_getElem? (i := 431) (by decide +kernel)) rfl
theorem wd_391 : (Jvm.Cond.instantiable "java/lang/IllegalStateException" (6 : Nat)) ∈ ps_T := ps_in (List.mem_of_getElem? (i := 432) (by decide +kernel)) rfl
theorem wd_399 : (Jvm.Cond.selects "java/lang/IllegalStateException" ({ cls := "java/lang/Throwable", name := "fillInStackTrace", desc := "(I)Ljava/lang/Throwable;" } : Jvm.MethodName) ({ cls := "java/lang/Throwable", name := "fillInStackTrace", desc := "(I)Ljava/lang/Throwable;" } : Jvm.MethodName)) ∈ ps_T := ps_in (List.mem_of_getElem? (i := 440) (by decide +kernel)) rfl
theorem wd_400 : (Jvm.Cond.selects "java/lang/IllegalStateException" ({ cls := "java/lang/Throwable", name := "fillInStackTrace", desc := "()Ljava/lang/Throwable;" } : Jvm.MethodName) ({ cls := "java/lang/Throwable", name := "fillInStackTrace", desc := "()Ljava/lang/Throwable;" } : Jvm.MethodName)) ∈ ps_T := ps_in (List.mem_of_getElem? (i := 441) (by decide +kernel)) rfl
theorem wd_401 : (Jvm.Cond.lays "java/lang/IllegalStateException" "java/lang/Throwable" "cause" "Ljava/lang/Throwable;") ∈ ps_T := ps_in (List.mem_of_getElem? (i := 442) (by decide +kernel)) rfl
theorem wd_402 : (Jvm.Cond.lays "java/lang/Throwable" "java/lang/Throwable" "cause" "Ljava/lang/Throwable;") ∈ ps_T := ps_in (List.mem_of_getElem? (i := 443) (by decide +kernel)) rfl
theorem wd_403 : (Jvm.Cond.lays "java/lang/IllegalStateException" "java/lang/Throwable" "stackTrace" "[Ljava/lang/StackTraceElement;") ∈ ps_T := ps_in (List.mem_of_getElem? (i := 444) (by decide +kernel)) rfl
theorem wd_404 : (Jvm.Cond.lays "java/lang/Throwable" "java/lang/Throwable" "stackTrace" "[Ljava/lang/StackTraceElement;") ∈ ps_T := ps_in (List.mem_of_getElem? (i := 445) (by decide +kernel)) rfl
theorem wd_405 : (Jvm.Cond.lays "java/lang/IllegalStateException" "java/lang/Throwable" "suppressedExceptions" "Ljava/util/List;") ∈ ps_T := ps_in (List.mem_of_getElem? (i := 446) (by decide +kernel)) rfl
theorem wd_406 : (Jvm.Cond.lays "java/lang/Throwable" "java/lang/Throwable" "suppressedExceptions" "Ljava/util/List;") ∈ ps_T := ps_in (List.mem_of_getElem? (i := 447) (by decide +kernel)) rfl
theorem wd_407 : (Jvm.Cond.lays "java/lang/IllegalStateException" "java/lang/Throwable" "detailMessage" "Ljava/lang/String;") ∈ ps_T := ps_in (List.mem_of_getElem? (i := 448) (by decide +kernel)) rfl
theorem wd_408 : (Jvm.Cond.lays "java/lang/Throwable" "java/lang/Throwable" "detailMessage" "Ljava/lang/String;") ∈ ps_T := ps_in (List.mem_of_getElem? (i := 449) (by decide +kernel)) rfl
theorem wd_409 : (Jvm.Cond.lays "java/lang/IllegalStateException" "java/lang/Throwable" "backtrace" "Ljava/lang/Object;") ∈ ps_T := ps_in (List.mem_of_getElem? (i := 450) (by decide +kernel)) rfl
theorem wd_410 : (Jvm.Cond.lays "java/lang/Throwable" "java/lang/Throwable" "backtrace" "Ljava/lang/Object;") ∈ ps_T := ps_in (List.mem_of_getElem? (i := 451) (by decide +kernel)) rfl
theorem wd_411 : (Jvm.Cond.fieldLink "java/lang/Throwable" (198 : Nat) "java/lang/Throwable" "backtrace" "Ljava/lang/Object;") ∈ ps_T := ps_in (List.mem_of_getElem? (i := 452) (by decide +kernel)) rfl
theorem wd_413 : (Jvm.Cond.instanceMethod ({ cls := "java/lang/Throwable", name := "<init>", desc := "()V" } : Jvm.MethodName)) ∈ ps_T := ps_in (List.mem_of_getElem? (i := 454) (by decide +kernel)) rfl
set_option maxRecDepth 20000 in
theorem wd_414 : (Jvm.Cond.code ({ cls := "java/lang/Throwable", name := "<init>", desc := "()V" } : Jvm.MethodName) prog_18_method_1_code (1 : Nat) (Option.none : Option Jvm.ClassFile.FieldType)) ∈ ps_T := ps_in (List.mem_of_getElem? (i := 455) rfl) rfl
theorem wd_415 : (Jvm.Cond.methodLink "java/lang/Throwable" (1 : Nat) ({ cls := "java/lang/Object", name := "<init>", desc := "()V" } : Jvm.MethodName)) ∈ ps_T := ps_in (List.mem_of_getElem? (i := 456) (by decide +kernel)) rfl
theorem wd_416 : (Jvm.Cond.fieldLink "java/lang/Throwable" (13 : Nat) "java/lang/Throwable" "UNASSIGNED_STACK" "[Ljava/lang/StackTraceElement;") ∈ ps_T := ps_in (List.mem_of_getElem? (i := 457) (by decide +kernel)) rfl
theorem wd_418 : (Jvm.Cond.fieldLink "java/lang/Throwable" (20 : Nat) "java/lang/Throwable" "SUPPRESSED_SENTINEL" "Ljava/util/List;") ∈ ps_T := ps_in (List.mem_of_getElem? (i := 459) (by decide +kernel)) rfl
theorem wd_420 : (Jvm.Cond.methodLink "java/lang/Throwable" (27 : Nat) ({ cls := "java/lang/Throwable", name := "fillInStackTrace", desc := "()Ljava/lang/Throwable;" } : Jvm.MethodName)) ∈ ps_T := ps_in (List.mem_of_getElem? (i := 461) (by decide +kernel)) rfl
theorem wd_421 : (Jvm.Cond.instanceMethod ({ cls := "java/lang/Throwable", name := "fillInStackTrace", desc := "()Ljava/lang/Throwable;" } : Jvm.MethodName)) ∈ ps_T := ps_in (List.mem_of_getElem? (i := 462) (by decide +kernel)) rfl
theorem wd_423 : (Jvm.Cond.selects "java/lang/IllegalArgumentException" ({ cls := "java/lang/Throwable", name := "fillInStackTrace", desc := "()Ljava/lang/Throwable;" } : Jvm.MethodName) ({ cls := "java/lang/Throwable", name := "fillInStackTrace", desc := "()Ljava/lang/Throwable;" } : Jvm.MethodName)) ∈ ps_T := ps_in (List.mem_of_getElem? (i := 464) (by decide +kernel)) rfl
theorem wd_424 : (Jvm.Cond.selects "java/lang/UnsupportedOperationException" ({ cls := "java/lang/Throwable", name := "fillInStackTrace", desc := "()Ljava/lang/Throwable;" } : Jvm.MethodName) ({ cls := "java/lang/Throwable", name := "fillInStackTrace", desc := "()Ljava/lang/Throwable;" } : Jvm.MethodName)) ∈ ps_T := ps_in (List.mem_of_getElem? (i := 465) (by decide +kernel)) rfl
theorem wd_426 : (Jvm.Cond.methodLink "java/lang/Throwable" (202 : Nat) ({ cls := "java/lang/Throwable", name := "fillInStackTrace", desc := "(I)Ljava/lang/Throwable;" } : Jvm.MethodName)) ∈ ps_T := ps_in (List.mem_of_getElem? (i := 467) (by decide +kernel)) rfl
theorem wd_428 : (Jvm.Cond.instanceMethod ({ cls := "java/lang/Throwable", name := "fillInStackTrace", desc := "(I)Ljava/lang/Throwable;" } : Jvm.MethodName)) ∈ ps_T := ps_in (List.mem_of_getElem? (i := 469) (by decide +kernel)) rfl
theorem wd_429 : (Jvm.Cond.instantiable "java/lang/Throwable" (6 : Nat)) ∈ ps_T := ps_in (List.mem_of_getElem? (i := 470) (by decide +kernel)) rfl
theorem wd_432 : (Jvm.Cond.methodLink "PromiseScopes" (31 : Nat) ({ cls := "java/lang/IllegalStateException", name := "<init>", desc := "(Ljava/lang/String;)V" } : Jvm.MethodName)) ∈ ps_T := ps_in (List.mem_of_getElem? (i := 473) (by decide +kernel)) rfl
theorem wd_433 : (Jvm.Cond.instanceMethod ({ cls := "java/lang/IllegalStateException", name := "<init>", desc := "(Ljava/lang/String;)V" } : Jvm.MethodName)) ∈ ps_T := ps_in (List.mem_of_getElem? (i := 474) (by decide +kernel)) rfl
set_option maxRecDepth 20000 in
theorem wd_434 : (Jvm.Cond.code ({ cls := "java/lang/IllegalStateException", name := "<init>", desc := "(Ljava/lang/String;)V" } : Jvm.MethodName) prog_13_method_2_code (2 : Nat) (Option.none : Option Jvm.ClassFile.FieldType)) ∈ ps_T := ps_in (List.mem_of_getElem? (i := 475) rfl) rfl
theorem wd_435 : (Jvm.Cond.methodLink "java/lang/IllegalStateException" (7 : Nat) ({ cls := "java/lang/RuntimeException", name := "<init>", desc := "(Ljava/lang/String;)V" } : Jvm.MethodName)) ∈ ps_T := ps_in (List.mem_of_getElem? (i := 476) (by decide +kernel)) rfl
theorem wd_436 : (Jvm.Cond.instanceMethod ({ cls := "java/lang/RuntimeException", name := "<init>", desc := "(Ljava/lang/String;)V" } : Jvm.MethodName)) ∈ ps_T := ps_in (List.mem_of_getElem? (i := 477) (by decide +kernel)) rfl
set_option maxRecDepth 20000 in
theorem wd_437 : (Jvm.Cond.code ({ cls := "java/lang/RuntimeException", name := "<init>", desc := "(Ljava/lang/String;)V" } : Jvm.MethodName) prog_16_method_2_code (2 : Nat) (Option.none : Option Jvm.ClassFile.FieldType)) ∈ ps_T := ps_in (List.mem_of_getElem? (i := 478) rfl) rfl
theorem wd_438 : (Jvm.Cond.methodLink "java/lang/RuntimeException" (7 : Nat) ({ cls := "java/lang/Exception", name := "<init>", desc := "(Ljava/lang/String;)V" } : Jvm.MethodName)) ∈ ps_T := ps_in (List.mem_of_getElem? (i := 479) (by decide +kernel)) rfl
theorem wd_439 : (Jvm.Cond.instanceMethod ({ cls := "java/lang/Exception", name := "<init>", desc := "(Ljava/lang/String;)V" } : Jvm.MethodName)) ∈ ps_T := ps_in (List.mem_of_getElem? (i := 480) (by decide +kernel)) rfl
set_option maxRecDepth 20000 in
theorem wd_440 : (Jvm.Cond.code ({ cls := "java/lang/Exception", name := "<init>", desc := "(Ljava/lang/String;)V" } : Jvm.MethodName) prog_11_method_2_code (2 : Nat) (Option.none : Option Jvm.ClassFile.FieldType)) ∈ ps_T := ps_in (List.mem_of_getElem? (i := 481) rfl) rfl
theorem wd_441 : (Jvm.Cond.methodLink "java/lang/Exception" (7 : Nat) ({ cls := "java/lang/Throwable", name := "<init>", desc := "(Ljava/lang/String;)V" } : Jvm.MethodName)) ∈ ps_T := ps_in (List.mem_of_getElem? (i := 482) (by decide +kernel)) rfl
theorem wd_442 : (Jvm.Cond.instanceMethod ({ cls := "java/lang/Throwable", name := "<init>", desc := "(Ljava/lang/String;)V" } : Jvm.MethodName)) ∈ ps_T := ps_in (List.mem_of_getElem? (i := 483) (by decide +kernel)) rfl
set_option maxRecDepth 20000 in
theorem wd_443 : (Jvm.Cond.code ({ cls := "java/lang/Throwable", name := "<init>", desc := "(Ljava/lang/String;)V" } : Jvm.MethodName) prog_18_method_2_code (2 : Nat) (Option.none : Option Jvm.ClassFile.FieldType)) ∈ ps_T := ps_in (List.mem_of_getElem? (i := 484) rfl) rfl
theorem wd_444 : (Jvm.Cond.fieldLink "java/lang/Throwable" (198 : Nat) "java/lang/Throwable" "backtrace" "Ljava/lang/Object;") ∈ ps_T := ps_in (List.mem_of_getElem? (i := 485) (by decide +kernel)) rfl
theorem wd_445 : (Jvm.Cond.fieldLink "java/lang/Throwable" (31 : Nat) "java/lang/Throwable" "detailMessage" "Ljava/lang/String;") ∈ ps_T := ps_in (List.mem_of_getElem? (i := 486) (by decide +kernel)) rfl
theorem wd_446 : (Jvm.Cond.fieldLink "java/lang/Throwable" (7 : Nat) "java/lang/Throwable" "cause" "Ljava/lang/Throwable;") ∈ ps_T := ps_in (List.mem_of_getElem? (i := 487) (by decide +kernel)) rfl
theorem wd_447 : (Jvm.Cond.fieldLink "java/lang/Throwable" (17 : Nat) "java/lang/Throwable" "stackTrace" "[Ljava/lang/StackTraceElement;") ∈ ps_T := ps_in (List.mem_of_getElem? (i := 488) (by decide +kernel)) rfl
theorem wd_448 : (Jvm.Cond.fieldLink "java/lang/Throwable" (24 : Nat) "java/lang/Throwable" "suppressedExceptions" "Ljava/util/List;") ∈ ps_T := ps_in (List.mem_of_getElem? (i := 489) (by decide +kernel)) rfl
theorem wd_453 : (Jvm.Cond.lays "java/lang/IllegalStateException" "java/lang/Throwable" "depth" "I") ∈ ps_T := ps_in (List.mem_of_getElem? (i := 494) (by decide +kernel)) rfl
theorem wd_457 : (Jvm.Cond.arrayClass Jvm.ClassFile.FieldType.byte) ∈ ps_T := ps_in (List.mem_of_getElem? (i := 498) (by decide +kernel)) rfl
theorem wd_458 : (Jvm.Cond.methodLink "PromiseScopes" (34 : Nat) ({ cls := "PromiseScopes$StageGraph", name := "addSource", desc := "()LPromiseScopes$Stage;" } : Jvm.MethodName)) ∈ ps_T := ps_in (List.mem_of_getElem? (i := 499) (by decide +kernel)) rfl
theorem wd_459 : (Jvm.Cond.instanceMethod ({ cls := "PromiseScopes$StageGraph", name := "addSource", desc := "()LPromiseScopes$Stage;" } : Jvm.MethodName)) ∈ ps_T := ps_in (List.mem_of_getElem? (i := 500) (by decide +kernel)) rfl
theorem wd_460 : (Jvm.Cond.selects "PromiseScopes$StageGraph" ({ cls := "PromiseScopes$StageGraph", name := "addSource", desc := "()LPromiseScopes$Stage;" } : Jvm.MethodName) ({ cls := "PromiseScopes$StageGraph", name := "addSource", desc := "()LPromiseScopes$Stage;" } : Jvm.MethodName)) ∈ ps_T := ps_in (List.mem_of_getElem? (i := 501) (by decide +kernel)) rfl
set_option maxRecDepth 20000 in
theorem wd_461 : (Jvm.Cond.code ({ cls := "PromiseScopes$StageGraph", name := "addSource", desc := "()LPromiseScopes$Stage;" } : Jvm.MethodName) prog_6_method_11_code (1 : Nat) (Option.some (Jvm.ClassFile.FieldType.object "PromiseScopes$Stage"))) ∈ ps_T := ps_in (List.mem_of_getElem? (i := 502) rfl) rfl
theorem wd_462 : (Jvm.Cond.methodLink "PromiseScopes$StageGraph" (49 : Nat) ({ cls := "PromiseScopes$StageGraph", name := "addStage", desc := "([LPromiseScopes$Stage;IIIZ)LPromiseScopes$Stage;" } : Jvm.MethodName)) ∈ ps_T := ps_in (List.mem_of_getElem? (i := 503) (by decide +kernel)) rfl
theorem wd_463 : (Jvm.Cond.instanceMethod ({ cls := "PromiseScopes$StageGraph", name := "addStage", desc := "([LPromiseScopes$Stage;IIIZ)LPromiseScopes$Stage;" } : Jvm.MethodName)) ∈ ps_T := ps_in (List.mem_of_getElem? (i := 504) (by decide +kernel)) rfl
theorem wd_464 : (Jvm.Cond.selects "PromiseScopes$StageGraph" ({ cls := "PromiseScopes$StageGraph", name := "addStage", desc := "([LPromiseScopes$Stage;IIIZ)LPromiseScopes$Stage;" } : Jvm.MethodName) ({ cls := "PromiseScopes$StageGraph", name := "addStage", desc := "([LPromiseScopes$Stage;IIIZ)LPromiseScopes$Stage;" } : Jvm.MethodName)) ∈ ps_T := ps_in (List.mem_of_getElem? (i := 505) (by decide +kernel)) rfl
set_option maxRecDepth 20000 in
theorem wd_465 : (Jvm.Cond.code ({ cls := "PromiseScopes$StageGraph", name := "addStage", desc := "([LPromiseScopes$Stage;IIIZ)LPromiseScopes$Stage;" } : Jvm.MethodName) prog_6_method_12_code (7 : Nat) (Option.some (Jvm.ClassFile.FieldType.object "PromiseScopes$Stage"))) ∈ ps_T := ps_in (List.mem_of_getElem? (i := 506) rfl) rfl
theorem wd_466 : (Jvm.Cond.instantiable "PromiseScopes$Stage" (11 : Nat)) ∈ ps_T := ps_in (List.mem_of_getElem? (i := 507) (by decide +kernel)) rfl
theorem wd_467 : (Jvm.Cond.methodLink "PromiseScopes$StageGraph" (53 : Nat) ({ cls := "PromiseScopes$Stage", name := "<init>", desc := "(IIIIZ[LPromiseScopes$Stage;)V" } : Jvm.MethodName)) ∈ ps_T := ps_in (List.mem_of_getElem? (i := 508) (by decide +kernel)) rfl
theorem wd_468 : (Jvm.Cond.instanceMethod ({ cls := "PromiseScopes$Stage", name := "<init>", desc := "(IIIIZ[LPromiseScopes$Stage;)V" } : Jvm.MethodName)) ∈ ps_T := ps_in (List.mem_of_getElem? (i := 509) (by decide +kernel)) rfl
set_option maxRecDepth 20000 in
theorem wd_469 : (Jvm.Cond.code ({ cls := "PromiseScopes$Stage", name := "<init>", desc := "(IIIIZ[LPromiseScopes$Stage;)V" } : Jvm.MethodName) prog_5_method_1_code (7 : Nat) (Option.none : Option Jvm.ClassFile.FieldType)) ∈ ps_T := ps_in (List.mem_of_getElem? (i := 510) rfl) rfl
theorem wd_470 : (Jvm.Cond.methodLink "PromiseScopes$Stage" (1 : Nat) ({ cls := "java/lang/Object", name := "<init>", desc := "()V" } : Jvm.MethodName)) ∈ ps_T := ps_in (List.mem_of_getElem? (i := 511) (by decide +kernel)) rfl
theorem wd_471 : (Jvm.Cond.constant "PromiseScopes$Stage" (33 : Nat) (1073741824 : Int32)) ∈ ps_T := ps_in (List.mem_of_getElem? (i := 512) (by decide +kernel)) rfl
theorem wd_472 : (Jvm.Cond.fieldLink "PromiseScopes$Stage" (7 : Nat) "PromiseScopes$Stage" "number" "I") ∈ ps_T := ps_in (List.mem_of_getElem? (i := 513) (by decide +kernel)) rfl
theorem wd_473 : (Jvm.Cond.fieldLink "PromiseScopes" (38 : Nat) "PromiseScopes$Stage" "number" "I") ∈ ps_T := ps_in (List.mem_of_getElem? (i := 514) (by decide +kernel)) rfl
theorem wd_474 : (Jvm.Cond.fieldLink "PromiseScopes$Stage" (13 : Nat) "PromiseScopes$Stage" "kind" "I") ∈ ps_T := ps_in (List.mem_of_getElem? (i := 515) (by decide +kernel)) rfl
theorem wd_475 : (Jvm.Cond.fieldLink "PromiseScopes" (109 : Nat) "PromiseScopes$Stage" "kind" "I") ∈ ps_T := ps_in (List.mem_of_getElem? (i := 516) (by decide +kernel)) rfl
theorem wd_476 : (Jvm.Cond.fieldLink "PromiseScopes$StageGraph" (111 : Nat) "PromiseScopes$Stage" "kind" "I") ∈ ps_T := ps_in (List.mem_of_getElem? (i := 517) (by decide +kernel)) rfl
theorem wd_477 : (Jvm.Cond.fieldLink "PromiseScopes$Stage" (16 : Nat) "PromiseScopes$Stage" "function" "I") ∈ ps_T := ps_in (List.mem_of_getElem? (i := 518) (by decide +kernel)) rfl
theorem wd_478 : (Jvm.Cond.fieldLink "PromiseScopes$StageGraph" (146 : Nat) "PromiseScopes$Stage" "function" "I") ∈ ps_T := ps_in (List.mem_of_getElem? (i := 519) (by decide +kernel)) rfl
theorem wd_479 : (Jvm.Cond.fieldLink "PromiseScopes$Stage" (19 : Nat) "PromiseScopes$Stage" "a" "I") ∈ ps_T := ps_in (List.mem_of_getElem? (i := 520) (by decide +kernel)) rfl
theorem wd_480 : (Jvm.Cond.fieldLink "PromiseScopes$StageGraph" (149 : Nat) "PromiseScopes$Stage" "a" "I") ∈ ps_T := ps_in (List.mem_of_getElem? (i := 521) (by decide +kernel)) rfl
theorem wd_481 : (Jvm.Cond.fieldLink "PromiseScopes$Stage" (22 : Nat) "PromiseScopes$Stage" "async" "Z") ∈ ps_T := ps_in (List.mem_of_getElem? (i := 522) (by decide +kernel)) rfl
theorem wd_482 : (Jvm.Cond.fieldLink "PromiseScopes$Stage" (26 : Nat) "PromiseScopes$Stage" "inputs" "[LPromiseScopes$Stage;") ∈ ps_T := ps_in (List.mem_of_getElem? (i := 523) (by decide +kernel)) rfl
theorem wd_483 : (Jvm.Cond.fieldLink "PromiseScopes$StageGraph" (108 : Nat) "PromiseScopes$Stage" "inputs" "[LPromiseScopes$Stage;") ∈ ps_T := ps_in (List.mem_of_getElem? (i := 524) (by decide +kernel)) rfl
theorem wd_484 : (Jvm.Cond.fieldLink "PromiseScopes$Stage" (30 : Nat) "PromiseScopes$Stage" "state" "I") ∈ ps_T := ps_in (List.mem_of_getElem? (i := 525) (by decide +kernel)) rfl
theorem wd_485 : (Jvm.Cond.fieldLink "PromiseScopes" (96 : Nat) "PromiseScopes$Stage" "state" "I") ∈ ps_T := ps_in (List.mem_of_getElem? (i := 526) (by decide +kernel)) rfl
theorem wd_486 : (Jvm.Cond.fieldLink "PromiseScopes$StageGraph" (71 : Nat) "PromiseScopes$Stage" "state" "I") ∈ ps_T := ps_in (List.mem_of_getElem? (i := 527) (by decide +kernel)) rfl
theorem wd_487 : (Jvm.Cond.fieldLink "PromiseScopes$ScopeTree" (113 : Nat) "PromiseScopes$Stage" "state" "I") ∈ ps_T := ps_in (List.mem_of_getElem? (i := 528) (by decide +kernel)) rfl
theorem wd_488 : (Jvm.Cond.fieldLink "PromiseScopes$Stage" (41 : Nat) "PromiseScopes$Stage" "content" "I") ∈ ps_T := ps_in (List.mem_of_getElem? (i := 529) (by decide +kernel)) rfl
theorem wd_489 : (Jvm.Cond.fieldLink "PromiseScopes" (106 : Nat) "PromiseScopes$Stage" "content" "I") ∈ ps_T := ps_in (List.mem_of_getElem? (i := 530) (by decide +kernel)) rfl
theorem wd_490 : (Jvm.Cond.fieldLink "PromiseScopes$StageGraph" (152 : Nat) "PromiseScopes$Stage" "content" "I") ∈ ps_T := ps_in (List.mem_of_getElem? (i := 531) (by decide +kernel)) rfl
theorem wd_491 : (Jvm.Cond.fieldLink "PromiseScopes$Stage" (34 : Nat) "PromiseScopes$Stage" "turn" "I") ∈ ps_T := ps_in (List.mem_of_getElem? (i := 532) (by decide +kernel)) rfl
theorem wd_492 : (Jvm.Cond.fieldLink "PromiseScopes$StageGraph" (81 : Nat) "PromiseScopes$Stage" "turn" "I") ∈ ps_T := ps_in (List.mem_of_getElem? (i := 533) (by decide +kernel)) rfl
theorem wd_493 : (Jvm.Cond.fieldLink "PromiseScopes$Stage" (37 : Nat) "PromiseScopes$Stage" "awaited" "LPromiseScopes$Stage;") ∈ ps_T := ps_in (List.mem_of_getElem? (i := 534) (by decide +kernel)) rfl
theorem wd_494 : (Jvm.Cond.fieldLink "PromiseScopes$StageGraph" (142 : Nat) "PromiseScopes$Stage" "awaited" "LPromiseScopes$Stage;") ∈ ps_T := ps_in (List.mem_of_getElem? (i := 535) (by decide +kernel)) rfl
theorem wd_495 : (Jvm.Cond.fieldLink "PromiseScopes$StageGraph" (91 : Nat) "PromiseScopes$Stage" "queued" "Z") ∈ ps_T := ps_in (List.mem_of_getElem? (i := 536) (by decide +kernel)) rfl
theorem wd_496 : (Jvm.Cond.laysFinal "PromiseScopes$Stage" "PromiseScopes$Stage" "number" "I") ∈ ps_T := ps_in (List.mem_of_getElem? (i := 537) (by decide +kernel)) rfl
theorem wd_498 : (Jvm.Cond.laysFinal "PromiseScopes$Stage" "PromiseScopes$Stage" "kind" "I") ∈ ps_T := ps_in (List.mem_of_getElem? (i := 539) (by decide +kernel)) rfl
theorem wd_500 : (Jvm.Cond.laysFinal "PromiseScopes$Stage" "PromiseScopes$Stage" "function" "I") ∈ ps_T := ps_in (List.mem_of_getElem? (i := 541) (by decide +kernel)) rfl
theorem wd_502 : (Jvm.Cond.laysFinal "PromiseScopes$Stage" "PromiseScopes$Stage" "a" "I") ∈ ps_T := ps_in (List.mem_of_getElem? (i := 543) (by decide +kernel)) rfl
theorem wd_504 : (Jvm.Cond.laysFinal "PromiseScopes$Stage" "PromiseScopes$Stage" "async" "Z") ∈ ps_T := ps_in (List.mem_of_getElem? (i := 545) (by decide +kernel)) rfl
theorem wd_506 : (Jvm.Cond.laysFinal "PromiseScopes$Stage" "PromiseScopes$Stage" "inputs" "[LPromiseScopes$Stage;") ∈ ps_T := ps_in (List.mem_of_getElem? (i := 547) (by decide +kernel)) rfl
theorem wd_508 : (Jvm.Cond.lays "PromiseScopes$Stage" "PromiseScopes$Stage" "state" "I") ∈ ps_T := ps_in (List.mem_of_getElem? (i := 549) (by decide +kernel)) rfl
theorem wd_510 : (Jvm.Cond.lays "PromiseScopes$Stage" "PromiseScopes$Stage" "content" "I") ∈ ps_T := ps_in (List.mem_of_getElem? (i := 551) (by decide +kernel)) rfl
theorem wd_512 : (Jvm.Cond.lays "PromiseScopes$Stage" "PromiseScopes$Stage" "turn" "I") ∈ ps_T := ps_in (List.mem_of_getElem? (i := 553) (by decide +kernel)) rfl
theorem wd_514 : (Jvm.Cond.lays "PromiseScopes$Stage" "PromiseScopes$Stage" "awaited" "LPromiseScopes$Stage;") ∈ ps_T := ps_in (List.mem_of_getElem? (i := 555) (by decide +kernel)) rfl
theorem wd_516 : (Jvm.Cond.lays "PromiseScopes$Stage" "PromiseScopes$Stage" "queued" "Z") ∈ ps_T := ps_in (List.mem_of_getElem? (i := 557) (by decide +kernel)) rfl
theorem wd_519 : (Jvm.Cond.methodLink "PromiseScopesLaw" (60 : Nat) ({ cls := "PromiseScopesLaw", name := "then", desc := "(LPromiseScopes;IIIIZ[J)I" } : Jvm.MethodName)) ∈ ps_T := ps_in (List.mem_of_getElem? (i := 560) (by decide +kernel)) rfl
theorem wd_520 : (Jvm.Cond.static ({ cls := "PromiseScopesLaw", name := "then", desc := "(LPromiseScopes;IIIIZ[J)I" } : Jvm.MethodName)) ∈ ps_T := ps_in (List.mem_of_getElem? (i := 561) (by decide +kernel)) rfl
theorem wd_522 : (Jvm.Cond.classLink "PromiseScopesLaw" (19 : Nat) "java/lang/IllegalArgumentException") ∈ ps_T := ps_in (List.mem_of_getElem? (i := 563) (by decide +kernel)) rfl
theorem wd_523 : (Jvm.Cond.methodLink "PromiseScopesLaw" (15 : Nat) ({ cls := "PromiseScopes", name := "then", desc := "(IIIIZ)I" } : Jvm.MethodName)) ∈ ps_T := ps_in (List.mem_of_getElem? (i := 564) (by decide +kernel)) rfl
theorem wd_524 : (Jvm.Cond.instanceMethod ({ cls := "PromiseScopes", name := "then", desc := "(IIIIZ)I" } : Jvm.MethodName)) ∈ ps_T := ps_in (List.mem_of_getElem? (i := 565) (by decide +kernel)) rfl
theorem wd_525 : (Jvm.Cond.selects "PromiseScopes" ({ cls := "PromiseScopes", name := "then", desc := "(IIIIZ)I" } : Jvm.MethodName) ({ cls := "PromiseScopes", name := "then", desc := "(IIIIZ)I" } : Jvm.MethodName)) ∈ ps_T := ps_in (List.mem_of_getElem? (i := 566) (by decide +kernel)) rfl
set_option maxRecDepth 20000 in
theorem wd_526 : (Jvm.Cond.code ({ cls := "PromiseScopes", name := "then", desc := "(IIIIZ)I" } : Jvm.MethodName) prog_1_method_3_code (7 : Nat) (Option.some Jvm.ClassFile.FieldType.int)) ∈ ps_T := ps_in (List.mem_of_getElem? (i := 567) rfl) rfl
theorem wd_527 : (Jvm.Cond.methodLink "PromiseScopes" (44 : Nat) ({ cls := "PromiseScopes$StageGraph", name := "has", desc := "(I)Z" } : Jvm.MethodName)) ∈ ps_T := ps_in (List.mem_of_getElem? (i := 568) (by decide +kernel)) rfl
theorem wd_528 : (Jvm.Cond.methodLink "PromiseScopes" (48 : Nat) ({ cls := "PromiseScopes$Functions", name := "has", desc := "(I)Z" } : Jvm.MethodName)) ∈ ps_T := ps_in (List.mem_of_getElem? (i := 569) (by decide +kernel)) rfl
theorem wd_529 : (Jvm.Cond.static ({ cls := "PromiseScopes$Functions", name := "has", desc := "(I)Z" } : Jvm.MethodName)) ∈ ps_T := ps_in (List.mem_of_getElem? (i := 570) (by decide +kernel)) rfl
set_option maxRecDepth 20000 in
theorem wd_530 : (Jvm.Cond.code ({ cls := "PromiseScopes$Functions", name := "has", desc := "(I)Z" } : Jvm.MethodName) prog_2_method_2_code (1 : Nat) (Option.some Jvm.ClassFile.FieldType.boolean)) ∈ ps_T := ps_in (List.mem_of_getElem? (i := 571) rfl) rfl
theorem wd_531 : (Jvm.Cond.classLink "PromiseScopes" (51 : Nat) "java/lang/IllegalArgumentException") ∈ ps_T := ps_in (List.mem_of_getElem? (i := 572) (by decide +kernel)) rfl
theorem wd_532 : (Jvm.Cond.instantiable "java/lang/IllegalArgumentException" (6 : Nat)) ∈ ps_T := ps_in (List.mem_of_getElem? (i := 573) (by decide +kernel)) rfl
theorem wd_534 : (Jvm.Cond.selects "java/lang/IllegalArgumentException" ({ cls := "java/lang/Throwable", name := "fillInStackTrace", desc := "(I)Ljava/lang/Throwable;" } : Jvm.MethodName) ({ cls := "java/lang/Throwable", name := "fillInStackTrace", desc := "(I)Ljava/lang/Throwable;" } : Jvm.MethodName)) ∈ ps_T := ps_in (List.mem_of_getElem? (i := 575) (by decide +kernel)) rfl
theorem wd_535 : (Jvm.Cond.lays "java/lang/IllegalArgumentException" "java/lang/Throwable" "cause" "Ljava/lang/Throwable;") ∈ ps_T := ps_in (List.mem_of_getElem? (i := 576) (by decide +kernel)) rfl
theorem wd_536 : (Jvm.Cond.lays "java/lang/IllegalArgumentException" "java/lang/Throwable" "stackTrace" "[Ljava/lang/StackTraceElement;") ∈ ps_T := ps_in (List.mem_of_getElem? (i := 577) (by decide +kernel)) rfl
theorem wd_537 : (Jvm.Cond.lays "java/lang/IllegalArgumentException" "java/lang/Throwable" "suppressedExceptions" "Ljava/util/List;") ∈ ps_T := ps_in (List.mem_of_getElem? (i := 578) (by decide +kernel)) rfl
theorem wd_538 : (Jvm.Cond.lays "java/lang/IllegalArgumentException" "java/lang/Throwable" "detailMessage" "Ljava/lang/String;") ∈ ps_T := ps_in (List.mem_of_getElem? (i := 579) (by decide +kernel)) rfl
theorem wd_539 : (Jvm.Cond.lays "java/lang/IllegalArgumentException" "java/lang/Throwable" "backtrace" "Ljava/lang/Object;") ∈ ps_T := ps_in (List.mem_of_getElem? (i := 580) (by decide +kernel)) rfl
theorem wd_541 : (Jvm.Cond.methodLink "PromiseScopes" (55 : Nat) ({ cls := "java/lang/IllegalArgumentException", name := "<init>", desc := "(Ljava/lang/String;)V" } : Jvm.MethodName)) ∈ ps_T := ps_in (List.mem_of_getElem? (i := 582) (by decide +kernel)) rfl
theorem wd_542 : (Jvm.Cond.instanceMethod ({ cls := "java/lang/IllegalArgumentException", name := "<init>", desc := "(Ljava/lang/String;)V" } : Jvm.MethodName)) ∈ ps_T := ps_in (List.mem_of_getElem? (i := 583) (by decide +kernel)) rfl
set_option maxRecDepth 20000 in
theorem wd_543 : (Jvm.Cond.code ({ cls := "java/lang/IllegalArgumentException", name := "<init>", desc := "(Ljava/lang/String;)V" } : Jvm.MethodName) prog_12_method_2_code (2 : Nat) (Option.none : Option Jvm.ClassFile.FieldType)) ∈ ps_T := ps_in (List.mem_of_getElem? (i := 584) rfl) rfl
theorem wd_544 : (Jvm.Cond.methodLink "java/lang/IllegalArgumentException" (7 : Nat) ({ cls := "java/lang/RuntimeException", name := "<init>", desc := "(Ljava/lang/String;)V" } : Jvm.MethodName)) ∈ ps_T := ps_in (List.mem_of_getElem? (i := 585) (by decide +kernel)) rfl
theorem wd_545 : (Jvm.Cond.lays "java/lang/IllegalArgumentException" "java/lang/Throwable" "depth" "I") ∈ ps_T := ps_in (List.mem_of_getElem? (i := 586) (by decide +kernel)) rfl
theorem wd_547 : (Jvm.Cond.methodLink "PromiseScopes" (56 : Nat) ({ cls := "PromiseScopes$StageGraph", name := "inputsOf", desc := "(I)[LPromiseScopes$Stage;" } : Jvm.MethodName)) ∈ ps_T := ps_in (List.mem_of_getElem? (i := 588) (by decide +kernel)) rfl
theorem wd_548 : (Jvm.Cond.instanceMethod ({ cls := "PromiseScopes$StageGraph", name := "inputsOf", desc := "(I)[LPromiseScopes$Stage;" } : Jvm.MethodName)) ∈ ps_T := ps_in (List.mem_of_getElem? (i := 589) (by decide +kernel)) rfl
theorem wd_549 : (Jvm.Cond.selects "PromiseScopes$StageGraph" ({ cls := "PromiseScopes$StageGraph", name := "inputsOf", desc := "(I)[LPromiseScopes$Stage;" } : Jvm.MethodName) ({ cls := "PromiseScopes$StageGraph", name := "inputsOf", desc := "(I)[LPromiseScopes$Stage;" } : Jvm.MethodName)) ∈ ps_T := ps_in (List.mem_of_getElem? (i := 590) (by decide +kernel)) rfl
set_option maxRecDepth 20000 in
theorem wd_550 : (Jvm.Cond.code ({ cls := "PromiseScopes$StageGraph", name := "inputsOf", desc := "(I)[LPromiseScopes$Stage;" } : Jvm.MethodName) prog_6_method_8_code (3 : Nat) (Option.some (Jvm.ClassFile.FieldType.array (Jvm.ClassFile.FieldType.object "PromiseScopes$Stage")))) ∈ ps_T := ps_in (List.mem_of_getElem? (i := 591) rfl) rfl
theorem wd_551 : (Jvm.Cond.methodLink "PromiseScopes" (60 : Nat) ({ cls := "PromiseScopes$StageGraph", name := "addStage", desc := "([LPromiseScopes$Stage;IIIZ)LPromiseScopes$Stage;" } : Jvm.MethodName)) ∈ ps_T := ps_in (List.mem_of_getElem? (i := 592) (by decide +kernel)) rfl
theorem wd_552 : (Jvm.Cond.methodLink "PromiseScopesLaw" (64 : Nat) ({ cls := "PromiseScopesLaw", name := "both", desc := "(LPromiseScopes;IIIIIZ[J)I" } : Jvm.MethodName)) ∈ ps_T := ps_in (List.mem_of_getElem? (i := 593) (by decide +kernel)) rfl
theorem wd_553 : (Jvm.Cond.static ({ cls := "PromiseScopesLaw", name := "both", desc := "(LPromiseScopes;IIIIIZ[J)I" } : Jvm.MethodName)) ∈ ps_T := ps_in (List.mem_of_getElem? (i := 594) (by decide +kernel)) rfl
theorem wd_555 : (Jvm.Cond.methodLink "PromiseScopesLaw" (21 : Nat) ({ cls := "PromiseScopes", name := "both", desc := "(IIIIIZ)I" } : Jvm.MethodName)) ∈ ps_T := ps_in (List.mem_of_getElem? (i := 596) (by decide +kernel)) rfl
theorem wd_556 : (Jvm.Cond.instanceMethod ({ cls := "PromiseScopes", name := "both", desc := "(IIIIIZ)I" } : Jvm.MethodName)) ∈ ps_T := ps_in (List.mem_of_getElem? (i := 597) (by decide +kernel)) rfl
theorem wd_557 : (Jvm.Cond.selects "PromiseScopes" ({ cls := "PromiseScopes", name := "both", desc := "(IIIIIZ)I" } : Jvm.MethodName) ({ cls := "PromiseScopes", name := "both", desc := "(IIIIIZ)I" } : Jvm.MethodName)) ∈ ps_T := ps_in (List.mem_of_getElem? (i := 598) (by decide +kernel)) rfl
set_option maxRecDepth 20000 in
theorem wd_558 : (Jvm.Cond.code ({ cls := "PromiseScopes", name := "both", desc := "(IIIIIZ)I" } : Jvm.MethodName) prog_1_method_4_code (8 : Nat) (Option.some Jvm.ClassFile.FieldType.int)) ∈ ps_T := ps_in (List.mem_of_getElem? (i := 599) rfl) rfl
theorem wd_559 : (Jvm.Cond.methodLink "PromiseScopes" (67 : Nat) ({ cls := "PromiseScopes$StageGraph", name := "inputsOf", desc := "(II)[LPromiseScopes$Stage;" } : Jvm.MethodName)) ∈ ps_T := ps_in (List.mem_of_getElem? (i := 600) (by decide +kernel)) rfl
theorem wd_560 : (Jvm.Cond.instanceMethod ({ cls := "PromiseScopes$StageGraph", name := "inputsOf", desc := "(II)[LPromiseScopes$Stage;" } : Jvm.MethodName)) ∈ ps_T := ps_in (List.mem_of_getElem? (i := 601) (by decide +kernel)) rfl
theorem wd_561 : (Jvm.Cond.selects "PromiseScopes$StageGraph" ({ cls := "PromiseScopes$StageGraph", name := "inputsOf", desc := "(II)[LPromiseScopes$Stage;" } : Jvm.MethodName) ({ cls := "PromiseScopes$StageGraph", name := "inputsOf", desc := "(II)[LPromiseScopes$Stage;" } : Jvm.MethodName)) ∈ ps_T := ps_in (List.mem_of_getElem? (i := 602) (by decide +kernel)) rfl
set_option maxRecDepth 20000 in
theorem wd_562 : (Jvm.Cond.code ({ cls := "PromiseScopes$StageGraph", name := "inputsOf", desc := "(II)[LPromiseScopes$Stage;" } : Jvm.MethodName) prog_6_method_9_code (4 : Nat) (Option.some (Jvm.ClassFile.FieldType.array (Jvm.ClassFile.FieldType.object "PromiseScopes$Stage")))) ∈ ps_T := ps_in (List.mem_of_getElem? (i := 603) rfl) rfl
theorem wd_563 : (Jvm.Cond.methodLink "PromiseScopesLaw" (70 : Nat) ({ cls := "PromiseScopesLaw", name := "several", desc := "(LPromiseScopes;JI[J)I" } : Jvm.MethodName)) ∈ ps_T := ps_in (List.mem_of_getElem? (i := 604) (by decide +kernel)) rfl
theorem wd_564 : (Jvm.Cond.static ({ cls := "PromiseScopesLaw", name := "several", desc := "(LPromiseScopes;JI[J)I" } : Jvm.MethodName)) ∈ ps_T := ps_in (List.mem_of_getElem? (i := 605) (by decide +kernel)) rfl
theorem wd_566 : (Jvm.Cond.methodLink "PromiseScopesLaw" (25 : Nat) ({ cls := "PromiseScopes", name := "several", desc := "(JI)I" } : Jvm.MethodName)) ∈ ps_T := ps_in (List.mem_of_getElem? (i := 607) (by decide +kernel)) rfl
theorem wd_567 : (Jvm.Cond.instanceMethod ({ cls := "PromiseScopes", name := "several", desc := "(JI)I" } : Jvm.MethodName)) ∈ ps_T := ps_in (List.mem_of_getElem? (i := 608) (by decide +kernel)) rfl
theorem wd_568 : (Jvm.Cond.selects "PromiseScopes" ({ cls := "PromiseScopes", name := "several", desc := "(JI)I" } : Jvm.MethodName) ({ cls := "PromiseScopes", name := "several", desc := "(JI)I" } : Jvm.MethodName)) ∈ ps_T := ps_in (List.mem_of_getElem? (i := 609) (by decide +kernel)) rfl
set_option maxRecDepth 20000 in
theorem wd_569 : (Jvm.Cond.code ({ cls := "PromiseScopes", name := "several", desc := "(JI)I" } : Jvm.MethodName) prog_1_method_5_code (5 : Nat) (Option.some Jvm.ClassFile.FieldType.int)) ∈ ps_T := ps_in (List.mem_of_getElem? (i := 610) rfl) rfl
theorem wd_570 : (Jvm.Cond.methodLink "PromiseScopes" (70 : Nat) ({ cls := "PromiseScopes$StageGraph", name := "hasAll", desc := "(J)Z" } : Jvm.MethodName)) ∈ ps_T := ps_in (List.mem_of_getElem? (i := 611) (by decide +kernel)) rfl
theorem wd_571 : (Jvm.Cond.instanceMethod ({ cls := "PromiseScopes$StageGraph", name := "hasAll", desc := "(J)Z" } : Jvm.MethodName)) ∈ ps_T := ps_in (List.mem_of_getElem? (i := 612) (by decide +kernel)) rfl
theorem wd_572 : (Jvm.Cond.selects "PromiseScopes$StageGraph" ({ cls := "PromiseScopes$StageGraph", name := "hasAll", desc := "(J)Z" } : Jvm.MethodName) ({ cls := "PromiseScopes$StageGraph", name := "hasAll", desc := "(J)Z" } : Jvm.MethodName)) ∈ ps_T := ps_in (List.mem_of_getElem? (i := 613) (by decide +kernel)) rfl
set_option maxRecDepth 20000 in
theorem wd_573 : (Jvm.Cond.code ({ cls := "PromiseScopes$StageGraph", name := "hasAll", desc := "(J)Z" } : Jvm.MethodName) prog_6_method_4_code (3 : Nat) (Option.some Jvm.ClassFile.FieldType.boolean)) ∈ ps_T := ps_in (List.mem_of_getElem? (i := 614) rfl) rfl
theorem wd_575 : (Jvm.Cond.methodLink "PromiseScopes" (76 : Nat) ({ cls := "PromiseScopes$StageGraph", name := "inputsOfSet", desc := "(J)[LPromiseScopes$Stage;" } : Jvm.MethodName)) ∈ ps_T := ps_in (List.mem_of_getElem? (i := 616) (by decide +kernel)) rfl
theorem wd_576 : (Jvm.Cond.instanceMethod ({ cls := "PromiseScopes$StageGraph", name := "inputsOfSet", desc := "(J)[LPromiseScopes$Stage;" } : Jvm.MethodName)) ∈ ps_T := ps_in (List.mem_of_getElem? (i := 617) (by decide +kernel)) rfl
theorem wd_577 : (Jvm.Cond.selects "PromiseScopes$StageGraph" ({ cls := "PromiseScopes$StageGraph", name := "inputsOfSet", desc := "(J)[LPromiseScopes$Stage;" } : Jvm.MethodName) ({ cls := "PromiseScopes$StageGraph", name := "inputsOfSet", desc := "(J)[LPromiseScopes$Stage;" } : Jvm.MethodName)) ∈ ps_T := ps_in (List.mem_of_getElem? (i := 618) (by decide +kernel)) rfl
set_option maxRecDepth 20000 in
theorem wd_578 : (Jvm.Cond.code ({ cls := "PromiseScopes$StageGraph", name := "inputsOfSet", desc := "(J)[LPromiseScopes$Stage;" } : Jvm.MethodName) prog_6_method_10_code (6 : Nat) (Option.some (Jvm.ClassFile.FieldType.array (Jvm.ClassFile.FieldType.object "PromiseScopes$Stage")))) ∈ ps_T := ps_in (List.mem_of_getElem? (i := 619) rfl) rfl
theorem wd_579 : (Jvm.Cond.methodLink "PromiseScopes$StageGraph" (41 : Nat) ({ cls := "java/lang/Long", name := "bitCount", desc := "(J)I" } : Jvm.MethodName)) ∈ ps_T := ps_in (List.mem_of_getElem? (i := 620) (by decide +kernel)) rfl
theorem wd_580 : (Jvm.Cond.static ({ cls := "java/lang/Long", name := "bitCount", desc := "(J)I" } : Jvm.MethodName)) ∈ ps_T := ps_in (List.mem_of_getElem? (i := 621) (by decide +kernel)) rfl
set_option maxRecDepth 20000 in
theorem wd_581 : (Jvm.Cond.code ({ cls := "java/lang/Long", name := "bitCount", desc := "(J)I" } : Jvm.MethodName) prog_14_method_50_code (2 : Nat) (Option.some Jvm.ClassFile.FieldType.int)) ∈ ps_T := ps_in (List.mem_of_getElem? (i := 622) rfl) rfl
theorem wd_582 : (Jvm.Cond.constantLong "java/lang/Long" (314 : Nat) (6148914691236517205 : Int64)) ∈ ps_T := ps_in (List.mem_of_getElem? (i := 623) (by decide +kernel)) rfl
theorem wd_583 : (Jvm.Cond.constantLong "java/lang/Long" (316 : Nat) (3689348814741910323 : Int64)) ∈ ps_T := ps_in (List.mem_of_getElem? (i := 624) (by decide +kernel)) rfl
theorem wd_584 : (Jvm.Cond.constantLong "java/lang/Long" (318 : Nat) (1085102592571150095 : Int64)) ∈ ps_T := ps_in (List.mem_of_getElem? (i := 625) (by decide +kernel)) rfl
theorem wd_585 : (Jvm.Cond.methodLink "PromiseScopesLaw" (92 : Nat) ({ cls := "PromiseScopesLaw", name := "join", desc := "(LPromiseScopes;I[J)I" } : Jvm.MethodName)) ∈ ps_T := ps_in (List.mem_of_getElem? (i := 626) (by decide +kernel)) rfl
theorem wd_586 : (Jvm.Cond.static ({ cls := "PromiseScopesLaw", name := "join", desc := "(LPromiseScopes;I[J)I" } : Jvm.MethodName)) ∈ ps_T := ps_in (List.mem_of_getElem? (i := 627) (by decide +kernel)) rfl
theorem wd_588 : (Jvm.Cond.classLink "PromiseScopesLaw" (33 : Nat) "java/lang/UnsupportedOperationException") ∈ ps_T := ps_in (List.mem_of_getElem? (i := 629) (by decide +kernel)) rfl
theorem wd_589 : (Jvm.Cond.methodLink "PromiseScopesLaw" (29 : Nat) ({ cls := "PromiseScopes", name := "join", desc := "(I)I" } : Jvm.MethodName)) ∈ ps_T := ps_in (List.mem_of_getElem? (i := 630) (by decide +kernel)) rfl
theorem wd_590 : (Jvm.Cond.instanceMethod ({ cls := "PromiseScopes", name := "join", desc := "(I)I" } : Jvm.MethodName)) ∈ ps_T := ps_in (List.mem_of_getElem? (i := 631) (by decide +kernel)) rfl
theorem wd_591 : (Jvm.Cond.selects "PromiseScopes" ({ cls := "PromiseScopes", name := "join", desc := "(I)I" } : Jvm.MethodName) ({ cls := "PromiseScopes", name := "join", desc := "(I)I" } : Jvm.MethodName)) ∈ ps_T := ps_in (List.mem_of_getElem? (i := 632) (by decide +kernel)) rfl
set_option maxRecDepth 20000 in
theorem wd_592 : (Jvm.Cond.code ({ cls := "PromiseScopes", name := "join", desc := "(I)I" } : Jvm.MethodName) prog_1_method_10_code (3 : Nat) (Option.some Jvm.ClassFile.FieldType.int)) ∈ ps_T := ps_in (List.mem_of_getElem? (i := 633) rfl) rfl
theorem wd_594 : (Jvm.Cond.classLink "PromiseScopes" (99 : Nat) "java/lang/UnsupportedOperationException") ∈ ps_T := ps_in (List.mem_of_getElem? (i := 635) (by decide +kernel)) rfl
theorem wd_595 : (Jvm.Cond.instantiable "java/lang/UnsupportedOperationException" (6 : Nat)) ∈ ps_T := ps_in (List.mem_of_getElem? (i := 636) (by decide +kernel)) rfl
theorem wd_597 : (Jvm.Cond.selects "java/lang/UnsupportedOperationException" ({ cls := "java/lang/Throwable", name := "fillInStackTrace", desc := "(I)Ljava/lang/Throwable;" } : Jvm.MethodName) ({ cls := "java/lang/Throwable", name := "fillInStackTrace", desc := "(I)Ljava/lang/Throwable;" } : Jvm.MethodName)) ∈ ps_T := ps_in (List.mem_of_getElem? (i := 638) (by decide +kernel)) rfl
theorem wd_598 : (Jvm.Cond.lays "java/lang/UnsupportedOperationException" "java/lang/Throwable" "cause" "Ljava/lang/Throwable;") ∈ ps_T := ps_in (List.mem_of_getElem? (i := 639) (by decide +kernel)) rfl
theorem wd_599 : (Jvm.Cond.lays "java/lang/UnsupportedOperationException" "java/lang/Throwable" "stackTrace" "[Ljava/lang/StackTraceElement;") ∈ ps_T := ps_in (List.mem_of_getElem? (i := 640) (by decide +kernel)) rfl
theorem wd_600 : (Jvm.Cond.lays "java/lang/UnsupportedOperationException" "java/lang/Throwable" "suppressedExceptions" "Ljava/util/List;") ∈ ps_T := ps_in (List.mem_of_getElem? (i := 641) (by decide +kernel)) rfl
theorem wd_601 : (Jvm.Cond.lays "java/lang/UnsupportedOperationException" "java/lang/Throwable" "detailMessage" "Ljava/lang/String;") ∈ ps_T := ps_in (List.mem_of_getElem? (i := 642) (by decide +kernel)) rfl
theorem wd_602 : (Jvm.Cond.lays "java/lang/UnsupportedOperationException" "java/lang/Throwable" "backtrace" "Ljava/lang/Object;") ∈ ps_T := ps_in (List.mem_of_getElem? (i := 643) (by decide +kernel)) rfl
theorem wd_604 : (Jvm.Cond.methodLink "PromiseScopes" (103 : Nat) ({ cls := "java/lang/UnsupportedOperationException", name := "<init>", desc := "(Ljava/lang/String;)V" } : Jvm.MethodName)) ∈ ps_T := ps_in (List.mem_of_getElem? (i := 645) (by decide +kernel)) rfl
theorem wd_605 : (Jvm.Cond.instanceMethod ({ cls := "java/lang/UnsupportedOperationException", name := "<init>", desc := "(Ljava/lang/String;)V" } : Jvm.MethodName)) ∈ ps_T := ps_in (List.mem_of_getElem? (i := 646) (by decide +kernel)) rfl
set_option maxRecDepth 20000 in
theorem wd_606 : (Jvm.Cond.code ({ cls := "java/lang/UnsupportedOperationException", name := "<init>", desc := "(Ljava/lang/String;)V" } : Jvm.MethodName) prog_19_method_2_code (2 : Nat) (Option.none : Option Jvm.ClassFile.FieldType)) ∈ ps_T := ps_in (List.mem_of_getElem? (i := 647) rfl) rfl
theorem wd_607 : (Jvm.Cond.methodLink "java/lang/UnsupportedOperationException" (7 : Nat) ({ cls := "java/lang/RuntimeException", name := "<init>", desc := "(Ljava/lang/String;)V" } : Jvm.MethodName)) ∈ ps_T := ps_in (List.mem_of_getElem? (i := 648) (by decide +kernel)) rfl
theorem wd_608 : (Jvm.Cond.lays "java/lang/UnsupportedOperationException" "java/lang/Throwable" "depth" "I") ∈ ps_T := ps_in (List.mem_of_getElem? (i := 649) (by decide +kernel)) rfl
theorem wd_611 : (Jvm.Cond.methodLink "PromiseScopesLaw" (104 : Nat) ({ cls := "PromiseScopesLaw", name := "open", desc := "(LPromiseScopes;III[J)I" } : Jvm.MethodName)) ∈ ps_T := ps_in (List.mem_of_getElem? (i := 652) (by decide +kernel)) rfl
theorem wd_612 : (Jvm.Cond.static ({ cls := "PromiseScopesLaw", name := "open", desc := "(LPromiseScopes;III[J)I" } : Jvm.MethodName)) ∈ ps_T := ps_in (List.mem_of_getElem? (i := 653) (by decide +kernel)) rfl
theorem wd_614 : (Jvm.Cond.methodLink "PromiseScopesLaw" (35 : Nat) ({ cls := "PromiseScopes", name := "open", desc := "(III)I" } : Jvm.MethodName)) ∈ ps_T := ps_in (List.mem_of_getElem? (i := 655) (by decide +kernel)) rfl
theorem wd_615 : (Jvm.Cond.instanceMethod ({ cls := "PromiseScopes", name := "open", desc := "(III)I" } : Jvm.MethodName)) ∈ ps_T := ps_in (List.mem_of_getElem? (i := 656) (by decide +kernel)) rfl
theorem wd_616 : (Jvm.Cond.selects "PromiseScopes" ({ cls := "PromiseScopes", name := "open", desc := "(III)I" } : Jvm.MethodName) ({ cls := "PromiseScopes", name := "open", desc := "(III)I" } : Jvm.MethodName)) ∈ ps_T := ps_in (List.mem_of_getElem? (i := 657) (by decide +kernel)) rfl
set_option maxRecDepth 20000 in
theorem wd_617 : (Jvm.Cond.code ({ cls := "PromiseScopes", name := "open", desc := "(III)I" } : Jvm.MethodName) prog_1_method_13_code (5 : Nat) (Option.some Jvm.ClassFile.FieldType.int)) ∈ ps_T := ps_in (List.mem_of_getElem? (i := 658) rfl) rfl
theorem wd_619 : (Jvm.Cond.methodLink "PromiseScopes" (140 : Nat) ({ cls := "PromiseScopes$ScopeTree", name := "isFullOfScopes", desc := "()Z" } : Jvm.MethodName)) ∈ ps_T := ps_in (List.mem_of_getElem? (i := 660) (by decide +kernel)) rfl
theorem wd_620 : (Jvm.Cond.instanceMethod ({ cls := "PromiseScopes$ScopeTree", name := "isFullOfScopes", desc := "()Z" } : Jvm.MethodName)) ∈ ps_T := ps_in (List.mem_of_getElem? (i := 661) (by decide +kernel)) rfl
theorem wd_621 : (Jvm.Cond.selects "PromiseScopes$ScopeTree" ({ cls := "PromiseScopes$ScopeTree", name := "isFullOfScopes", desc := "()Z" } : Jvm.MethodName) ({ cls := "PromiseScopes$ScopeTree", name := "isFullOfScopes", desc := "()Z" } : Jvm.MethodName)) ∈ ps_T := ps_in (List.mem_of_getElem? (i := 662) (by decide +kernel)) rfl
set_option maxRecDepth 20000 in
theorem wd_622 : (Jvm.Cond.code ({ cls := "PromiseScopes$ScopeTree", name := "isFullOfScopes", desc := "()Z" } : Jvm.MethodName) prog_4_method_2_code (1 : Nat) (Option.some Jvm.ClassFile.FieldType.boolean)) ∈ ps_T := ps_in (List.mem_of_getElem? (i := 663) rfl) rfl
theorem wd_624 : (Jvm.Cond.methodLink "PromiseScopes" (147 : Nat) ({ cls := "PromiseScopes$ScopeTree", name := "addScope", desc := "(LPromiseScopes$Scope;IILPromiseScopes$Stage;)I" } : Jvm.MethodName)) ∈ ps_T := ps_in (List.mem_of_getElem? (i := 665) (by decide +kernel)) rfl
theorem wd_625 : (Jvm.Cond.instanceMethod ({ cls := "PromiseScopes$ScopeTree", name := "addScope", desc := "(LPromiseScopes$Scope;IILPromiseScopes$Stage;)I" } : Jvm.MethodName)) ∈ ps_T := ps_in (List.mem_of_getElem? (i := 666) (by decide +kernel)) rfl
theorem wd_626 : (Jvm.Cond.selects "PromiseScopes$ScopeTree" ({ cls := "PromiseScopes$ScopeTree", name := "addScope", desc := "(LPromiseScopes$Scope;IILPromiseScopes$Stage;)I" } : Jvm.MethodName) ({ cls := "PromiseScopes$ScopeTree", name := "addScope", desc := "(LPromiseScopes$Scope;IILPromiseScopes$Stage;)I" } : Jvm.MethodName)) ∈ ps_T := ps_in (List.mem_of_getElem? (i := 667) (by decide +kernel)) rfl
set_option maxRecDepth 20000 in
theorem wd_627 : (Jvm.Cond.code ({ cls := "PromiseScopes$ScopeTree", name := "addScope", desc := "(LPromiseScopes$Scope;IILPromiseScopes$Stage;)I" } : Jvm.MethodName) prog_4_method_7_code (6 : Nat) (Option.some Jvm.ClassFile.FieldType.int)) ∈ ps_T := ps_in (List.mem_of_getElem? (i := 668) rfl) rfl
theorem wd_628 : (Jvm.Cond.methodLink "PromiseScopes$ScopeTree" (35 : Nat) ({ cls := "PromiseScopes$Scope", name := "effectiveDeadline", desc := "(LPromiseScopes$Scope;I)I" } : Jvm.MethodName)) ∈ ps_T := ps_in (List.mem_of_getElem? (i := 669) (by decide +kernel)) rfl
theorem wd_629 : (Jvm.Cond.static ({ cls := "PromiseScopes$Scope", name := "effectiveDeadline", desc := "(LPromiseScopes$Scope;I)I" } : Jvm.MethodName)) ∈ ps_T := ps_in (List.mem_of_getElem? (i := 670) (by decide +kernel)) rfl
set_option maxRecDepth 20000 in
theorem wd_630 : (Jvm.Cond.code ({ cls := "PromiseScopes$Scope", name := "effectiveDeadline", desc := "(LPromiseScopes$Scope;I)I" } : Jvm.MethodName) prog_3_method_3_code (2 : Nat) (Option.some Jvm.ClassFile.FieldType.int)) ∈ ps_T := ps_in (List.mem_of_getElem? (i := 671) rfl) rfl
theorem wd_631 : (Jvm.Cond.methodLink "PromiseScopes$Scope" (40 : Nat) ({ cls := "java/lang/Math", name := "min", desc := "(II)I" } : Jvm.MethodName)) ∈ ps_T := ps_in (List.mem_of_getElem? (i := 672) (by decide +kernel)) rfl
theorem wd_632 : (Jvm.Cond.static ({ cls := "java/lang/Math", name := "min", desc := "(II)I" } : Jvm.MethodName)) ∈ ps_T := ps_in (List.mem_of_getElem? (i := 673) (by decide +kernel)) rfl
set_option maxRecDepth 20000 in
theorem wd_633 : (Jvm.Cond.code ({ cls := "java/lang/Math", name := "min", desc := "(II)I" } : Jvm.MethodName) prog_15_method_69_code (2 : Nat) (Option.some Jvm.ClassFile.FieldType.int)) ∈ ps_T := ps_in (List.mem_of_getElem? (i := 674) rfl) rfl
theorem wd_634 : (Jvm.Cond.instantiable "PromiseScopes$Scope" (10 : Nat)) ∈ ps_T := ps_in (List.mem_of_getElem? (i := 675) (by decide +kernel)) rfl
theorem wd_635 : (Jvm.Cond.methodLink "PromiseScopes$ScopeTree" (39 : Nat) ({ cls := "PromiseScopes$Scope", name := "<init>", desc := "(ILPromiseScopes$Scope;IILPromiseScopes$Stage;)V" } : Jvm.MethodName)) ∈ ps_T := ps_in (List.mem_of_getElem? (i := 676) (by decide +kernel)) rfl
theorem wd_636 : (Jvm.Cond.instanceMethod ({ cls := "PromiseScopes$Scope", name := "<init>", desc := "(ILPromiseScopes$Scope;IILPromiseScopes$Stage;)V" } : Jvm.MethodName)) ∈ ps_T := ps_in (List.mem_of_getElem? (i := 677) (by decide +kernel)) rfl
set_option maxRecDepth 20000 in
theorem wd_637 : (Jvm.Cond.code ({ cls := "PromiseScopes$Scope", name := "<init>", desc := "(ILPromiseScopes$Scope;IILPromiseScopes$Stage;)V" } : Jvm.MethodName) prog_3_method_1_code (6 : Nat) (Option.none : Option Jvm.ClassFile.FieldType)) ∈ ps_T := ps_in (List.mem_of_getElem? (i := 678) rfl) rfl
theorem wd_638 : (Jvm.Cond.methodLink "PromiseScopes$Scope" (3 : Nat) ({ cls := "java/lang/Object", name := "<init>", desc := "()V" } : Jvm.MethodName)) ∈ ps_T := ps_in (List.mem_of_getElem? (i := 679) (by decide +kernel)) rfl
theorem wd_639 : (Jvm.Cond.fieldLink "PromiseScopes$Scope" (9 : Nat) "PromiseScopes$Scope" "number" "I") ∈ ps_T := ps_in (List.mem_of_getElem? (i := 680) (by decide +kernel)) rfl
theorem wd_640 : (Jvm.Cond.fieldLink "PromiseScopes" (223 : Nat) "PromiseScopes$Scope" "number" "I") ∈ ps_T := ps_in (List.mem_of_getElem? (i := 681) (by decide +kernel)) rfl
theorem wd_641 : (Jvm.Cond.fieldLink "PromiseScopes$Scope" (15 : Nat) "PromiseScopes$Scope" "parent" "LPromiseScopes$Scope;") ∈ ps_T := ps_in (List.mem_of_getElem? (i := 682) (by decide +kernel)) rfl
theorem wd_642 : (Jvm.Cond.fieldLink "PromiseScopes$Scope" (19 : Nat) "PromiseScopes$Scope" "policy" "I") ∈ ps_T := ps_in (List.mem_of_getElem? (i := 683) (by decide +kernel)) rfl
theorem wd_643 : (Jvm.Cond.fieldLink "PromiseScopes$ScopeTree" (136 : Nat) "PromiseScopes$Scope" "policy" "I") ∈ ps_T := ps_in (List.mem_of_getElem? (i := 684) (by decide +kernel)) rfl
theorem wd_644 : (Jvm.Cond.fieldLink "PromiseScopes$Scope" (22 : Nat) "PromiseScopes$Scope" "deadline" "I") ∈ ps_T := ps_in (List.mem_of_getElem? (i := 685) (by decide +kernel)) rfl
theorem wd_645 : (Jvm.Cond.fieldLink "PromiseScopes" (194 : Nat) "PromiseScopes$Scope" "deadline" "I") ∈ ps_T := ps_in (List.mem_of_getElem? (i := 686) (by decide +kernel)) rfl
theorem wd_646 : (Jvm.Cond.fieldLink "PromiseScopes$Scope" (25 : Nat) "PromiseScopes$Scope" "result" "LPromiseScopes$Stage;") ∈ ps_T := ps_in (List.mem_of_getElem? (i := 687) (by decide +kernel)) rfl
theorem wd_647 : (Jvm.Cond.fieldLink "PromiseScopes$ScopeTree" (109 : Nat) "PromiseScopes$Scope" "result" "LPromiseScopes$Stage;") ∈ ps_T := ps_in (List.mem_of_getElem? (i := 688) (by decide +kernel)) rfl
theorem wd_648 : (Jvm.Cond.fieldLink "PromiseScopes" (190 : Nat) "PromiseScopes$Scope" "result" "LPromiseScopes$Stage;") ∈ ps_T := ps_in (List.mem_of_getElem? (i := 689) (by decide +kernel)) rfl
theorem wd_649 : (Jvm.Cond.fieldLink "PromiseScopes$Scope" (29 : Nat) "PromiseScopes$Scope" "values" "[I") ∈ ps_T := ps_in (List.mem_of_getElem? (i := 690) (by decide +kernel)) rfl
theorem wd_650 : (Jvm.Cond.fieldLink "PromiseScopes$Scope" (33 : Nat) "PromiseScopes$Scope" "binds" "[Z") ∈ ps_T := ps_in (List.mem_of_getElem? (i := 691) (by decide +kernel)) rfl
theorem wd_651 : (Jvm.Cond.fieldLink "PromiseScopes$Scope" (37 : Nat) "PromiseScopes$Scope" "state" "I") ∈ ps_T := ps_in (List.mem_of_getElem? (i := 692) (by decide +kernel)) rfl
theorem wd_652 : (Jvm.Cond.fieldLink "PromiseScopes$ScopeTree" (32 : Nat) "PromiseScopes$Scope" "state" "I") ∈ ps_T := ps_in (List.mem_of_getElem? (i := 693) (by decide +kernel)) rfl
theorem wd_653 : (Jvm.Cond.fieldLink "PromiseScopes" (178 : Nat) "PromiseScopes$Scope" "state" "I") ∈ ps_T := ps_in (List.mem_of_getElem? (i := 694) (by decide +kernel)) rfl
theorem wd_654 : (Jvm.Cond.fieldLink "PromiseScopes$Task" (26 : Nat) "PromiseScopes$Scope" "stopped" "Z") ∈ ps_T := ps_in (List.mem_of_getElem? (i := 695) (by decide +kernel)) rfl
theorem wd_655 : (Jvm.Cond.fieldLink "PromiseScopes$ScopeTree" (58 : Nat) "PromiseScopes$Scope" "stopped" "Z") ∈ ps_T := ps_in (List.mem_of_getElem? (i := 696) (by decide +kernel)) rfl
theorem wd_656 : (Jvm.Cond.fieldLink "PromiseScopes" (201 : Nat) "PromiseScopes$Scope" "stopped" "Z") ∈ ps_T := ps_in (List.mem_of_getElem? (i := 697) (by decide +kernel)) rfl
theorem wd_657 : (Jvm.Cond.fieldLink "PromiseScopes$ScopeTree" (83 : Nat) "PromiseScopes$Scope" "late" "Z") ∈ ps_T := ps_in (List.mem_of_getElem? (i := 698) (by decide +kernel)) rfl
theorem wd_658 : (Jvm.Cond.fieldLink "PromiseScopes" (205 : Nat) "PromiseScopes$Scope" "late" "Z") ∈ ps_T := ps_in (List.mem_of_getElem? (i := 699) (by decide +kernel)) rfl
theorem wd_659 : (Jvm.Cond.laysFinal "PromiseScopes$Scope" "PromiseScopes$Scope" "number" "I") ∈ ps_T := ps_in (List.mem_of_getElem? (i := 700) (by decide +kernel)) rfl
theorem wd_661 : (Jvm.Cond.laysFinal "PromiseScopes$Scope" "PromiseScopes$Scope" "parent" "LPromiseScopes$Scope;") ∈ ps_T := ps_in (List.mem_of_getElem? (i := 702) (by decide +kernel)) rfl
theorem wd_663 : (Jvm.Cond.laysFinal "PromiseScopes$Scope" "PromiseScopes$Scope" "policy" "I") ∈ ps_T := ps_in (List.mem_of_getElem? (i := 704) (by decide +kernel)) rfl
theorem wd_665 : (Jvm.Cond.laysFinal "PromiseScopes$Scope" "PromiseScopes$Scope" "deadline" "I") ∈ ps_T := ps_in (List.mem_of_getElem? (i := 706) (by decide +kernel)) rfl
theorem wd_667 : (Jvm.Cond.laysFinal "PromiseScopes$Scope" "PromiseScopes$Scope" "result" "LPromiseScopes$Stage;") ∈ ps_T := ps_in (List.mem_of_getElem? (i := 708) (by decide +kernel)) rfl
theorem wd_669 : (Jvm.Cond.laysFinal "PromiseScopes$Scope" "PromiseScopes$Scope" "values" "[I") ∈ ps_T := ps_in (List.mem_of_getElem? (i := 710) (by decide +kernel)) rfl
theorem wd_671 : (Jvm.Cond.laysFinal "PromiseScopes$Scope" "PromiseScopes$Scope" "binds" "[Z") ∈ ps_T := ps_in (List.mem_of_getElem? (i := 712) (by decide +kernel)) rfl
theorem wd_673 : (Jvm.Cond.lays "PromiseScopes$Scope" "PromiseScopes$Scope" "state" "I") ∈ ps_T := ps_in (List.mem_of_getElem? (i := 714) (by decide +kernel)) rfl
theorem wd_675 : (Jvm.Cond.lays "PromiseScopes$Scope" "PromiseScopes$Scope" "stopped" "Z") ∈ ps_T := ps_in (List.mem_of_getElem? (i := 716) (by decide +kernel)) rfl
theorem wd_677 : (Jvm.Cond.lays "PromiseScopes$Scope" "PromiseScopes$Scope" "late" "Z") ∈ ps_T := ps_in (List.mem_of_getElem? (i := 718) (by decide +kernel)) rfl
theorem wd_680 : (Jvm.Cond.arrayClass Jvm.ClassFile.FieldType.int) ∈ ps_T := ps_in (List.mem_of_getElem? (i := 721) (by decide +kernel)) rfl
theorem wd_681 : (Jvm.Cond.arrayClass Jvm.ClassFile.FieldType.boolean) ∈ ps_T := ps_in (List.mem_of_getElem? (i := 722) (by decide +kernel)) rfl
theorem wd_682 : (Jvm.Cond.methodLink "PromiseScopesLaw" (113 : Nat) ({ cls := "PromiseScopesLaw", name := "fork", desc := "(LPromiseScopes;IIII[J)I" } : Jvm.MethodName)) ∈ ps_T := ps_in (List.mem_of_getElem? (i := 723) (by decide +kernel)) rfl
theorem wd_683 : (Jvm.Cond.static ({ cls := "PromiseScopesLaw", name := "fork", desc := "(LPromiseScopes;IIII[J)I" } : Jvm.MethodName)) ∈ ps_T := ps_in (List.mem_of_getElem? (i := 724) (by decide +kernel)) rfl
theorem wd_685 : (Jvm.Cond.methodLink "PromiseScopesLaw" (39 : Nat) ({ cls := "PromiseScopes", name := "fork", desc := "(IIII)I" } : Jvm.MethodName)) ∈ ps_T := ps_in (List.mem_of_getElem? (i := 726) (by decide +kernel)) rfl
theorem wd_686 : (Jvm.Cond.instanceMethod ({ cls := "PromiseScopes", name := "fork", desc := "(IIII)I" } : Jvm.MethodName)) ∈ ps_T := ps_in (List.mem_of_getElem? (i := 727) (by decide +kernel)) rfl
theorem wd_687 : (Jvm.Cond.selects "PromiseScopes" ({ cls := "PromiseScopes", name := "fork", desc := "(IIII)I" } : Jvm.MethodName) ({ cls := "PromiseScopes", name := "fork", desc := "(IIII)I" } : Jvm.MethodName)) ∈ ps_T := ps_in (List.mem_of_getElem? (i := 728) (by decide +kernel)) rfl
set_option maxRecDepth 20000 in
theorem wd_688 : (Jvm.Cond.code ({ cls := "PromiseScopes", name := "fork", desc := "(IIII)I" } : Jvm.MethodName) prog_1_method_15_code (6 : Nat) (Option.some Jvm.ClassFile.FieldType.int)) ∈ ps_T := ps_in (List.mem_of_getElem? (i := 729) rfl) rfl
theorem wd_689 : (Jvm.Cond.methodLink "PromiseScopes" (158 : Nat) ({ cls := "PromiseScopes$Task", name := "isCost", desc := "(I)Z" } : Jvm.MethodName)) ∈ ps_T := ps_in (List.mem_of_getElem? (i := 730) (by decide +kernel)) rfl
theorem wd_690 : (Jvm.Cond.static ({ cls := "PromiseScopes$Task", name := "isCost", desc := "(I)Z" } : Jvm.MethodName)) ∈ ps_T := ps_in (List.mem_of_getElem? (i := 731) (by decide +kernel)) rfl
set_option maxRecDepth 20000 in
theorem wd_691 : (Jvm.Cond.code ({ cls := "PromiseScopes$Task", name := "isCost", desc := "(I)Z" } : Jvm.MethodName) prog_8_method_2_code (1 : Nat) (Option.some Jvm.ClassFile.FieldType.boolean)) ∈ ps_T := ps_in (List.mem_of_getElem? (i := 732) rfl) rfl
theorem wd_693 : (Jvm.Cond.methodLink "PromiseScopes" (165 : Nat) ({ cls := "PromiseScopes$ScopeTree", name := "isFullOfTasks", desc := "()Z" } : Jvm.MethodName)) ∈ ps_T := ps_in (List.mem_of_getElem? (i := 734) (by decide +kernel)) rfl
theorem wd_694 : (Jvm.Cond.instanceMethod ({ cls := "PromiseScopes$ScopeTree", name := "isFullOfTasks", desc := "()Z" } : Jvm.MethodName)) ∈ ps_T := ps_in (List.mem_of_getElem? (i := 735) (by decide +kernel)) rfl
theorem wd_695 : (Jvm.Cond.selects "PromiseScopes$ScopeTree" ({ cls := "PromiseScopes$ScopeTree", name := "isFullOfTasks", desc := "()Z" } : Jvm.MethodName) ({ cls := "PromiseScopes$ScopeTree", name := "isFullOfTasks", desc := "()Z" } : Jvm.MethodName)) ∈ ps_T := ps_in (List.mem_of_getElem? (i := 736) (by decide +kernel)) rfl
set_option maxRecDepth 20000 in
theorem wd_696 : (Jvm.Cond.code ({ cls := "PromiseScopes$ScopeTree", name := "isFullOfTasks", desc := "()Z" } : Jvm.MethodName) prog_4_method_3_code (1 : Nat) (Option.some Jvm.ClassFile.FieldType.boolean)) ∈ ps_T := ps_in (List.mem_of_getElem? (i := 737) rfl) rfl
theorem wd_698 : (Jvm.Cond.methodLink "PromiseScopes" (170 : Nat) ({ cls := "PromiseScopes$ScopeTree", name := "addTask", desc := "(LPromiseScopes$Scope;III)I" } : Jvm.MethodName)) ∈ ps_T := ps_in (List.mem_of_getElem? (i := 739) (by decide +kernel)) rfl
theorem wd_699 : (Jvm.Cond.instanceMethod ({ cls := "PromiseScopes$ScopeTree", name := "addTask", desc := "(LPromiseScopes$Scope;III)I" } : Jvm.MethodName)) ∈ ps_T := ps_in (List.mem_of_getElem? (i := 740) (by decide +kernel)) rfl
theorem wd_700 : (Jvm.Cond.selects "PromiseScopes$ScopeTree" ({ cls := "PromiseScopes$ScopeTree", name := "addTask", desc := "(LPromiseScopes$Scope;III)I" } : Jvm.MethodName) ({ cls := "PromiseScopes$ScopeTree", name := "addTask", desc := "(LPromiseScopes$Scope;III)I" } : Jvm.MethodName)) ∈ ps_T := ps_in (List.mem_of_getElem? (i := 741) (by decide +kernel)) rfl
set_option maxRecDepth 20000 in
theorem wd_701 : (Jvm.Cond.code ({ cls := "PromiseScopes$ScopeTree", name := "addTask", desc := "(LPromiseScopes$Scope;III)I" } : Jvm.MethodName) prog_4_method_8_code (5 : Nat) (Option.some Jvm.ClassFile.FieldType.int)) ∈ ps_T := ps_in (List.mem_of_getElem? (i := 742) rfl) rfl
theorem wd_702 : (Jvm.Cond.instantiable "PromiseScopes$Task" (9 : Nat)) ∈ ps_T := ps_in (List.mem_of_getElem? (i := 743) (by decide +kernel)) rfl
theorem wd_703 : (Jvm.Cond.methodLink "PromiseScopes$ScopeTree" (42 : Nat) ({ cls := "PromiseScopes$Scope", name := "lookUp", desc := "(I)I" } : Jvm.MethodName)) ∈ ps_T := ps_in (List.mem_of_getElem? (i := 744) (by decide +kernel)) rfl
theorem wd_704 : (Jvm.Cond.instanceMethod ({ cls := "PromiseScopes$Scope", name := "lookUp", desc := "(I)I" } : Jvm.MethodName)) ∈ ps_T := ps_in (List.mem_of_getElem? (i := 745) (by decide +kernel)) rfl
theorem wd_705 : (Jvm.Cond.selects "PromiseScopes$Scope" ({ cls := "PromiseScopes$Scope", name := "lookUp", desc := "(I)I" } : Jvm.MethodName) ({ cls := "PromiseScopes$Scope", name := "lookUp", desc := "(I)I" } : Jvm.MethodName)) ∈ ps_T := ps_in (List.mem_of_getElem? (i := 746) (by decide +kernel)) rfl
set_option maxRecDepth 20000 in
theorem wd_706 : (Jvm.Cond.code ({ cls := "PromiseScopes$Scope", name := "lookUp", desc := "(I)I" } : Jvm.MethodName) prog_3_method_5_code (3 : Nat) (Option.some Jvm.ClassFile.FieldType.int)) ∈ ps_T := ps_in (List.mem_of_getElem? (i := 747) rfl) rfl
theorem wd_707 : (Jvm.Cond.methodLink "PromiseScopes$ScopeTree" (46 : Nat) ({ cls := "PromiseScopes$Task", name := "<init>", desc := "(LPromiseScopes$Scope;IIII)V" } : Jvm.MethodName)) ∈ ps_T := ps_in (List.mem_of_getElem? (i := 748) (by decide +kernel)) rfl
theorem wd_708 : (Jvm.Cond.instanceMethod ({ cls := "PromiseScopes$Task", name := "<init>", desc := "(LPromiseScopes$Scope;IIII)V" } : Jvm.MethodName)) ∈ ps_T := ps_in (List.mem_of_getElem? (i := 749) (by decide +kernel)) rfl
set_option maxRecDepth 20000 in
theorem wd_709 : (Jvm.Cond.code ({ cls := "PromiseScopes$Task", name := "<init>", desc := "(LPromiseScopes$Scope;IIII)V" } : Jvm.MethodName) prog_8_method_1_code (6 : Nat) (Option.none : Option Jvm.ClassFile.FieldType)) ∈ ps_T := ps_in (List.mem_of_getElem? (i := 750) rfl) rfl
theorem wd_710 : (Jvm.Cond.methodLink "PromiseScopes$Task" (1 : Nat) ({ cls := "java/lang/Object", name := "<init>", desc := "()V" } : Jvm.MethodName)) ∈ ps_T := ps_in (List.mem_of_getElem? (i := 751) (by decide +kernel)) rfl
theorem wd_711 : (Jvm.Cond.fieldLink "PromiseScopes$Task" (7 : Nat) "PromiseScopes$Task" "owner" "LPromiseScopes$Scope;") ∈ ps_T := ps_in (List.mem_of_getElem? (i := 752) (by decide +kernel)) rfl
theorem wd_712 : (Jvm.Cond.fieldLink "PromiseScopes$ScopeTree" (49 : Nat) "PromiseScopes$Task" "owner" "LPromiseScopes$Scope;") ∈ ps_T := ps_in (List.mem_of_getElem? (i := 753) (by decide +kernel)) rfl
theorem wd_713 : (Jvm.Cond.fieldLink "PromiseScopes" (219 : Nat) "PromiseScopes$Task" "owner" "LPromiseScopes$Scope;") ∈ ps_T := ps_in (List.mem_of_getElem? (i := 754) (by decide +kernel)) rfl
theorem wd_714 : (Jvm.Cond.fieldLink "PromiseScopes$Task" (13 : Nat) "PromiseScopes$Task" "cost" "I") ∈ ps_T := ps_in (List.mem_of_getElem? (i := 755) (by decide +kernel)) rfl
theorem wd_715 : (Jvm.Cond.fieldLink "PromiseScopes$Task" (17 : Nat) "PromiseScopes$Task" "function" "I") ∈ ps_T := ps_in (List.mem_of_getElem? (i := 756) (by decide +kernel)) rfl
theorem wd_716 : (Jvm.Cond.fieldLink "PromiseScopes$Task" (20 : Nat) "PromiseScopes$Task" "a" "I") ∈ ps_T := ps_in (List.mem_of_getElem? (i := 757) (by decide +kernel)) rfl
theorem wd_717 : (Jvm.Cond.fieldLink "PromiseScopes$Task" (23 : Nat) "PromiseScopes$Task" "x" "I") ∈ ps_T := ps_in (List.mem_of_getElem? (i := 758) (by decide +kernel)) rfl
theorem wd_718 : (Jvm.Cond.fieldLink "PromiseScopes$Task" (32 : Nat) "PromiseScopes$Task" "state" "I") ∈ ps_T := ps_in (List.mem_of_getElem? (i := 759) (by decide +kernel)) rfl
theorem wd_719 : (Jvm.Cond.fieldLink "PromiseScopes$Scope" (46 : Nat) "PromiseScopes$Task" "state" "I") ∈ ps_T := ps_in (List.mem_of_getElem? (i := 760) (by decide +kernel)) rfl
theorem wd_720 : (Jvm.Cond.fieldLink "PromiseScopes$ScopeTree" (53 : Nat) "PromiseScopes$Task" "state" "I") ∈ ps_T := ps_in (List.mem_of_getElem? (i := 761) (by decide +kernel)) rfl
theorem wd_721 : (Jvm.Cond.fieldLink "PromiseScopes" (218 : Nat) "PromiseScopes$Task" "state" "I") ∈ ps_T := ps_in (List.mem_of_getElem? (i := 762) (by decide +kernel)) rfl
theorem wd_722 : (Jvm.Cond.fieldLink "PromiseScopes$Task" (35 : Nat) "PromiseScopes$Task" "worked" "I") ∈ ps_T := ps_in (List.mem_of_getElem? (i := 763) (by decide +kernel)) rfl
theorem wd_723 : (Jvm.Cond.fieldLink "PromiseScopes" (224 : Nat) "PromiseScopes$Task" "worked" "I") ∈ ps_T := ps_in (List.mem_of_getElem? (i := 764) (by decide +kernel)) rfl
theorem wd_724 : (Jvm.Cond.fieldLink "PromiseScopes$Task" (47 : Nat) "PromiseScopes$Task" "content" "I") ∈ ps_T := ps_in (List.mem_of_getElem? (i := 765) (by decide +kernel)) rfl
theorem wd_725 : (Jvm.Cond.fieldLink "PromiseScopes$ScopeTree" (133 : Nat) "PromiseScopes$Task" "content" "I") ∈ ps_T := ps_in (List.mem_of_getElem? (i := 766) (by decide +kernel)) rfl
theorem wd_726 : (Jvm.Cond.fieldLink "PromiseScopes" (227 : Nat) "PromiseScopes$Task" "content" "I") ∈ ps_T := ps_in (List.mem_of_getElem? (i := 767) (by decide +kernel)) rfl
theorem wd_727 : (Jvm.Cond.fieldLink "PromiseScopes$ScopeTree" (92 : Nat) "PromiseScopes$Task" "turn" "I") ∈ ps_T := ps_in (List.mem_of_getElem? (i := 768) (by decide +kernel)) rfl
theorem wd_728 : (Jvm.Cond.laysFinal "PromiseScopes$Task" "PromiseScopes$Task" "owner" "LPromiseScopes$Scope;") ∈ ps_T := ps_in (List.mem_of_getElem? (i := 769) (by decide +kernel)) rfl
theorem wd_730 : (Jvm.Cond.laysFinal "PromiseScopes$Task" "PromiseScopes$Task" "cost" "I") ∈ ps_T := ps_in (List.mem_of_getElem? (i := 771) (by decide +kernel)) rfl
theorem wd_732 : (Jvm.Cond.laysFinal "PromiseScopes$Task" "PromiseScopes$Task" "function" "I") ∈ ps_T := ps_in (List.mem_of_getElem? (i := 773) (by decide +kernel)) rfl
theorem wd_734 : (Jvm.Cond.laysFinal "PromiseScopes$Task" "PromiseScopes$Task" "a" "I") ∈ ps_T := ps_in (List.mem_of_getElem? (i := 775) (by decide +kernel)) rfl
theorem wd_736 : (Jvm.Cond.laysFinal "PromiseScopes$Task" "PromiseScopes$Task" "x" "I") ∈ ps_T := ps_in (List.mem_of_getElem? (i := 777) (by decide +kernel)) rfl
theorem wd_738 : (Jvm.Cond.lays "PromiseScopes$Task" "PromiseScopes$Task" "state" "I") ∈ ps_T := ps_in (List.mem_of_getElem? (i := 779) (by decide +kernel)) rfl
theorem wd_740 : (Jvm.Cond.lays "PromiseScopes$Task" "PromiseScopes$Task" "worked" "I") ∈ ps_T := ps_in (List.mem_of_getElem? (i := 781) (by decide +kernel)) rfl
theorem wd_742 : (Jvm.Cond.lays "PromiseScopes$Task" "PromiseScopes$Task" "content" "I") ∈ ps_T := ps_in (List.mem_of_getElem? (i := 783) (by decide +kernel)) rfl
theorem wd_744 : (Jvm.Cond.lays "PromiseScopes$Task" "PromiseScopes$Task" "turn" "I") ∈ ps_T := ps_in (List.mem_of_getElem? (i := 785) (by decide +kernel)) rfl
theorem wd_747 : (Jvm.Cond.methodLink "PromiseScopesLaw" (133 : Nat) ({ cls := "PromiseScopesLaw", name := "bound", desc := "(LPromiseScopes;II[J)I" } : Jvm.MethodName)) ∈ ps_T := ps_in (List.mem_of_getElem? (i := 788) (by decide +kernel)) rfl
theorem wd_748 : (Jvm.Cond.static ({ cls := "PromiseScopesLaw", name := "bound", desc := "(LPromiseScopes;II[J)I" } : Jvm.MethodName)) ∈ ps_T := ps_in (List.mem_of_getElem? (i := 789) (by decide +kernel)) rfl
theorem wd_750 : (Jvm.Cond.methodLink "PromiseScopesLaw" (43 : Nat) ({ cls := "PromiseScopes", name := "bound", desc := "(II)I" } : Jvm.MethodName)) ∈ ps_T := ps_in (List.mem_of_getElem? (i := 791) (by decide +kernel)) rfl
theorem wd_751 : (Jvm.Cond.instanceMethod ({ cls := "PromiseScopes", name := "bound", desc := "(II)I" } : Jvm.MethodName)) ∈ ps_T := ps_in (List.mem_of_getElem? (i := 792) (by decide +kernel)) rfl
theorem wd_752 : (Jvm.Cond.selects "PromiseScopes" ({ cls := "PromiseScopes", name := "bound", desc := "(II)I" } : Jvm.MethodName) ({ cls := "PromiseScopes", name := "bound", desc := "(II)I" } : Jvm.MethodName)) ∈ ps_T := ps_in (List.mem_of_getElem? (i := 793) (by decide +kernel)) rfl
set_option maxRecDepth 20000 in
theorem wd_753 : (Jvm.Cond.code ({ cls := "PromiseScopes", name := "bound", desc := "(II)I" } : Jvm.MethodName) prog_1_method_20_code (4 : Nat) (Option.some Jvm.ClassFile.FieldType.int)) ∈ ps_T := ps_in (List.mem_of_getElem? (i := 794) rfl) rfl
theorem wd_755 : (Jvm.Cond.methodLink "PromiseScopes" (210 : Nat) ({ cls := "PromiseScopes$Scope", name := "lookUp", desc := "(I)I" } : Jvm.MethodName)) ∈ ps_T := ps_in (List.mem_of_getElem? (i := 796) (by decide +kernel)) rfl
theorem wd_756 : (Jvm.Cond.classLink "PromiseScopesLaw" (48 : Nat) "PromiseScopesModel") ∈ ps_T := ps_in (List.mem_of_getElem? (i := 797) (by decide +kernel)) rfl
theorem wd_757 : (Jvm.Cond.instantiable "PromiseScopesModel" (44 : Nat)) ∈ ps_T := ps_in (List.mem_of_getElem? (i := 798) (by decide +kernel)) rfl
theorem wd_758 : (Jvm.Cond.methodLink "PromiseScopesLaw" (50 : Nat) ({ cls := "PromiseScopesModel", name := "<init>", desc := "()V" } : Jvm.MethodName)) ∈ ps_T := ps_in (List.mem_of_getElem? (i := 799) (by decide +kernel)) rfl
theorem wd_759 : (Jvm.Cond.instanceMethod ({ cls := "PromiseScopesModel", name := "<init>", desc := "()V" } : Jvm.MethodName)) ∈ ps_T := ps_in (List.mem_of_getElem? (i := 800) (by decide +kernel)) rfl
set_option maxRecDepth 20000 in
theorem wd_760 : (Jvm.Cond.code ({ cls := "PromiseScopesModel", name := "<init>", desc := "()V" } : Jvm.MethodName) prog_10_method_1_code (1 : Nat) (Option.none : Option Jvm.ClassFile.FieldType)) ∈ ps_T := ps_in (List.mem_of_getElem? (i := 801) rfl) rfl
theorem wd_761 : (Jvm.Cond.methodLink "PromiseScopesModel" (1 : Nat) ({ cls := "java/lang/Object", name := "<init>", desc := "()V" } : Jvm.MethodName)) ∈ ps_T := ps_in (List.mem_of_getElem? (i := 802) (by decide +kernel)) rfl
theorem wd_762 : (Jvm.Cond.fieldLink "PromiseScopesModel" (111 : Nat) "PromiseScopesModel" "thrown" "I") ∈ ps_T := ps_in (List.mem_of_getElem? (i := 803) (by decide +kernel)) rfl
theorem wd_763 : (Jvm.Cond.fieldLink "PromiseScopesModel" (121 : Nat) "PromiseScopesModel" "stages" "I") ∈ ps_T := ps_in (List.mem_of_getElem? (i := 804) (by decide +kernel)) rfl
theorem wd_764 : (Jvm.Cond.fieldLink "PromiseScopesModel" (7 : Nat) "PromiseScopesModel" "state" "[I") ∈ ps_T := ps_in (List.mem_of_getElem? (i := 805) (by decide +kernel)) rfl
theorem wd_765 : (Jvm.Cond.fieldLink "PromiseScopesModel" (13 : Nat) "PromiseScopesModel" "value" "[I") ∈ ps_T := ps_in (List.mem_of_getElem? (i := 806) (by decide +kernel)) rfl
theorem wd_766 : (Jvm.Cond.fieldLink "PromiseScopesModel" (16 : Nat) "PromiseScopesModel" "came" "[I") ∈ ps_T := ps_in (List.mem_of_getElem? (i := 807) (by decide +kernel)) rfl
theorem wd_767 : (Jvm.Cond.fieldLink "PromiseScopesModel" (141 : Nat) "PromiseScopesModel" "clock" "I") ∈ ps_T := ps_in (List.mem_of_getElem? (i := 808) (by decide +kernel)) rfl
theorem wd_768 : (Jvm.Cond.fieldLink "PromiseScopesModel" (19 : Nat) "PromiseScopesModel" "kind" "[I") ∈ ps_T := ps_in (List.mem_of_getElem? (i := 809) (by decide +kernel)) rfl
theorem wd_769 : (Jvm.Cond.fieldLink "PromiseScopesModel" (22 : Nat) "PromiseScopesModel" "function" "[I") ∈ ps_T := ps_in (List.mem_of_getElem? (i := 810) (by decide +kernel)) rfl
theorem wd_770 : (Jvm.Cond.fieldLink "PromiseScopesModel" (25 : Nat) "PromiseScopesModel" "number" "[I") ∈ ps_T := ps_in (List.mem_of_getElem? (i := 811) (by decide +kernel)) rfl
theorem wd_771 : (Jvm.Cond.fieldLink "PromiseScopesModel" (28 : Nat) "PromiseScopesModel" "first" "[I") ∈ ps_T := ps_in (List.mem_of_getElem? (i := 812) (by decide +kernel)) rfl
theorem wd_772 : (Jvm.Cond.fieldLink "PromiseScopesModel" (31 : Nat) "PromiseScopesModel" "second" "[I") ∈ ps_T := ps_in (List.mem_of_getElem? (i := 813) (by decide +kernel)) rfl
theorem wd_773 : (Jvm.Cond.fieldLink "PromiseScopesModel" (34 : Nat) "PromiseScopesModel" "inputs" "[J") ∈ ps_T := ps_in (List.mem_of_getElem? (i := 814) (by decide +kernel)) rfl
theorem wd_774 : (Jvm.Cond.fieldLink "PromiseScopesModel" (38 : Nat) "PromiseScopesModel" "apart" "[Z") ∈ ps_T := ps_in (List.mem_of_getElem? (i := 815) (by decide +kernel)) rfl
theorem wd_775 : (Jvm.Cond.fieldLink "PromiseScopesModel" (42 : Nat) "PromiseScopesModel" "awaits" "[I") ∈ ps_T := ps_in (List.mem_of_getElem? (i := 816) (by decide +kernel)) rfl
theorem wd_776 : (Jvm.Cond.fieldLink "PromiseScopesModel" (45 : Nat) "PromiseScopesModel" "queued" "[Z") ∈ ps_T := ps_in (List.mem_of_getElem? (i := 817) (by decide +kernel)) rfl
theorem wd_777 : (Jvm.Cond.fieldLink "PromiseScopesModel" (175 : Nat) "PromiseScopesModel" "lineFrom" "I") ∈ ps_T := ps_in (List.mem_of_getElem? (i := 818) (by decide +kernel)) rfl
theorem wd_778 : (Jvm.Cond.fieldLink "PromiseScopesModel" (138 : Nat) "PromiseScopesModel" "lineTo" "I") ∈ ps_T := ps_in (List.mem_of_getElem? (i := 819) (by decide +kernel)) rfl
theorem wd_779 : (Jvm.Cond.fieldLink "PromiseScopesModel" (48 : Nat) "PromiseScopesModel" "line" "[I") ∈ ps_T := ps_in (List.mem_of_getElem? (i := 820) (by decide +kernel)) rfl
theorem wd_780 : (Jvm.Cond.fieldLink "PromiseScopesModel" (135 : Nat) "PromiseScopesModel" "pooled" "I") ∈ ps_T := ps_in (List.mem_of_getElem? (i := 821) (by decide +kernel)) rfl
theorem wd_781 : (Jvm.Cond.fieldLink "PromiseScopesModel" (51 : Nat) "PromiseScopesModel" "pool" "[I") ∈ ps_T := ps_in (List.mem_of_getElem? (i := 822) (by decide +kernel)) rfl
theorem wd_782 : (Jvm.Cond.fieldLink "PromiseScopesModel" (118 : Nat) "PromiseScopesModel" "made" "I") ∈ ps_T := ps_in (List.mem_of_getElem? (i := 823) (by decide +kernel)) rfl
theorem wd_783 : (Jvm.Cond.fieldLink "PromiseScopesModel" (115 : Nat) "PromiseScopesModel" "threw" "I") ∈ ps_T := ps_in (List.mem_of_getElem? (i := 824) (by decide +kernel)) rfl
theorem wd_784 : (Jvm.Cond.fieldLink "PromiseScopesModel" (192 : Nat) "PromiseScopesModel" "scopes" "I") ∈ ps_T := ps_in (List.mem_of_getElem? (i := 825) (by decide +kernel)) rfl
theorem wd_785 : (Jvm.Cond.fieldLink "PromiseScopesModel" (54 : Nat) "PromiseScopesModel" "parent" "[I") ∈ ps_T := ps_in (List.mem_of_getElem? (i := 826) (by decide +kernel)) rfl
theorem wd_786 : (Jvm.Cond.fieldLink "PromiseScopesModel" (57 : Nat) "PromiseScopesModel" "policy" "[I") ∈ ps_T := ps_in (List.mem_of_getElem? (i := 827) (by decide +kernel)) rfl
theorem wd_787 : (Jvm.Cond.fieldLink "PromiseScopesModel" (60 : Nat) "PromiseScopesModel" "deadline" "[I") ∈ ps_T := ps_in (List.mem_of_getElem? (i := 828) (by decide +kernel)) rfl
theorem wd_788 : (Jvm.Cond.fieldLink "PromiseScopesModel" (63 : Nat) "PromiseScopesModel" "mode" "[I") ∈ ps_T := ps_in (List.mem_of_getElem? (i := 829) (by decide +kernel)) rfl
theorem wd_789 : (Jvm.Cond.fieldLink "PromiseScopesModel" (66 : Nat) "PromiseScopesModel" "result" "[I") ∈ ps_T := ps_in (List.mem_of_getElem? (i := 830) (by decide +kernel)) rfl
theorem wd_790 : (Jvm.Cond.fieldLink "PromiseScopesModel" (69 : Nat) "PromiseScopesModel" "stopped" "[Z") ∈ ps_T := ps_in (List.mem_of_getElem? (i := 831) (by decide +kernel)) rfl
theorem wd_791 : (Jvm.Cond.fieldLink "PromiseScopesModel" (72 : Nat) "PromiseScopesModel" "late" "[Z") ∈ ps_T := ps_in (List.mem_of_getElem? (i := 832) (by decide +kernel)) rfl
theorem wd_792 : (Jvm.Cond.fieldLink "PromiseScopesModel" (75 : Nat) "PromiseScopesModel" "firstDone" "[I") ∈ ps_T := ps_in (List.mem_of_getElem? (i := 833) (by decide +kernel)) rfl
theorem wd_793 : (Jvm.Cond.fieldLink "PromiseScopesModel" (78 : Nat) "PromiseScopesModel" "firstFailed" "[I") ∈ ps_T := ps_in (List.mem_of_getElem? (i := 834) (by decide +kernel)) rfl
theorem wd_794 : (Jvm.Cond.fieldLink "PromiseScopesModel" (81 : Nat) "PromiseScopesModel" "binds" "[Z") ∈ ps_T := ps_in (List.mem_of_getElem? (i := 835) (by decide +kernel)) rfl
theorem wd_795 : (Jvm.Cond.fieldLink "PromiseScopesModel" (84 : Nat) "PromiseScopesModel" "bound" "[I") ∈ ps_T := ps_in (List.mem_of_getElem? (i := 836) (by decide +kernel)) rfl
theorem wd_796 : (Jvm.Cond.fieldLink "PromiseScopesModel" (198 : Nat) "PromiseScopesModel" "time" "I") ∈ ps_T := ps_in (List.mem_of_getElem? (i := 837) (by decide +kernel)) rfl
theorem wd_797 : (Jvm.Cond.fieldLink "PromiseScopesModel" (195 : Nat) "PromiseScopesModel" "tasks" "I") ∈ ps_T := ps_in (List.mem_of_getElem? (i := 838) (by decide +kernel)) rfl
theorem wd_798 : (Jvm.Cond.fieldLink "PromiseScopesModel" (87 : Nat) "PromiseScopesModel" "home" "[I") ∈ ps_T := ps_in (List.mem_of_getElem? (i := 839) (by decide +kernel)) rfl
theorem wd_799 : (Jvm.Cond.fieldLink "PromiseScopesModel" (90 : Nat) "PromiseScopesModel" "cost" "[I") ∈ ps_T := ps_in (List.mem_of_getElem? (i := 840) (by decide +kernel)) rfl
theorem wd_800 : (Jvm.Cond.fieldLink "PromiseScopesModel" (93 : Nat) "PromiseScopesModel" "does" "[I") ∈ ps_T := ps_in (List.mem_of_getElem? (i := 841) (by decide +kernel)) rfl
theorem wd_801 : (Jvm.Cond.fieldLink "PromiseScopesModel" (96 : Nat) "PromiseScopesModel" "with" "[I") ∈ ps_T := ps_in (List.mem_of_getElem? (i := 842) (by decide +kernel)) rfl
theorem wd_802 : (Jvm.Cond.fieldLink "PromiseScopesModel" (99 : Nat) "PromiseScopesModel" "given" "[I") ∈ ps_T := ps_in (List.mem_of_getElem? (i := 843) (by decide +kernel)) rfl
theorem wd_803 : (Jvm.Cond.fieldLink "PromiseScopesModel" (102 : Nat) "PromiseScopesModel" "how" "[I") ∈ ps_T := ps_in (List.mem_of_getElem? (i := 844) (by decide +kernel)) rfl
theorem wd_804 : (Jvm.Cond.fieldLink "PromiseScopesModel" (105 : Nat) "PromiseScopesModel" "worked" "[I") ∈ ps_T := ps_in (List.mem_of_getElem? (i := 845) (by decide +kernel)) rfl
theorem wd_805 : (Jvm.Cond.fieldLink "PromiseScopesModel" (108 : Nat) "PromiseScopesModel" "came2" "[I") ∈ ps_T := ps_in (List.mem_of_getElem? (i := 846) (by decide +kernel)) rfl
theorem wd_806 : (Jvm.Cond.lays "PromiseScopesModel" "PromiseScopesModel" "thrown" "I") ∈ ps_T := ps_in (List.mem_of_getElem? (i := 847) (by decide +kernel)) rfl
theorem wd_808 : (Jvm.Cond.lays "PromiseScopesModel" "PromiseScopesModel" "stages" "I") ∈ ps_T := ps_in (List.mem_of_getElem? (i := 849) (by decide +kernel)) rfl
theorem wd_810 : (Jvm.Cond.lays "PromiseScopesModel" "PromiseScopesModel" "state" "[I") ∈ ps_T := ps_in (List.mem_of_getElem? (i := 851) (by decide +kernel)) rfl
theorem wd_812 : (Jvm.Cond.lays "PromiseScopesModel" "PromiseScopesModel" "value" "[I") ∈ ps_T := ps_in (List.mem_of_getElem? (i := 853) (by decide +kernel)) rfl
theorem wd_814 : (Jvm.Cond.lays "PromiseScopesModel" "PromiseScopesModel" "came" "[I") ∈ ps_T := ps_in (List.mem_of_getElem? (i := 855) (by decide +kernel)) rfl
theorem wd_816 : (Jvm.Cond.lays "PromiseScopesModel" "PromiseScopesModel" "clock" "I") ∈ ps_T := ps_in (List.mem_of_getElem? (i := 857) (by decide +kernel)) rfl
theorem wd_818 : (Jvm.Cond.lays "PromiseScopesModel" "PromiseScopesModel" "kind" "[I") ∈ ps_T := ps_in (List.mem_of_getElem? (i := 859) (by decide +kernel)) rfl
theorem wd_820 : (Jvm.Cond.lays "PromiseScopesModel" "PromiseScopesModel" "function" "[I") ∈ ps_T := ps_in (List.mem_of_getElem? (i := 861) (by decide +kernel)) rfl
theorem wd_822 : (Jvm.Cond.lays "PromiseScopesModel" "PromiseScopesModel" "number" "[I") ∈ ps_T := ps_in (List.mem_of_getElem? (i := 863) (by decide +kernel)) rfl
theorem wd_824 : (Jvm.Cond.lays "PromiseScopesModel" "PromiseScopesModel" "first" "[I") ∈ ps_T := ps_in (List.mem_of_getElem? (i := 865) (by decide +kernel)) rfl
theorem wd_826 : (Jvm.Cond.lays "PromiseScopesModel" "PromiseScopesModel" "second" "[I") ∈ ps_T := ps_in (List.mem_of_getElem? (i := 867) (by decide +kernel)) rfl
theorem wd_828 : (Jvm.Cond.lays "PromiseScopesModel" "PromiseScopesModel" "inputs" "[J") ∈ ps_T := ps_in (List.mem_of_getElem? (i := 869) (by decide +kernel)) rfl
theorem wd_830 : (Jvm.Cond.lays "PromiseScopesModel" "PromiseScopesModel" "apart" "[Z") ∈ ps_T := ps_in (List.mem_of_getElem? (i := 871) (by decide +kernel)) rfl
theorem wd_832 : (Jvm.Cond.lays "PromiseScopesModel" "PromiseScopesModel" "awaits" "[I") ∈ ps_T := ps_in (List.mem_of_getElem? (i := 873) (by decide +kernel)) rfl
theorem wd_834 : (Jvm.Cond.lays "PromiseScopesModel" "PromiseScopesModel" "queued" "[Z") ∈ ps_T := ps_in (List.mem_of_getElem? (i := 875) (by decide +kernel)) rfl
theorem wd_836 : (Jvm.Cond.lays "PromiseScopesModel" "PromiseScopesModel" "lineFrom" "I") ∈ ps_T := ps_in (List.mem_of_getElem? (i := 877) (by decide +kernel)) rfl
theorem wd_838 : (Jvm.Cond.lays "PromiseScopesModel" "PromiseScopesModel" "lineTo" "I") ∈ ps_T := ps_in (List.mem_of_getElem? (i := 879) (by decide +kernel)) rfl
theorem wd_840 : (Jvm.Cond.lays "PromiseScopesModel" "PromiseScopesModel" "line" "[I") ∈ ps_T := ps_in (List.mem_of_getElem? (i := 881) (by decide +kernel)) rfl
theorem wd_842 : (Jvm.Cond.lays "PromiseScopesModel" "PromiseScopesModel" "pooled" "I") ∈ ps_T := ps_in (List.mem_of_getElem? (i := 883) (by decide +kernel)) rfl
theorem wd_844 : (Jvm.Cond.lays "PromiseScopesModel" "PromiseScopesModel" "pool" "[I") ∈ ps_T := ps_in (List.mem_of_getElem? (i := 885) (by decide +kernel)) rfl
theorem wd_846 : (Jvm.Cond.lays "PromiseScopesModel" "PromiseScopesModel" "made" "I") ∈ ps_T := ps_in (List.mem_of_getElem? (i := 887) (by decide +kernel)) rfl
theorem wd_848 : (Jvm.Cond.lays "PromiseScopesModel" "PromiseScopesModel" "threw" "I") ∈ ps_T := ps_in (List.mem_of_getElem? (i := 889) (by decide +kernel)) rfl
theorem wd_850 : (Jvm.Cond.lays "PromiseScopesModel" "PromiseScopesModel" "scopes" "I") ∈ ps_T := ps_in (List.mem_of_getElem? (i := 891) (by decide +kernel)) rfl
theorem wd_852 : (Jvm.Cond.lays "PromiseScopesModel" "PromiseScopesModel" "parent" "[I") ∈ ps_T := ps_in (List.mem_of_getElem? (i := 893) (by decide +kernel)) rfl
theorem wd_854 : (Jvm.Cond.lays "PromiseScopesModel" "PromiseScopesModel" "policy" "[I") ∈ ps_T := ps_in (List.mem_of_getElem? (i := 895) (by decide +kernel)) rfl
theorem wd_856 : (Jvm.Cond.lays "PromiseScopesModel" "PromiseScopesModel" "deadline" "[I") ∈ ps_T := ps_in (List.mem_of_getElem? (i := 897) (by decide +kernel)) rfl
theorem wd_858 : (Jvm.Cond.lays "PromiseScopesModel" "PromiseScopesModel" "mode" "[I") ∈ ps_T := ps_in (List.mem_of_getElem? (i := 899) (by decide +kernel)) rfl
theorem wd_860 : (Jvm.Cond.lays "PromiseScopesModel" "PromiseScopesModel" "result" "[I") ∈ ps_T := ps_in (List.mem_of_getElem? (i := 901) (by decide +kernel)) rfl
theorem wd_862 : (Jvm.Cond.lays "PromiseScopesModel" "PromiseScopesModel" "stopped" "[Z") ∈ ps_T := ps_in (List.mem_of_getElem? (i := 903) (by decide +kernel)) rfl
theorem wd_864 : (Jvm.Cond.lays "PromiseScopesModel" "PromiseScopesModel" "late" "[Z") ∈ ps_T := ps_in (List.mem_of_getElem? (i := 905) (by decide +kernel)) rfl
theorem wd_866 : (Jvm.Cond.lays "PromiseScopesModel" "PromiseScopesModel" "firstDone" "[I") ∈ ps_T := ps_in (List.mem_of_getElem? (i := 907) (by decide +kernel)) rfl
theorem wd_868 : (Jvm.Cond.lays "PromiseScopesModel" "PromiseScopesModel" "firstFailed" "[I") ∈ ps_T := ps_in (List.mem_of_getElem? (i := 909) (by decide +kernel)) rfl
theorem wd_870 : (Jvm.Cond.lays "PromiseScopesModel" "PromiseScopesModel" "binds" "[Z") ∈ ps_T := ps_in (List.mem_of_getElem? (i := 911) (by decide +kernel)) rfl
theorem wd_872 : (Jvm.Cond.lays "PromiseScopesModel" "PromiseScopesModel" "bound" "[I") ∈ ps_T := ps_in (List.mem_of_getElem? (i := 913) (by decide +kernel)) rfl
theorem wd_874 : (Jvm.Cond.lays "PromiseScopesModel" "PromiseScopesModel" "time" "I") ∈ ps_T := ps_in (List.mem_of_getElem? (i := 915) (by decide +kernel)) rfl
theorem wd_876 : (Jvm.Cond.lays "PromiseScopesModel" "PromiseScopesModel" "tasks" "I") ∈ ps_T := ps_in (List.mem_of_getElem? (i := 917) (by decide +kernel)) rfl
theorem wd_878 : (Jvm.Cond.lays "PromiseScopesModel" "PromiseScopesModel" "home" "[I") ∈ ps_T := ps_in (List.mem_of_getElem? (i := 919) (by decide +kernel)) rfl
theorem wd_880 : (Jvm.Cond.lays "PromiseScopesModel" "PromiseScopesModel" "cost" "[I") ∈ ps_T := ps_in (List.mem_of_getElem? (i := 921) (by decide +kernel)) rfl
theorem wd_882 : (Jvm.Cond.lays "PromiseScopesModel" "PromiseScopesModel" "does" "[I") ∈ ps_T := ps_in (List.mem_of_getElem? (i := 923) (by decide +kernel)) rfl
theorem wd_884 : (Jvm.Cond.lays "PromiseScopesModel" "PromiseScopesModel" "with" "[I") ∈ ps_T := ps_in (List.mem_of_getElem? (i := 925) (by decide +kernel)) rfl
theorem wd_886 : (Jvm.Cond.lays "PromiseScopesModel" "PromiseScopesModel" "given" "[I") ∈ ps_T := ps_in (List.mem_of_getElem? (i := 927) (by decide +kernel)) rfl
theorem wd_888 : (Jvm.Cond.lays "PromiseScopesModel" "PromiseScopesModel" "how" "[I") ∈ ps_T := ps_in (List.mem_of_getElem? (i := 929) (by decide +kernel)) rfl
theorem wd_890 : (Jvm.Cond.lays "PromiseScopesModel" "PromiseScopesModel" "worked" "[I") ∈ ps_T := ps_in (List.mem_of_getElem? (i := 931) (by decide +kernel)) rfl
theorem wd_892 : (Jvm.Cond.lays "PromiseScopesModel" "PromiseScopesModel" "came2" "[I") ∈ ps_T := ps_in (List.mem_of_getElem? (i := 933) (by decide +kernel)) rfl
theorem wd_895 : (Jvm.Cond.arrayClass Jvm.ClassFile.FieldType.long) ∈ ps_T := ps_in (List.mem_of_getElem? (i := 936) (by decide +kernel)) rfl
theorem wd_896 : (Jvm.Cond.methodLink "PromiseScopesLaw" (57 : Nat) ({ cls := "PromiseScopesModel", name := "thrown", desc := "()I" } : Jvm.MethodName)) ∈ ps_T := ps_in (List.mem_of_getElem? (i := 937) (by decide +kernel)) rfl
theorem wd_897 : (Jvm.Cond.instanceMethod ({ cls := "PromiseScopesModel", name := "thrown", desc := "()I" } : Jvm.MethodName)) ∈ ps_T := ps_in (List.mem_of_getElem? (i := 938) (by decide +kernel)) rfl
theorem wd_898 : (Jvm.Cond.selects "PromiseScopesModel" ({ cls := "PromiseScopesModel", name := "thrown", desc := "()I" } : Jvm.MethodName) ({ cls := "PromiseScopesModel", name := "thrown", desc := "()I" } : Jvm.MethodName)) ∈ ps_T := ps_in (List.mem_of_getElem? (i := 939) (by decide +kernel)) rfl
set_option maxRecDepth 20000 in
theorem wd_899 : (Jvm.Cond.code ({ cls := "PromiseScopesModel", name := "thrown", desc := "()I" } : Jvm.MethodName) prog_10_method_2_code (1 : Nat) (Option.some Jvm.ClassFile.FieldType.int)) ∈ ps_T := ps_in (List.mem_of_getElem? (i := 940) rfl) rfl
theorem wd_900 : (Jvm.Cond.methodLink "PromiseScopesLaw" (56 : Nat) ({ cls := "PromiseScopesModel", name := "source", desc := "()I" } : Jvm.MethodName)) ∈ ps_T := ps_in (List.mem_of_getElem? (i := 941) (by decide +kernel)) rfl
theorem wd_901 : (Jvm.Cond.instanceMethod ({ cls := "PromiseScopesModel", name := "source", desc := "()I" } : Jvm.MethodName)) ∈ ps_T := ps_in (List.mem_of_getElem? (i := 942) (by decide +kernel)) rfl
theorem wd_902 : (Jvm.Cond.selects "PromiseScopesModel" ({ cls := "PromiseScopesModel", name := "source", desc := "()I" } : Jvm.MethodName) ({ cls := "PromiseScopesModel", name := "source", desc := "()I" } : Jvm.MethodName)) ∈ ps_T := ps_in (List.mem_of_getElem? (i := 943) (by decide +kernel)) rfl
set_option maxRecDepth 20000 in
theorem wd_903 : (Jvm.Cond.code ({ cls := "PromiseScopesModel", name := "source", desc := "()I" } : Jvm.MethodName) prog_10_method_18_code (1 : Nat) (Option.some Jvm.ClassFile.FieldType.int)) ∈ ps_T := ps_in (List.mem_of_getElem? (i := 944) rfl) rfl
theorem wd_904 : (Jvm.Cond.methodLink "PromiseScopesModel" (181 : Nat) ({ cls := "PromiseScopesModel", name := "make", desc := "(IIIJIIZ)I" } : Jvm.MethodName)) ∈ ps_T := ps_in (List.mem_of_getElem? (i := 945) (by decide +kernel)) rfl
theorem wd_906 : (Jvm.Cond.instanceMethod ({ cls := "PromiseScopesModel", name := "make", desc := "(IIIJIIZ)I" } : Jvm.MethodName)) ∈ ps_T := ps_in (List.mem_of_getElem? (i := 947) (by decide +kernel)) rfl
set_option maxRecDepth 20000 in
theorem wd_907 : (Jvm.Cond.code ({ cls := "PromiseScopesModel", name := "make", desc := "(IIIJIIZ)I" } : Jvm.MethodName) prog_10_method_17_code (10 : Nat) (Option.some Jvm.ClassFile.FieldType.int)) ∈ ps_T := ps_in (List.mem_of_getElem? (i := 948) rfl) rfl
theorem wd_908 : (Jvm.Cond.methodLink "PromiseScopesModel" (144 : Nat) ({ cls := "PromiseScopesModel", name := "scan", desc := "()V" } : Jvm.MethodName)) ∈ ps_T := ps_in (List.mem_of_getElem? (i := 949) (by decide +kernel)) rfl
theorem wd_910 : (Jvm.Cond.instanceMethod ({ cls := "PromiseScopesModel", name := "scan", desc := "()V" } : Jvm.MethodName)) ∈ ps_T := ps_in (List.mem_of_getElem? (i := 951) (by decide +kernel)) rfl
set_option maxRecDepth 20000 in
theorem wd_911 : (Jvm.Cond.code ({ cls := "PromiseScopesModel", name := "scan", desc := "()V" } : Jvm.MethodName) prog_10_method_8_code (2 : Nat) (Option.none : Option Jvm.ClassFile.FieldType)) ∈ ps_T := ps_in (List.mem_of_getElem? (i := 952) rfl) rfl
theorem wd_912 : (Jvm.Cond.methodLink "PromiseScopesModel" (124 : Nat) ({ cls := "PromiseScopesModel", name := "settled", desc := "(I)Z" } : Jvm.MethodName)) ∈ ps_T := ps_in (List.mem_of_getElem? (i := 953) (by decide +kernel)) rfl
theorem wd_914 : (Jvm.Cond.instanceMethod ({ cls := "PromiseScopesModel", name := "settled", desc := "(I)Z" } : Jvm.MethodName)) ∈ ps_T := ps_in (List.mem_of_getElem? (i := 955) (by decide +kernel)) rfl
set_option maxRecDepth 20000 in
theorem wd_915 : (Jvm.Cond.code ({ cls := "PromiseScopesModel", name := "settled", desc := "(I)Z" } : Jvm.MethodName) prog_10_method_5_code (2 : Nat) (Option.some Jvm.ClassFile.FieldType.boolean)) ∈ ps_T := ps_in (List.mem_of_getElem? (i := 956) rfl) rfl
theorem wd_916 : (Jvm.Cond.methodLink "PromiseScopesModel" (132 : Nat) ({ cls := "PromiseScopesModel", name := "isAble", desc := "(I)Z" } : Jvm.MethodName)) ∈ ps_T := ps_in (List.mem_of_getElem? (i := 957) (by decide +kernel)) rfl
theorem wd_918 : (Jvm.Cond.instanceMethod ({ cls := "PromiseScopesModel", name := "isAble", desc := "(I)Z" } : Jvm.MethodName)) ∈ ps_T := ps_in (List.mem_of_getElem? (i := 959) (by decide +kernel)) rfl
set_option maxRecDepth 20000 in
theorem wd_919 : (Jvm.Cond.code ({ cls := "PromiseScopesModel", name := "isAble", desc := "(I)Z" } : Jvm.MethodName) prog_10_method_7_code (4 : Nat) (Option.some Jvm.ClassFile.FieldType.boolean)) ∈ ps_T := ps_in (List.mem_of_getElem? (i := 960) rfl) rfl
theorem wd_920 : (Jvm.Cond.methodLink "PromiseScopesModel" (128 : Nat) ({ cls := "PromiseScopesModel", name := "come", desc := "(IZ)Z" } : Jvm.MethodName)) ∈ ps_T := ps_in (List.mem_of_getElem? (i := 961) (by decide +kernel)) rfl
theorem wd_922 : (Jvm.Cond.instanceMethod ({ cls := "PromiseScopesModel", name := "come", desc := "(IZ)Z" } : Jvm.MethodName)) ∈ ps_T := ps_in (List.mem_of_getElem? (i := 963) (by decide +kernel)) rfl
set_option maxRecDepth 20000 in
theorem wd_923 : (Jvm.Cond.code ({ cls := "PromiseScopesModel", name := "come", desc := "(IZ)Z" } : Jvm.MethodName) prog_10_method_6_code (6 : Nat) (Option.some Jvm.ClassFile.FieldType.boolean)) ∈ ps_T := ps_in (List.mem_of_getElem? (i := 964) rfl) rfl
theorem wd_924 : (Jvm.Cond.methodLink "PromiseScopesLaw" (63 : Nat) ({ cls := "PromiseScopesModel", name := "then", desc := "(IIIIZ)I" } : Jvm.MethodName)) ∈ ps_T := ps_in (List.mem_of_getElem? (i := 965) (by decide +kernel)) rfl
theorem wd_925 : (Jvm.Cond.instanceMethod ({ cls := "PromiseScopesModel", name := "then", desc := "(IIIIZ)I" } : Jvm.MethodName)) ∈ ps_T := ps_in (List.mem_of_getElem? (i := 966) (by decide +kernel)) rfl
theorem wd_926 : (Jvm.Cond.selects "PromiseScopesModel" ({ cls := "PromiseScopesModel", name := "then", desc := "(IIIIZ)I" } : Jvm.MethodName) ({ cls := "PromiseScopesModel", name := "then", desc := "(IIIIZ)I" } : Jvm.MethodName)) ∈ ps_T := ps_in (List.mem_of_getElem? (i := 967) (by decide +kernel)) rfl
set_option maxRecDepth 20000 in
theorem wd_927 : (Jvm.Cond.code ({ cls := "PromiseScopesModel", name := "then", desc := "(IIIIZ)I" } : Jvm.MethodName) prog_10_method_19_code (7 : Nat) (Option.some Jvm.ClassFile.FieldType.int)) ∈ ps_T := ps_in (List.mem_of_getElem? (i := 968) rfl) rfl
theorem wd_928 : (Jvm.Cond.methodLink "PromiseScopesModel" (162 : Nat) ({ cls := "PromiseScopesModel", name := "isStage", desc := "(I)Z" } : Jvm.MethodName)) ∈ ps_T := ps_in (List.mem_of_getElem? (i := 969) (by decide +kernel)) rfl
theorem wd_930 : (Jvm.Cond.instanceMethod ({ cls := "PromiseScopesModel", name := "isStage", desc := "(I)Z" } : Jvm.MethodName)) ∈ ps_T := ps_in (List.mem_of_getElem? (i := 971) (by decide +kernel)) rfl
set_option maxRecDepth 20000 in
theorem wd_931 : (Jvm.Cond.code ({ cls := "PromiseScopesModel", name := "isStage", desc := "(I)Z" } : Jvm.MethodName) prog_10_method_4_code (2 : Nat) (Option.some Jvm.ClassFile.FieldType.boolean)) ∈ ps_T := ps_in (List.mem_of_getElem? (i := 972) rfl) rfl
theorem wd_932 : (Jvm.Cond.methodLink "PromiseScopesModel" (185 : Nat) ({ cls := "PromiseScopesModel", name := "workOff", desc := "()V" } : Jvm.MethodName)) ∈ ps_T := ps_in (List.mem_of_getElem? (i := 973) (by decide +kernel)) rfl
theorem wd_934 : (Jvm.Cond.instanceMethod ({ cls := "PromiseScopesModel", name := "workOff", desc := "()V" } : Jvm.MethodName)) ∈ ps_T := ps_in (List.mem_of_getElem? (i := 975) (by decide +kernel)) rfl
set_option maxRecDepth 20000 in
theorem wd_935 : (Jvm.Cond.code ({ cls := "PromiseScopesModel", name := "workOff", desc := "()V" } : Jvm.MethodName) prog_10_method_16_code (2 : Nat) (Option.none : Option Jvm.ClassFile.FieldType)) ∈ ps_T := ps_in (List.mem_of_getElem? (i := 976) rfl) rfl
theorem wd_936 : (Jvm.Cond.methodLink "PromiseScopesModel" (178 : Nat) ({ cls := "PromiseScopesModel", name := "resolve", desc := "(I)V" } : Jvm.MethodName)) ∈ ps_T := ps_in (List.mem_of_getElem? (i := 977) (by decide +kernel)) rfl
theorem wd_938 : (Jvm.Cond.instanceMethod ({ cls := "PromiseScopesModel", name := "resolve", desc := "(I)V" } : Jvm.MethodName)) ∈ ps_T := ps_in (List.mem_of_getElem? (i := 979) (by decide +kernel)) rfl
set_option maxRecDepth 20000 in
theorem wd_939 : (Jvm.Cond.code ({ cls := "PromiseScopesModel", name := "resolve", desc := "(I)V" } : Jvm.MethodName) prog_10_method_15_code (6 : Nat) (Option.none : Option Jvm.ClassFile.FieldType)) ∈ ps_T := ps_in (List.mem_of_getElem? (i := 980) rfl) rfl
theorem wd_940 : (Jvm.Cond.methodLink "PromiseScopesModel" (151 : Nat) ({ cls := "PromiseScopesModel", name := "copy", desc := "(II)V" } : Jvm.MethodName)) ∈ ps_T := ps_in (List.mem_of_getElem? (i := 981) (by decide +kernel)) rfl
theorem wd_942 : (Jvm.Cond.instanceMethod ({ cls := "PromiseScopesModel", name := "copy", desc := "(II)V" } : Jvm.MethodName)) ∈ ps_T := ps_in (List.mem_of_getElem? (i := 983) (by decide +kernel)) rfl
set_option maxRecDepth 20000 in
theorem wd_943 : (Jvm.Cond.code ({ cls := "PromiseScopesModel", name := "copy", desc := "(II)V" } : Jvm.MethodName) prog_10_method_11_code (3 : Nat) (Option.none : Option Jvm.ClassFile.FieldType)) ∈ ps_T := ps_in (List.mem_of_getElem? (i := 984) rfl) rfl
theorem wd_944 : (Jvm.Cond.methodLink "PromiseScopesModel" (147 : Nat) ({ cls := "PromiseScopesModel", name := "give", desc := "(III)V" } : Jvm.MethodName)) ∈ ps_T := ps_in (List.mem_of_getElem? (i := 985) (by decide +kernel)) rfl
theorem wd_946 : (Jvm.Cond.instanceMethod ({ cls := "PromiseScopesModel", name := "give", desc := "(III)V" } : Jvm.MethodName)) ∈ ps_T := ps_in (List.mem_of_getElem? (i := 987) (by decide +kernel)) rfl
set_option maxRecDepth 20000 in
theorem wd_947 : (Jvm.Cond.code ({ cls := "PromiseScopesModel", name := "give", desc := "(III)V" } : Jvm.MethodName) prog_10_method_9_code (4 : Nat) (Option.none : Option Jvm.ClassFile.FieldType)) ∈ ps_T := ps_in (List.mem_of_getElem? (i := 988) rfl) rfl
theorem wd_948 : (Jvm.Cond.methodLink "PromiseScopesModel" (165 : Nat) ({ cls := "PromiseScopesModel", name := "one", desc := "(II)V" } : Jvm.MethodName)) ∈ ps_T := ps_in (List.mem_of_getElem? (i := 989) (by decide +kernel)) rfl
theorem wd_950 : (Jvm.Cond.instanceMethod ({ cls := "PromiseScopesModel", name := "one", desc := "(II)V" } : Jvm.MethodName)) ∈ ps_T := ps_in (List.mem_of_getElem? (i := 991) (by decide +kernel)) rfl
set_option maxRecDepth 20000 in
theorem wd_951 : (Jvm.Cond.code ({ cls := "PromiseScopesModel", name := "one", desc := "(II)V" } : Jvm.MethodName) prog_10_method_13_code (6 : Nat) (Option.none : Option Jvm.ClassFile.FieldType)) ∈ ps_T := ps_in (List.mem_of_getElem? (i := 992) rfl) rfl
theorem wd_952 : (Jvm.Cond.methodLink "PromiseScopesModel" (155 : Nat) ({ cls := "PromiseScopesModel", name := "apply", desc := "(III)V" } : Jvm.MethodName)) ∈ ps_T := ps_in (List.mem_of_getElem? (i := 993) (by decide +kernel)) rfl
theorem wd_954 : (Jvm.Cond.instanceMethod ({ cls := "PromiseScopesModel", name := "apply", desc := "(III)V" } : Jvm.MethodName)) ∈ ps_T := ps_in (List.mem_of_getElem? (i := 995) (by decide +kernel)) rfl
set_option maxRecDepth 20000 in
theorem wd_955 : (Jvm.Cond.code ({ cls := "PromiseScopesModel", name := "apply", desc := "(III)V" } : Jvm.MethodName) prog_10_method_3_code (4 : Nat) (Option.none : Option Jvm.ClassFile.FieldType)) ∈ ps_T := ps_in (List.mem_of_getElem? (i := 996) rfl) rfl
theorem wd_956 : (Jvm.Cond.methodLink "PromiseScopesModel" (158 : Nat) ({ cls := "PromiseScopesModel", name := "giveMade", desc := "(I)V" } : Jvm.MethodName)) ∈ ps_T := ps_in (List.mem_of_getElem? (i := 997) (by decide +kernel)) rfl
theorem wd_958 : (Jvm.Cond.instanceMethod ({ cls := "PromiseScopesModel", name := "giveMade", desc := "(I)V" } : Jvm.MethodName)) ∈ ps_T := ps_in (List.mem_of_getElem? (i := 999) (by decide +kernel)) rfl
set_option maxRecDepth 20000 in
theorem wd_959 : (Jvm.Cond.code ({ cls := "PromiseScopesModel", name := "giveMade", desc := "(I)V" } : Jvm.MethodName) prog_10_method_10_code (2 : Nat) (Option.none : Option Jvm.ClassFile.FieldType)) ∈ ps_T := ps_in (List.mem_of_getElem? (i := 1000) rfl) rfl
theorem wd_960 : (Jvm.Cond.methodLink "PromiseScopesModel" (168 : Nat) ({ cls := "PromiseScopesModel", name := "all", desc := "(I)V" } : Jvm.MethodName)) ∈ ps_T := ps_in (List.mem_of_getElem? (i := 1001) (by decide +kernel)) rfl
theorem wd_962 : (Jvm.Cond.instanceMethod ({ cls := "PromiseScopesModel", name := "all", desc := "(I)V" } : Jvm.MethodName)) ∈ ps_T := ps_in (List.mem_of_getElem? (i := 1003) (by decide +kernel)) rfl
set_option maxRecDepth 20000 in
theorem wd_963 : (Jvm.Cond.code ({ cls := "PromiseScopesModel", name := "all", desc := "(I)V" } : Jvm.MethodName) prog_10_method_14_code (4 : Nat) (Option.none : Option Jvm.ClassFile.FieldType)) ∈ ps_T := ps_in (List.mem_of_getElem? (i := 1004) rfl) rfl
theorem wd_964 : (Jvm.Cond.methodLink "PromiseScopesModel" (171 : Nat) ({ cls := "PromiseScopesModel", name := "earliest", desc := "(I)I" } : Jvm.MethodName)) ∈ ps_T := ps_in (List.mem_of_getElem? (i := 1005) (by decide +kernel)) rfl
theorem wd_966 : (Jvm.Cond.instanceMethod ({ cls := "PromiseScopesModel", name := "earliest", desc := "(I)I" } : Jvm.MethodName)) ∈ ps_T := ps_in (List.mem_of_getElem? (i := 1007) (by decide +kernel)) rfl
set_option maxRecDepth 20000 in
theorem wd_967 : (Jvm.Cond.code ({ cls := "PromiseScopesModel", name := "earliest", desc := "(I)I" } : Jvm.MethodName) prog_10_method_12_code (4 : Nat) (Option.some Jvm.ClassFile.FieldType.int)) ∈ ps_T := ps_in (List.mem_of_getElem? (i := 1008) rfl) rfl
theorem wd_968 : (Jvm.Cond.methodLink "PromiseScopesLaw" (67 : Nat) ({ cls := "PromiseScopesModel", name := "both", desc := "(IIIIIZ)I" } : Jvm.MethodName)) ∈ ps_T := ps_in (List.mem_of_getElem? (i := 1009) (by decide +kernel)) rfl
theorem wd_969 : (Jvm.Cond.instanceMethod ({ cls := "PromiseScopesModel", name := "both", desc := "(IIIIIZ)I" } : Jvm.MethodName)) ∈ ps_T := ps_in (List.mem_of_getElem? (i := 1010) (by decide +kernel)) rfl
theorem wd_970 : (Jvm.Cond.selects "PromiseScopesModel" ({ cls := "PromiseScopesModel", name := "both", desc := "(IIIIIZ)I" } : Jvm.MethodName) ({ cls := "PromiseScopesModel", name := "both", desc := "(IIIIIZ)I" } : Jvm.MethodName)) ∈ ps_T := ps_in (List.mem_of_getElem? (i := 1011) (by decide +kernel)) rfl
set_option maxRecDepth 20000 in
theorem wd_971 : (Jvm.Cond.code ({ cls := "PromiseScopesModel", name := "both", desc := "(IIIIIZ)I" } : Jvm.MethodName) prog_10_method_20_code (8 : Nat) (Option.some Jvm.ClassFile.FieldType.int)) ∈ ps_T := ps_in (List.mem_of_getElem? (i := 1012) rfl) rfl
theorem wd_972 : (Jvm.Cond.methodLink "PromiseScopesLaw" (73 : Nat) ({ cls := "PromiseScopesModel", name := "several", desc := "(JI)I" } : Jvm.MethodName)) ∈ ps_T := ps_in (List.mem_of_getElem? (i := 1013) (by decide +kernel)) rfl
theorem wd_973 : (Jvm.Cond.instanceMethod ({ cls := "PromiseScopesModel", name := "several", desc := "(JI)I" } : Jvm.MethodName)) ∈ ps_T := ps_in (List.mem_of_getElem? (i := 1014) (by decide +kernel)) rfl
theorem wd_974 : (Jvm.Cond.selects "PromiseScopesModel" ({ cls := "PromiseScopesModel", name := "several", desc := "(JI)I" } : Jvm.MethodName) ({ cls := "PromiseScopesModel", name := "several", desc := "(JI)I" } : Jvm.MethodName)) ∈ ps_T := ps_in (List.mem_of_getElem? (i := 1015) (by decide +kernel)) rfl
set_option maxRecDepth 20000 in
theorem wd_975 : (Jvm.Cond.code ({ cls := "PromiseScopesModel", name := "several", desc := "(JI)I" } : Jvm.MethodName) prog_10_method_21_code (5 : Nat) (Option.some Jvm.ClassFile.FieldType.int)) ∈ ps_T := ps_in (List.mem_of_getElem? (i := 1016) rfl) rfl
theorem wd_976 : (Jvm.Cond.methodLink "PromiseScopesLaw" (78 : Nat) ({ cls := "PromiseScopesModel", name := "complete", desc := "(II)Z" } : Jvm.MethodName)) ∈ ps_T := ps_in (List.mem_of_getElem? (i := 1017) (by decide +kernel)) rfl
theorem wd_977 : (Jvm.Cond.instanceMethod ({ cls := "PromiseScopesModel", name := "complete", desc := "(II)Z" } : Jvm.MethodName)) ∈ ps_T := ps_in (List.mem_of_getElem? (i := 1018) (by decide +kernel)) rfl
theorem wd_978 : (Jvm.Cond.selects "PromiseScopesModel" ({ cls := "PromiseScopesModel", name := "complete", desc := "(II)Z" } : Jvm.MethodName) ({ cls := "PromiseScopesModel", name := "complete", desc := "(II)Z" } : Jvm.MethodName)) ∈ ps_T := ps_in (List.mem_of_getElem? (i := 1019) (by decide +kernel)) rfl
set_option maxRecDepth 20000 in
theorem wd_979 : (Jvm.Cond.code ({ cls := "PromiseScopesModel", name := "complete", desc := "(II)Z" } : Jvm.MethodName) prog_10_method_23_code (3 : Nat) (Option.some Jvm.ClassFile.FieldType.boolean)) ∈ ps_T := ps_in (List.mem_of_getElem? (i := 1020) rfl) rfl
theorem wd_980 : (Jvm.Cond.methodLink "PromiseScopesModel" (188 : Nat) ({ cls := "PromiseScopesModel", name := "settle", desc := "(III)Z" } : Jvm.MethodName)) ∈ ps_T := ps_in (List.mem_of_getElem? (i := 1021) (by decide +kernel)) rfl
theorem wd_982 : (Jvm.Cond.instanceMethod ({ cls := "PromiseScopesModel", name := "settle", desc := "(III)Z" } : Jvm.MethodName)) ∈ ps_T := ps_in (List.mem_of_getElem? (i := 1023) (by decide +kernel)) rfl
set_option maxRecDepth 20000 in
theorem wd_983 : (Jvm.Cond.code ({ cls := "PromiseScopesModel", name := "settle", desc := "(III)Z" } : Jvm.MethodName) prog_10_method_22_code (4 : Nat) (Option.some Jvm.ClassFile.FieldType.boolean)) ∈ ps_T := ps_in (List.mem_of_getElem? (i := 1024) rfl) rfl
theorem wd_984 : (Jvm.Cond.methodLink "PromiseScopesLaw" (82 : Nat) ({ cls := "PromiseScopesModel", name := "fail", desc := "(II)Z" } : Jvm.MethodName)) ∈ ps_T := ps_in (List.mem_of_getElem? (i := 1025) (by decide +kernel)) rfl
theorem wd_985 : (Jvm.Cond.instanceMethod ({ cls := "PromiseScopesModel", name := "fail", desc := "(II)Z" } : Jvm.MethodName)) ∈ ps_T := ps_in (List.mem_of_getElem? (i := 1026) (by decide +kernel)) rfl
theorem wd_986 : (Jvm.Cond.selects "PromiseScopesModel" ({ cls := "PromiseScopesModel", name := "fail", desc := "(II)Z" } : Jvm.MethodName) ({ cls := "PromiseScopesModel", name := "fail", desc := "(II)Z" } : Jvm.MethodName)) ∈ ps_T := ps_in (List.mem_of_getElem? (i := 1027) (by decide +kernel)) rfl
set_option maxRecDepth 20000 in
theorem wd_987 : (Jvm.Cond.code ({ cls := "PromiseScopesModel", name := "fail", desc := "(II)Z" } : Jvm.MethodName) prog_10_method_24_code (3 : Nat) (Option.some Jvm.ClassFile.FieldType.boolean)) ∈ ps_T := ps_in (List.mem_of_getElem? (i := 1028) rfl) rfl
theorem wd_988 : (Jvm.Cond.methodLink "PromiseScopesLaw" (87 : Nat) ({ cls := "PromiseScopesModel", name := "cancel", desc := "(I)Z" } : Jvm.MethodName)) ∈ ps_T := ps_in (List.mem_of_getElem? (i := 1029) (by decide +kernel)) rfl
theorem wd_989 : (Jvm.Cond.instanceMethod ({ cls := "PromiseScopesModel", name := "cancel", desc := "(I)Z" } : Jvm.MethodName)) ∈ ps_T := ps_in (List.mem_of_getElem? (i := 1030) (by decide +kernel)) rfl
theorem wd_990 : (Jvm.Cond.selects "PromiseScopesModel" ({ cls := "PromiseScopesModel", name := "cancel", desc := "(I)Z" } : Jvm.MethodName) ({ cls := "PromiseScopesModel", name := "cancel", desc := "(I)Z" } : Jvm.MethodName)) ∈ ps_T := ps_in (List.mem_of_getElem? (i := 1031) (by decide +kernel)) rfl
set_option maxRecDepth 20000 in
theorem wd_991 : (Jvm.Cond.code ({ cls := "PromiseScopesModel", name := "cancel", desc := "(I)Z" } : Jvm.MethodName) prog_10_method_25_code (2 : Nat) (Option.some Jvm.ClassFile.FieldType.boolean)) ∈ ps_T := ps_in (List.mem_of_getElem? (i := 1032) rfl) rfl
theorem wd_992 : (Jvm.Cond.methodLink "PromiseScopesLaw" (91 : Nat) ({ cls := "PromiseScopesModel", name := "work", desc := "(I)I" } : Jvm.MethodName)) ∈ ps_T := ps_in (List.mem_of_getElem? (i := 1033) (by decide +kernel)) rfl
theorem wd_993 : (Jvm.Cond.instanceMethod ({ cls := "PromiseScopesModel", name := "work", desc := "(I)I" } : Jvm.MethodName)) ∈ ps_T := ps_in (List.mem_of_getElem? (i := 1034) (by decide +kernel)) rfl
theorem wd_994 : (Jvm.Cond.selects "PromiseScopesModel" ({ cls := "PromiseScopesModel", name := "work", desc := "(I)I" } : Jvm.MethodName) ({ cls := "PromiseScopesModel", name := "work", desc := "(I)I" } : Jvm.MethodName)) ∈ ps_T := ps_in (List.mem_of_getElem? (i := 1035) (by decide +kernel)) rfl
set_option maxRecDepth 20000 in
theorem wd_995 : (Jvm.Cond.code ({ cls := "PromiseScopesModel", name := "work", desc := "(I)I" } : Jvm.MethodName) prog_10_method_26_code (5 : Nat) (Option.some Jvm.ClassFile.FieldType.int)) ∈ ps_T := ps_in (List.mem_of_getElem? (i := 1036) rfl) rfl
theorem wd_996 : (Jvm.Cond.methodLink "PromiseScopesLaw" (95 : Nat) ({ cls := "PromiseScopesModel", name := "join", desc := "(I)I" } : Jvm.MethodName)) ∈ ps_T := ps_in (List.mem_of_getElem? (i := 1037) (by decide +kernel)) rfl
theorem wd_997 : (Jvm.Cond.instanceMethod ({ cls := "PromiseScopesModel", name := "join", desc := "(I)I" } : Jvm.MethodName)) ∈ ps_T := ps_in (List.mem_of_getElem? (i := 1038) (by decide +kernel)) rfl
theorem wd_998 : (Jvm.Cond.selects "PromiseScopesModel" ({ cls := "PromiseScopesModel", name := "join", desc := "(I)I" } : Jvm.MethodName) ({ cls := "PromiseScopesModel", name := "join", desc := "(I)I" } : Jvm.MethodName)) ∈ ps_T := ps_in (List.mem_of_getElem? (i := 1039) (by decide +kernel)) rfl
set_option maxRecDepth 20000 in
theorem wd_999 : (Jvm.Cond.code ({ cls := "PromiseScopesModel", name := "join", desc := "(I)I" } : Jvm.MethodName) prog_10_method_27_code (2 : Nat) (Option.some Jvm.ClassFile.FieldType.int)) ∈ ps_T := ps_in (List.mem_of_getElem? (i := 1040) rfl) rfl
theorem wd_1000 : (Jvm.Cond.methodLink "PromiseScopesLaw" (99 : Nat) ({ cls := "PromiseScopesModel", name := "stage", desc := "(II)I" } : Jvm.MethodName)) ∈ ps_T := ps_in (List.mem_of_getElem? (i := 1041) (by decide +kernel)) rfl
theorem wd_1001 : (Jvm.Cond.instanceMethod ({ cls := "PromiseScopesModel", name := "stage", desc := "(II)I" } : Jvm.MethodName)) ∈ ps_T := ps_in (List.mem_of_getElem? (i := 1042) (by decide +kernel)) rfl
theorem wd_1002 : (Jvm.Cond.selects "PromiseScopesModel" ({ cls := "PromiseScopesModel", name := "stage", desc := "(II)I" } : Jvm.MethodName) ({ cls := "PromiseScopesModel", name := "stage", desc := "(II)I" } : Jvm.MethodName)) ∈ ps_T := ps_in (List.mem_of_getElem? (i := 1043) (by decide +kernel)) rfl
set_option maxRecDepth 20000 in
theorem wd_1003 : (Jvm.Cond.code ({ cls := "PromiseScopesModel", name := "stage", desc := "(II)I" } : Jvm.MethodName) prog_10_method_28_code (5 : Nat) (Option.some Jvm.ClassFile.FieldType.int)) ∈ ps_T := ps_in (List.mem_of_getElem? (i := 1044) rfl) rfl
theorem wd_1004 : (Jvm.Cond.methodLink "PromiseScopesLaw" (103 : Nat) ({ cls := "PromiseScopesModel", name := "count", desc := "(I)I" } : Jvm.MethodName)) ∈ ps_T := ps_in (List.mem_of_getElem? (i := 1045) (by decide +kernel)) rfl
theorem wd_1005 : (Jvm.Cond.instanceMethod ({ cls := "PromiseScopesModel", name := "count", desc := "(I)I" } : Jvm.MethodName)) ∈ ps_T := ps_in (List.mem_of_getElem? (i := 1046) (by decide +kernel)) rfl
theorem wd_1006 : (Jvm.Cond.selects "PromiseScopesModel" ({ cls := "PromiseScopesModel", name := "count", desc := "(I)I" } : Jvm.MethodName) ({ cls := "PromiseScopesModel", name := "count", desc := "(I)I" } : Jvm.MethodName)) ∈ ps_T := ps_in (List.mem_of_getElem? (i := 1047) (by decide +kernel)) rfl
set_option maxRecDepth 20000 in
theorem wd_1007 : (Jvm.Cond.code ({ cls := "PromiseScopesModel", name := "count", desc := "(I)I" } : Jvm.MethodName) prog_10_method_29_code (2 : Nat) (Option.some Jvm.ClassFile.FieldType.int)) ∈ ps_T := ps_in (List.mem_of_getElem? (i := 1048) rfl) rfl
theorem wd_1008 : (Jvm.Cond.methodLink "PromiseScopesLaw" (107 : Nat) ({ cls := "PromiseScopesModel", name := "open", desc := "(III)I" } : Jvm.MethodName)) ∈ ps_T := ps_in (List.mem_of_getElem? (i := 1049) (by decide +kernel)) rfl
theorem wd_1009 : (Jvm.Cond.instanceMethod ({ cls := "PromiseScopesModel", name := "open", desc := "(III)I" } : Jvm.MethodName)) ∈ ps_T := ps_in (List.mem_of_getElem? (i := 1050) (by decide +kernel)) rfl
theorem wd_1010 : (Jvm.Cond.selects "PromiseScopesModel" ({ cls := "PromiseScopesModel", name := "open", desc := "(III)I" } : Jvm.MethodName) ({ cls := "PromiseScopesModel", name := "open", desc := "(III)I" } : Jvm.MethodName)) ∈ ps_T := ps_in (List.mem_of_getElem? (i := 1051) (by decide +kernel)) rfl
set_option maxRecDepth 20000 in
theorem wd_1011 : (Jvm.Cond.code ({ cls := "PromiseScopesModel", name := "open", desc := "(III)I" } : Jvm.MethodName) prog_10_method_34_code (5 : Nat) (Option.some Jvm.ClassFile.FieldType.int)) ∈ ps_T := ps_in (List.mem_of_getElem? (i := 1052) rfl) rfl
theorem wd_1012 : (Jvm.Cond.methodLink "PromiseScopesModel" (204 : Nat) ({ cls := "PromiseScopesModel", name := "isOpen", desc := "(I)Z" } : Jvm.MethodName)) ∈ ps_T := ps_in (List.mem_of_getElem? (i := 1053) (by decide +kernel)) rfl
theorem wd_1014 : (Jvm.Cond.instanceMethod ({ cls := "PromiseScopesModel", name := "isOpen", desc := "(I)Z" } : Jvm.MethodName)) ∈ ps_T := ps_in (List.mem_of_getElem? (i := 1055) (by decide +kernel)) rfl
set_option maxRecDepth 20000 in
theorem wd_1015 : (Jvm.Cond.code ({ cls := "PromiseScopesModel", name := "isOpen", desc := "(I)Z" } : Jvm.MethodName) prog_10_method_31_code (2 : Nat) (Option.some Jvm.ClassFile.FieldType.boolean)) ∈ ps_T := ps_in (List.mem_of_getElem? (i := 1056) rfl) rfl
theorem wd_1016 : (Jvm.Cond.methodLink "PromiseScopesModel" (201 : Nat) ({ cls := "PromiseScopesModel", name := "isScope", desc := "(I)Z" } : Jvm.MethodName)) ∈ ps_T := ps_in (List.mem_of_getElem? (i := 1057) (by decide +kernel)) rfl
theorem wd_1018 : (Jvm.Cond.instanceMethod ({ cls := "PromiseScopesModel", name := "isScope", desc := "(I)Z" } : Jvm.MethodName)) ∈ ps_T := ps_in (List.mem_of_getElem? (i := 1059) (by decide +kernel)) rfl
set_option maxRecDepth 20000 in
theorem wd_1019 : (Jvm.Cond.code ({ cls := "PromiseScopesModel", name := "isScope", desc := "(I)Z" } : Jvm.MethodName) prog_10_method_30_code (2 : Nat) (Option.some Jvm.ClassFile.FieldType.boolean)) ∈ ps_T := ps_in (List.mem_of_getElem? (i := 1060) rfl) rfl
theorem wd_1020 : (Jvm.Cond.methodLink "PromiseScopesLaw" (112 : Nat) ({ cls := "PromiseScopesModel", name := "bind", desc := "(III)Z" } : Jvm.MethodName)) ∈ ps_T := ps_in (List.mem_of_getElem? (i := 1061) (by decide +kernel)) rfl
theorem wd_1021 : (Jvm.Cond.instanceMethod ({ cls := "PromiseScopesModel", name := "bind", desc := "(III)Z" } : Jvm.MethodName)) ∈ ps_T := ps_in (List.mem_of_getElem? (i := 1062) (by decide +kernel)) rfl
theorem wd_1022 : (Jvm.Cond.selects "PromiseScopesModel" ({ cls := "PromiseScopesModel", name := "bind", desc := "(III)Z" } : Jvm.MethodName) ({ cls := "PromiseScopesModel", name := "bind", desc := "(III)Z" } : Jvm.MethodName)) ∈ ps_T := ps_in (List.mem_of_getElem? (i := 1063) (by decide +kernel)) rfl
set_option maxRecDepth 20000 in
theorem wd_1023 : (Jvm.Cond.code ({ cls := "PromiseScopesModel", name := "bind", desc := "(III)Z" } : Jvm.MethodName) prog_10_method_35_code (4 : Nat) (Option.some Jvm.ClassFile.FieldType.boolean)) ∈ ps_T := ps_in (List.mem_of_getElem? (i := 1064) rfl) rfl
theorem wd_1024 : (Jvm.Cond.methodLink "PromiseScopesLaw" (136 : Nat) ({ cls := "PromiseScopesModel", name := "bound", desc := "(II)I" } : Jvm.MethodName)) ∈ ps_T := ps_in (List.mem_of_getElem? (i := 1065) (by decide +kernel)) rfl
theorem wd_1025 : (Jvm.Cond.instanceMethod ({ cls := "PromiseScopesModel", name := "bound", desc := "(II)I" } : Jvm.MethodName)) ∈ ps_T := ps_in (List.mem_of_getElem? (i := 1066) (by decide +kernel)) rfl
theorem wd_1026 : (Jvm.Cond.selects "PromiseScopesModel" ({ cls := "PromiseScopesModel", name := "bound", desc := "(II)I" } : Jvm.MethodName) ({ cls := "PromiseScopesModel", name := "bound", desc := "(II)I" } : Jvm.MethodName)) ∈ ps_T := ps_in (List.mem_of_getElem? (i := 1067) (by decide +kernel)) rfl
set_option maxRecDepth 20000 in
theorem wd_1027 : (Jvm.Cond.code ({ cls := "PromiseScopesModel", name := "bound", desc := "(II)I" } : Jvm.MethodName) prog_10_method_37_code (3 : Nat) (Option.some Jvm.ClassFile.FieldType.int)) ∈ ps_T := ps_in (List.mem_of_getElem? (i := 1068) rfl) rfl
theorem wd_1028 : (Jvm.Cond.methodLink "PromiseScopesModel" (207 : Nat) ({ cls := "PromiseScopesModel", name := "look", desc := "(II)I" } : Jvm.MethodName)) ∈ ps_T := ps_in (List.mem_of_getElem? (i := 1069) (by decide +kernel)) rfl
theorem wd_1030 : (Jvm.Cond.instanceMethod ({ cls := "PromiseScopesModel", name := "look", desc := "(II)I" } : Jvm.MethodName)) ∈ ps_T := ps_in (List.mem_of_getElem? (i := 1071) (by decide +kernel)) rfl
set_option maxRecDepth 20000 in
theorem wd_1031 : (Jvm.Cond.code ({ cls := "PromiseScopesModel", name := "look", desc := "(II)I" } : Jvm.MethodName) prog_10_method_36_code (4 : Nat) (Option.some Jvm.ClassFile.FieldType.int)) ∈ ps_T := ps_in (List.mem_of_getElem? (i := 1072) rfl) rfl
theorem wd_1032 : (Jvm.Cond.methodLink "PromiseScopesLaw" (116 : Nat) ({ cls := "PromiseScopesModel", name := "fork", desc := "(IIII)I" } : Jvm.MethodName)) ∈ ps_T := ps_in (List.mem_of_getElem? (i := 1073) (by decide +kernel)) rfl
theorem wd_1033 : (Jvm.Cond.instanceMethod ({ cls := "PromiseScopesModel", name := "fork", desc := "(IIII)I" } : Jvm.MethodName)) ∈ ps_T := ps_in (List.mem_of_getElem? (i := 1074) (by decide +kernel)) rfl
theorem wd_1034 : (Jvm.Cond.selects "PromiseScopesModel" ({ cls := "PromiseScopesModel", name := "fork", desc := "(IIII)I" } : Jvm.MethodName) ({ cls := "PromiseScopesModel", name := "fork", desc := "(IIII)I" } : Jvm.MethodName)) ∈ ps_T := ps_in (List.mem_of_getElem? (i := 1075) (by decide +kernel)) rfl
set_option maxRecDepth 20000 in
theorem wd_1035 : (Jvm.Cond.code ({ cls := "PromiseScopesModel", name := "fork", desc := "(IIII)I" } : Jvm.MethodName) prog_10_method_38_code (6 : Nat) (Option.some Jvm.ClassFile.FieldType.int)) ∈ ps_T := ps_in (List.mem_of_getElem? (i := 1076) rfl) rfl
theorem wd_1036 : (Jvm.Cond.methodLink "PromiseScopesLaw" (120 : Nat) ({ cls := "PromiseScopesModel", name := "joinScope", desc := "(I)Z" } : Jvm.MethodName)) ∈ ps_T := ps_in (List.mem_of_getElem? (i := 1077) (by decide +kernel)) rfl
theorem wd_1037 : (Jvm.Cond.instanceMethod ({ cls := "PromiseScopesModel", name := "joinScope", desc := "(I)Z" } : Jvm.MethodName)) ∈ ps_T := ps_in (List.mem_of_getElem? (i := 1078) (by decide +kernel)) rfl
theorem wd_1038 : (Jvm.Cond.selects "PromiseScopesModel" ({ cls := "PromiseScopesModel", name := "joinScope", desc := "(I)Z" } : Jvm.MethodName) ({ cls := "PromiseScopesModel", name := "joinScope", desc := "(I)Z" } : Jvm.MethodName)) ∈ ps_T := ps_in (List.mem_of_getElem? (i := 1079) (by decide +kernel)) rfl
set_option maxRecDepth 20000 in
theorem wd_1039 : (Jvm.Cond.code ({ cls := "PromiseScopesModel", name := "joinScope", desc := "(I)Z" } : Jvm.MethodName) prog_10_method_43_code (4 : Nat) (Option.some Jvm.ClassFile.FieldType.boolean)) ∈ ps_T := ps_in (List.mem_of_getElem? (i := 1080) rfl) rfl
theorem wd_1040 : (Jvm.Cond.methodLink "PromiseScopesModel" (211 : Nat) ({ cls := "PromiseScopesModel", name := "below", desc := "(II)Z" } : Jvm.MethodName)) ∈ ps_T := ps_in (List.mem_of_getElem? (i := 1081) (by decide +kernel)) rfl
theorem wd_1042 : (Jvm.Cond.instanceMethod ({ cls := "PromiseScopesModel", name := "below", desc := "(II)Z" } : Jvm.MethodName)) ∈ ps_T := ps_in (List.mem_of_getElem? (i := 1083) (by decide +kernel)) rfl
set_option maxRecDepth 20000 in
theorem wd_1043 : (Jvm.Cond.code ({ cls := "PromiseScopesModel", name := "below", desc := "(II)Z" } : Jvm.MethodName) prog_10_method_32_code (4 : Nat) (Option.some Jvm.ClassFile.FieldType.boolean)) ∈ ps_T := ps_in (List.mem_of_getElem? (i := 1084) rfl) rfl
theorem wd_1044 : (Jvm.Cond.methodLink "PromiseScopesModel" (221 : Nat) ({ cls := "PromiseScopesModel", name := "closeAll", desc := "()V" } : Jvm.MethodName)) ∈ ps_T := ps_in (List.mem_of_getElem? (i := 1085) (by decide +kernel)) rfl
theorem wd_1046 : (Jvm.Cond.instanceMethod ({ cls := "PromiseScopesModel", name := "closeAll", desc := "()V" } : Jvm.MethodName)) ∈ ps_T := ps_in (List.mem_of_getElem? (i := 1087) (by decide +kernel)) rfl
set_option maxRecDepth 20000 in
theorem wd_1047 : (Jvm.Cond.code ({ cls := "PromiseScopesModel", name := "closeAll", desc := "()V" } : Jvm.MethodName) prog_10_method_42_code (4 : Nat) (Option.none : Option Jvm.ClassFile.FieldType)) ∈ ps_T := ps_in (List.mem_of_getElem? (i := 1088) rfl) rfl
theorem wd_1048 : (Jvm.Cond.methodLink "PromiseScopesModel" (215 : Nat) ({ cls := "PromiseScopesModel", name := "running", desc := "(I)I" } : Jvm.MethodName)) ∈ ps_T := ps_in (List.mem_of_getElem? (i := 1089) (by decide +kernel)) rfl
theorem wd_1050 : (Jvm.Cond.instanceMethod ({ cls := "PromiseScopesModel", name := "running", desc := "(I)I" } : Jvm.MethodName)) ∈ ps_T := ps_in (List.mem_of_getElem? (i := 1091) (by decide +kernel)) rfl
set_option maxRecDepth 20000 in
theorem wd_1051 : (Jvm.Cond.code ({ cls := "PromiseScopesModel", name := "running", desc := "(I)I" } : Jvm.MethodName) prog_10_method_39_code (4 : Nat) (Option.some Jvm.ClassFile.FieldType.int)) ∈ ps_T := ps_in (List.mem_of_getElem? (i := 1092) rfl) rfl
theorem wd_1052 : (Jvm.Cond.methodLink "PromiseScopesModel" (218 : Nat) ({ cls := "PromiseScopesModel", name := "conclude", desc := "(I)V" } : Jvm.MethodName)) ∈ ps_T := ps_in (List.mem_of_getElem? (i := 1093) (by decide +kernel)) rfl
theorem wd_1054 : (Jvm.Cond.instanceMethod ({ cls := "PromiseScopesModel", name := "conclude", desc := "(I)V" } : Jvm.MethodName)) ∈ ps_T := ps_in (List.mem_of_getElem? (i := 1095) (by decide +kernel)) rfl
set_option maxRecDepth 20000 in
theorem wd_1055 : (Jvm.Cond.code ({ cls := "PromiseScopesModel", name := "conclude", desc := "(I)V" } : Jvm.MethodName) prog_10_method_41_code (6 : Nat) (Option.none : Option Jvm.ClassFile.FieldType)) ∈ ps_T := ps_in (List.mem_of_getElem? (i := 1096) rfl) rfl
theorem wd_1056 : (Jvm.Cond.methodLink "PromiseScopesLaw" (124 : Nat) ({ cls := "PromiseScopesModel", name := "cancelScope", desc := "(I)Z" } : Jvm.MethodName)) ∈ ps_T := ps_in (List.mem_of_getElem? (i := 1097) (by decide +kernel)) rfl
theorem wd_1057 : (Jvm.Cond.instanceMethod ({ cls := "PromiseScopesModel", name := "cancelScope", desc := "(I)Z" } : Jvm.MethodName)) ∈ ps_T := ps_in (List.mem_of_getElem? (i := 1098) (by decide +kernel)) rfl
theorem wd_1058 : (Jvm.Cond.selects "PromiseScopesModel" ({ cls := "PromiseScopesModel", name := "cancelScope", desc := "(I)Z" } : Jvm.MethodName) ({ cls := "PromiseScopesModel", name := "cancelScope", desc := "(I)Z" } : Jvm.MethodName)) ∈ ps_T := ps_in (List.mem_of_getElem? (i := 1099) (by decide +kernel)) rfl
set_option maxRecDepth 20000 in
theorem wd_1059 : (Jvm.Cond.code ({ cls := "PromiseScopesModel", name := "cancelScope", desc := "(I)Z" } : Jvm.MethodName) prog_10_method_44_code (2 : Nat) (Option.some Jvm.ClassFile.FieldType.boolean)) ∈ ps_T := ps_in (List.mem_of_getElem? (i := 1100) rfl) rfl
theorem wd_1060 : (Jvm.Cond.methodLink "PromiseScopesModel" (224 : Nat) ({ cls := "PromiseScopesModel", name := "stop", desc := "(I)V" } : Jvm.MethodName)) ∈ ps_T := ps_in (List.mem_of_getElem? (i := 1101) (by decide +kernel)) rfl
theorem wd_1062 : (Jvm.Cond.instanceMethod ({ cls := "PromiseScopesModel", name := "stop", desc := "(I)V" } : Jvm.MethodName)) ∈ ps_T := ps_in (List.mem_of_getElem? (i := 1103) (by decide +kernel)) rfl
set_option maxRecDepth 20000 in
theorem wd_1063 : (Jvm.Cond.code ({ cls := "PromiseScopesModel", name := "stop", desc := "(I)V" } : Jvm.MethodName) prog_10_method_40_code (4 : Nat) (Option.none : Option Jvm.ClassFile.FieldType)) ∈ ps_T := ps_in (List.mem_of_getElem? (i := 1104) rfl) rfl
theorem wd_1064 : (Jvm.Cond.methodLink "PromiseScopesLaw" (128 : Nat) ({ cls := "PromiseScopesModel", name := "tick", desc := "(I)I" } : Jvm.MethodName)) ∈ ps_T := ps_in (List.mem_of_getElem? (i := 1105) (by decide +kernel)) rfl
theorem wd_1065 : (Jvm.Cond.instanceMethod ({ cls := "PromiseScopesModel", name := "tick", desc := "(I)I" } : Jvm.MethodName)) ∈ ps_T := ps_in (List.mem_of_getElem? (i := 1106) (by decide +kernel)) rfl
theorem wd_1066 : (Jvm.Cond.selects "PromiseScopesModel" ({ cls := "PromiseScopesModel", name := "tick", desc := "(I)I" } : Jvm.MethodName) ({ cls := "PromiseScopesModel", name := "tick", desc := "(I)I" } : Jvm.MethodName)) ∈ ps_T := ps_in (List.mem_of_getElem? (i := 1107) (by decide +kernel)) rfl
set_option maxRecDepth 20000 in
theorem wd_1067 : (Jvm.Cond.code ({ cls := "PromiseScopesModel", name := "tick", desc := "(I)I" } : Jvm.MethodName) prog_10_method_47_code (4 : Nat) (Option.some Jvm.ClassFile.FieldType.int)) ∈ ps_T := ps_in (List.mem_of_getElem? (i := 1108) rfl) rfl
theorem wd_1068 : (Jvm.Cond.methodLink "PromiseScopesModel" (233 : Nat) ({ cls := "PromiseScopesModel", name := "pass", desc := "()I" } : Jvm.MethodName)) ∈ ps_T := ps_in (List.mem_of_getElem? (i := 1109) (by decide +kernel)) rfl
theorem wd_1070 : (Jvm.Cond.instanceMethod ({ cls := "PromiseScopesModel", name := "pass", desc := "()I" } : Jvm.MethodName)) ∈ ps_T := ps_in (List.mem_of_getElem? (i := 1111) (by decide +kernel)) rfl
set_option maxRecDepth 20000 in
theorem wd_1071 : (Jvm.Cond.code ({ cls := "PromiseScopesModel", name := "pass", desc := "()I" } : Jvm.MethodName) prog_10_method_46_code (3 : Nat) (Option.some Jvm.ClassFile.FieldType.int)) ∈ ps_T := ps_in (List.mem_of_getElem? (i := 1112) rfl) rfl
theorem wd_1072 : (Jvm.Cond.methodLink "PromiseScopesModel" (227 : Nat) ({ cls := "PromiseScopesModel", name := "effective", desc := "(I)I" } : Jvm.MethodName)) ∈ ps_T := ps_in (List.mem_of_getElem? (i := 1113) (by decide +kernel)) rfl
theorem wd_1074 : (Jvm.Cond.instanceMethod ({ cls := "PromiseScopesModel", name := "effective", desc := "(I)I" } : Jvm.MethodName)) ∈ ps_T := ps_in (List.mem_of_getElem? (i := 1115) (by decide +kernel)) rfl
set_option maxRecDepth 20000 in
theorem wd_1075 : (Jvm.Cond.code ({ cls := "PromiseScopesModel", name := "effective", desc := "(I)I" } : Jvm.MethodName) prog_10_method_33_code (4 : Nat) (Option.some Jvm.ClassFile.FieldType.int)) ∈ ps_T := ps_in (List.mem_of_getElem? (i := 1116) rfl) rfl
theorem wd_1076 : (Jvm.Cond.methodLink "PromiseScopesModel" (230 : Nat) ({ cls := "PromiseScopesModel", name := "end", desc := "(I)V" } : Jvm.MethodName)) ∈ ps_T := ps_in (List.mem_of_getElem? (i := 1117) (by decide +kernel)) rfl
theorem wd_1078 : (Jvm.Cond.instanceMethod ({ cls := "PromiseScopesModel", name := "end", desc := "(I)V" } : Jvm.MethodName)) ∈ ps_T := ps_in (List.mem_of_getElem? (i := 1119) (by decide +kernel)) rfl
set_option maxRecDepth 20000 in
theorem wd_1079 : (Jvm.Cond.code ({ cls := "PromiseScopesModel", name := "end", desc := "(I)V" } : Jvm.MethodName) prog_10_method_45_code (3 : Nat) (Option.none : Option Jvm.ClassFile.FieldType)) ∈ ps_T := ps_in (List.mem_of_getElem? (i := 1120) rfl) rfl
theorem wd_1080 : (Jvm.Cond.methodLink "PromiseScopesLaw" (132 : Nat) ({ cls := "PromiseScopesModel", name := "scope", desc := "(II)I" } : Jvm.MethodName)) ∈ ps_T := ps_in (List.mem_of_getElem? (i := 1121) (by decide +kernel)) rfl
theorem wd_1081 : (Jvm.Cond.instanceMethod ({ cls := "PromiseScopesModel", name := "scope", desc := "(II)I" } : Jvm.MethodName)) ∈ ps_T := ps_in (List.mem_of_getElem? (i := 1122) (by decide +kernel)) rfl
theorem wd_1082 : (Jvm.Cond.selects "PromiseScopesModel" ({ cls := "PromiseScopesModel", name := "scope", desc := "(II)I" } : Jvm.MethodName) ({ cls := "PromiseScopesModel", name := "scope", desc := "(II)I" } : Jvm.MethodName)) ∈ ps_T := ps_in (List.mem_of_getElem? (i := 1123) (by decide +kernel)) rfl
set_option maxRecDepth 20000 in
theorem wd_1083 : (Jvm.Cond.code ({ cls := "PromiseScopesModel", name := "scope", desc := "(II)I" } : Jvm.MethodName) prog_10_method_48_code (5 : Nat) (Option.some Jvm.ClassFile.FieldType.int)) ∈ ps_T := ps_in (List.mem_of_getElem? (i := 1124) rfl) rfl
theorem wd_1084 : (Jvm.Cond.methodLink "PromiseScopesLaw" (140 : Nat) ({ cls := "PromiseScopesModel", name := "task", desc := "(II)I" } : Jvm.MethodName)) ∈ ps_T := ps_in (List.mem_of_getElem? (i := 1125) (by decide +kernel)) rfl
theorem wd_1085 : (Jvm.Cond.instanceMethod ({ cls := "PromiseScopesModel", name := "task", desc := "(II)I" } : Jvm.MethodName)) ∈ ps_T := ps_in (List.mem_of_getElem? (i := 1126) (by decide +kernel)) rfl
theorem wd_1086 : (Jvm.Cond.selects "PromiseScopesModel" ({ cls := "PromiseScopesModel", name := "task", desc := "(II)I" } : Jvm.MethodName) ({ cls := "PromiseScopesModel", name := "task", desc := "(II)I" } : Jvm.MethodName)) ∈ ps_T := ps_in (List.mem_of_getElem? (i := 1127) (by decide +kernel)) rfl
set_option maxRecDepth 20000 in
theorem wd_1087 : (Jvm.Cond.code ({ cls := "PromiseScopesModel", name := "task", desc := "(II)I" } : Jvm.MethodName) prog_10_method_49_code (3 : Nat) (Option.some Jvm.ClassFile.FieldType.int)) ∈ ps_T := ps_in (List.mem_of_getElem? (i := 1128) rfl) rfl
theorem wd_1088 : (Jvm.Cond.constantLong "PromiseScopesLaw" (68 : Nat) (4294967295 : Int64)) ∈ ps_T := ps_in (List.mem_of_getElem? (i := 1129) (by decide +kernel)) rfl
theorem in_Ps : ∀ w ∈ u_ws "PromiseScopes" T_Ps 2, w ∈ ps_T := List.forall_mem_cons.mpr ⟨wd_102, List.forall_mem_cons.mpr ⟨wd_104, fun _ h => absurd h List.not_mem_nil⟩⟩
theorem in_Graph : ∀ w ∈ u_ws "PromiseScopes$StageGraph" T_Graph 5, w ∈ ps_T := List.forall_mem_cons.mpr ⟨wd_57, List.forall_mem_cons.mpr ⟨wd_59, List.forall_mem_cons.mpr ⟨wd_61, List.forall_mem_cons.mpr ⟨wd_63, List.forall_mem_cons.mpr ⟨wd_65, fun _ h => absurd h List.not_mem_nil⟩⟩⟩⟩⟩
theorem in_Queue : ∀ w ∈ u_ws "PromiseScopes$StageQueue" T_Queue 3, w ∈ ps_T := List.forall_mem_cons.mpr ⟨wd_44, List.forall_mem_cons.mpr ⟨wd_46, List.forall_mem_cons.mpr ⟨wd_48, fun _ h => absurd h List.not_mem_nil⟩⟩⟩
theorem in_Stage : ∀ w ∈ u_ws "PromiseScopes$Stage" T_Stage 11, w ∈ ps_T := List.forall_mem_cons.mpr ⟨wd_496, List.forall_mem_cons.mpr ⟨wd_498, List.forall_mem_cons.mpr ⟨wd_500, List.forall_mem_cons.mpr ⟨wd_502, List.forall_mem_cons.mpr ⟨wd_504, List.forall_mem_cons.mpr ⟨wd_506, List.forall_mem_cons.mpr ⟨wd_508, List.forall_mem_cons.mpr ⟨wd_510, List.forall_mem_cons.mpr ⟨wd_512, List.forall_mem_cons.mpr ⟨wd_514, List.forall_mem_cons.mpr ⟨wd_516, fun _ h => absurd h List.not_mem_nil⟩⟩⟩⟩⟩⟩⟩⟩⟩⟩⟩
theorem in_Scope : ∀ w ∈ u_ws "PromiseScopes$Scope" T_Scope 10, w ∈ ps_T := List.forall_mem_cons.mpr ⟨wd_659, List.forall_mem_cons.mpr ⟨wd_661, List.forall_mem_cons.mpr ⟨wd_663, List.forall_mem_cons.mpr ⟨wd_665, List.forall_mem_cons.mpr ⟨wd_667, List.forall_mem_cons.mpr ⟨wd_669, List.forall_mem_cons.mpr ⟨wd_671, List.forall_mem_cons.mpr ⟨wd_673, List.forall_mem_cons.mpr ⟨wd_675, List.forall_mem_cons.mpr ⟨wd_677, fun _ h => absurd h List.not_mem_nil⟩⟩⟩⟩⟩⟩⟩⟩⟩⟩
theorem in_Task : ∀ w ∈ u_ws "PromiseScopes$Task" T_Task 9, w ∈ ps_T := List.forall_mem_cons.mpr ⟨wd_728, List.forall_mem_cons.mpr ⟨wd_730, List.forall_mem_cons.mpr ⟨wd_732, List.forall_mem_cons.mpr ⟨wd_734, List.forall_mem_cons.mpr ⟨wd_736, List.forall_mem_cons.mpr ⟨wd_738, List.forall_mem_cons.mpr ⟨wd_740, List.forall_mem_cons.mpr ⟨wd_742, List.forall_mem_cons.mpr ⟨wd_744, fun _ h => absurd h List.not_mem_nil⟩⟩⟩⟩⟩⟩⟩⟩⟩
theorem in_Tree : ∀ w ∈ u_ws "PromiseScopes$ScopeTree" T_Tree 6, w ∈ ps_T := List.forall_mem_cons.mpr ⟨wd_87, List.forall_mem_cons.mpr ⟨wd_89, List.forall_mem_cons.mpr ⟨wd_91, List.forall_mem_cons.mpr ⟨wd_93, List.forall_mem_cons.mpr ⟨wd_95, List.forall_mem_cons.mpr ⟨wd_97, fun _ h => absurd h List.not_mem_nil⟩⟩⟩⟩⟩⟩
theorem in_Mod : ∀ w ∈ u_ws "PromiseScopesModel" T_Mod 44, w ∈ ps_T := List.forall_mem_cons.mpr ⟨wd_806, List.forall_mem_cons.mpr ⟨wd_808, List.forall_mem_cons.mpr ⟨wd_810, List.forall_mem_cons.mpr ⟨wd_812, List.forall_mem_cons.mpr ⟨wd_814, List.forall_mem_cons.mpr ⟨wd_816, List.forall_mem_cons.mpr ⟨wd_818, List.forall_mem_cons.mpr ⟨wd_820, List.forall_mem_cons.mpr ⟨wd_822, List.forall_mem_cons.mpr ⟨wd_824, List.forall_mem_cons.mpr ⟨wd_826, List.forall_mem_cons.mpr ⟨wd_828, List.forall_mem_cons.mpr ⟨wd_830, List.forall_mem_cons.mpr ⟨wd_832, List.forall_mem_cons.mpr ⟨wd_834, List.forall_mem_cons.mpr ⟨wd_836, List.forall_mem_cons.mpr ⟨wd_838, List.forall_mem_cons.mpr ⟨wd_840, List.forall_mem_cons.mpr ⟨wd_842, List.forall_mem_cons.mpr ⟨wd_844, List.forall_mem_cons.mpr ⟨wd_846, List.forall_mem_cons.mpr ⟨wd_848, List.forall_mem_cons.mpr ⟨wd_850, List.forall_mem_cons.mpr ⟨wd_852, List.forall_mem_cons.mpr ⟨wd_854, List.forall_mem_cons.mpr ⟨wd_856, List.forall_mem_cons.mpr ⟨wd_858, List.forall_mem_cons.mpr ⟨wd_860, List.forall_mem_cons.mpr ⟨wd_862, List.forall_mem_cons.mpr ⟨wd_864, List.forall_mem_cons.mpr ⟨wd_866, List.forall_mem_cons.mpr ⟨wd_868, List.forall_mem_cons.mpr ⟨wd_870, List.forall_mem_cons.mpr ⟨wd_872, List.forall_mem_cons.mpr ⟨wd_874, List.forall_mem_cons.mpr ⟨wd_876, List.forall_mem_cons.mpr ⟨wd_878, List.forall_mem_cons.mpr ⟨wd_880, List.forall_mem_cons.mpr ⟨wd_882, List.forall_mem_cons.mpr ⟨wd_884, List.forall_mem_cons.mpr ⟨wd_886, List.forall_mem_cons.mpr ⟨wd_888, List.forall_mem_cons.mpr ⟨wd_890, List.forall_mem_cons.mpr ⟨wd_892, fun _ h => absurd h List.not_mem_nil⟩⟩⟩⟩⟩⟩⟩⟩⟩⟩⟩⟩⟩⟩⟩⟩⟩⟩⟩⟩⟩⟩⟩⟩⟩⟩⟩⟩⟩⟩⟩⟩⟩⟩⟩⟩⟩⟩⟩⟩⟩⟩⟩⟩
end
section
/-! A row for each field: read, written (by walk.py). -/
section PSF
variable {p : Program} {l : Launch} {e : Env} {R : Room} {s : State} {m : MethodId} {args : Array Value} {below : List Frame} {meth : Method} {c : Code} {nL : Nat} {D : va_G} {ca : Nat → ClassId} {A : Nat → Prop} {H0 : Heap} {adr0 : Nat → Nat → Nat} {σ0 : ps_S} {Q : State → Prop}
variable {cc : ByteArray} {own : String} {pc : Nat} {L : List (Nat × ps_A)} {st : List ps_A} {σ : ps_S} {ce sl : Nat}
theorem ps_zb {x : Int32} (h : x = 0 ∨ x = 1) : narrow .boolean (.int x) = .int x := by rcases h with rfl | rfl <;> rfl
theorem ps_zf {x : Int32} (h : x = 0 ∨ x = 1) : fits .boolean (.int x) = true := by rcases h with rfl | rfl <;> rfl
abbrev fs_Ps (σ : ps_S) (i : Nat) (adr : Nat → Nat → Nat) : List Value := [va_rf (ps_e adr (ps_R σ 0 i 0)), va_rf (ps_e adr (ps_R σ 0 i 1))]
theorem cell_Ps (ca : Nat → ClassId) (adr : Nat → Nat → Nat) (σ : ps_S) (i : Nat) : ps_cell ca adr σ 0 i = .inr (0, fs_Ps σ i adr) := rfl
theorem gf_Ps_graph (E : ps_E p s m c cc nL own D ca) {index i : Nat} (hl : Cond.fieldLink own index "PromiseScopes" "graph" "LPromiseScopes$StageGraph;" ∈ ps_T) (hd : decode cc pc = .ok (.getfield index, 3)) (kk : ps_V p l e R s m args below meth c nL D ca A H0 adr0 σ0 Q (pc + 3) L (ps_ref (ps_R σ 0 i 0) :: st) σ ce sl) : ps_V p l e R s m args below meth c nL D ca A H0 adr0 σ0 Q pc L (ps_ref (some (0, i)) :: st) σ ce sl :=
  pv_get E (ci := 0) (T := T_Ps) 0 i 0 (fs_Ps σ i) (ps_ref (ps_R σ 0 i 0)) (fun _ => rfl) (fun _ => rfl) (Or.inl rfl) rfl in_Ps (by decide) hl hd kk
theorem pf_Ps_graph (E : ps_E p s m c cc nL "PromiseScopes" D ca) {index i : Nat} {x : Option (Nat × Nat)} (hl : Cond.fieldLink "PromiseScopes" index "PromiseScopes" "graph" "LPromiseScopes$StageGraph;" ∈ ps_T) (hd : decode cc pc = .ok (.putfield index, 3)) (hin2 : meth.name = "<init>") (kk : ps_V p l e R s m args below meth c nL D ca A H0 adr0 σ0 Q (pc + 3) L st (ps_sR σ 0 i 0 x) ce sl) : ps_V p l e R s m args below meth c nL D ca A H0 adr0 σ0 Q pc L (ps_ref x :: ps_ref (some (0, i)) :: st) σ ce sl :=
  pv_putRF E (ci := 0) (T := T_Ps) (ty := .object "PromiseScopes$StageGraph") 0 i 0 x (fs_Ps σ i) (fun _ => rfl) (fun _ => rfl) (fun _ => Nat.le_of_ble_eq_true rfl) rfl in_Ps ty_Ps ty_Ps_ok nm_Ps (by decide) hl rfl hin2 rfl rfl (Or.inl ⟨_, rfl⟩) hd kk
theorem gf_Ps_tree (E : ps_E p s m c cc nL own D ca) {index i : Nat} (hl : Cond.fieldLink own index "PromiseScopes" "tree" "LPromiseScopes$ScopeTree;" ∈ ps_T) (hd : decode cc pc = .ok (.getfield index, 3)) (kk : ps_V p l e R s m args below meth c nL D ca A H0 adr0 σ0 Q (pc + 3) L (ps_ref (ps_R σ 0 i 1) :: st) σ ce sl) : ps_V p l e R s m args below meth c nL D ca A H0 adr0 σ0 Q pc L (ps_ref (some (0, i)) :: st) σ ce sl :=
  pv_get E (ci := 0) (T := T_Ps) 0 i 1 (fs_Ps σ i) (ps_ref (ps_R σ 0 i 1)) (fun _ => rfl) (fun _ => rfl) (Or.inl rfl) rfl in_Ps (by decide) hl hd kk
theorem pf_Ps_tree (E : ps_E p s m c cc nL "PromiseScopes" D ca) {index i : Nat} {x : Option (Nat × Nat)} (hl : Cond.fieldLink "PromiseScopes" index "PromiseScopes" "tree" "LPromiseScopes$ScopeTree;" ∈ ps_T) (hd : decode cc pc = .ok (.putfield index, 3)) (hin2 : meth.name = "<init>") (kk : ps_V p l e R s m args below meth c nL D ca A H0 adr0 σ0 Q (pc + 3) L st (ps_sR σ 0 i 1 x) ce sl) : ps_V p l e R s m args below meth c nL D ca A H0 adr0 σ0 Q pc L (ps_ref x :: ps_ref (some (0, i)) :: st) σ ce sl :=
  pv_putRF E (ci := 0) (T := T_Ps) (ty := .object "PromiseScopes$ScopeTree") 0 i 1 x (fs_Ps σ i) (fun _ => rfl) (fun _ => rfl) (fun _ => Nat.le_of_ble_eq_true rfl) rfl in_Ps ty_Ps ty_Ps_ok nm_Ps (by decide) hl rfl hin2 rfl rfl (Or.inl ⟨_, rfl⟩) hd kk
abbrev fs_Graph (σ : ps_S) (i : Nat) (adr : Nat → Nat → Nat) : List Value := [va_rf (ps_e adr (ps_R σ 1 i 0)), va_rf (ps_e adr (ps_R σ 1 i 1)), va_rf (ps_e adr (ps_R σ 1 i 2)), .int (ps_I σ 1 i 3), .int (ps_I σ 1 i 4)]
theorem cell_Graph (ca : Nat → ClassId) (adr : Nat → Nat → Nat) (σ : ps_S) (i : Nat) : ps_cell ca adr σ 1 i = .inr (1, fs_Graph σ i adr) := rfl
theorem gf_Graph_stages (E : ps_E p s m c cc nL own D ca) {index i : Nat} (hl : Cond.fieldLink own index "PromiseScopes$StageGraph" "stages" "[LPromiseScopes$Stage;" ∈ ps_T) (hd : decode cc pc = .ok (.getfield index, 3)) (kk : ps_V p l e R s m args below meth c nL D ca A H0 adr0 σ0 Q (pc + 3) L (ps_ref (ps_R σ 1 i 0) :: st) σ ce sl) : ps_V p l e R s m args below meth c nL D ca A H0 adr0 σ0 Q pc L (ps_ref (some (1, i)) :: st) σ ce sl :=
  pv_get E (ci := 1) (T := T_Graph) 1 i 0 (fs_Graph σ i) (ps_ref (ps_R σ 1 i 0)) (fun _ => rfl) (fun _ => rfl) (Or.inl rfl) rfl in_Graph (by decide) hl hd kk
theorem pf_Graph_stages (E : ps_E p s m c cc nL "PromiseScopes$StageGraph" D ca) {index i : Nat} {x : Option (Nat × Nat)} (hl : Cond.fieldLink "PromiseScopes$StageGraph" index "PromiseScopes$StageGraph" "stages" "[LPromiseScopes$Stage;" ∈ ps_T) (hd : decode cc pc = .ok (.putfield index, 3)) (hin2 : meth.name = "<init>") (kk : ps_V p l e R s m args below meth c nL D ca A H0 adr0 σ0 Q (pc + 3) L st (ps_sR σ 1 i 0 x) ce sl) : ps_V p l e R s m args below meth c nL D ca A H0 adr0 σ0 Q pc L (ps_ref x :: ps_ref (some (1, i)) :: st) σ ce sl :=
  pv_putRF E (ci := 1) (T := T_Graph) (ty := .array (.object "PromiseScopes$Stage")) 1 i 0 x (fs_Graph σ i) (fun _ => rfl) (fun _ => rfl) (fun _ => Nat.le_of_ble_eq_true rfl) rfl in_Graph ty_Graph ty_Graph_ok nm_Graph (by decide) hl rfl hin2 rfl rfl (Or.inr ⟨_, rfl⟩) hd kk
theorem gf_Graph_line (E : ps_E p s m c cc nL own D ca) {index i : Nat} (hl : Cond.fieldLink own index "PromiseScopes$StageGraph" "line" "LPromiseScopes$StageQueue;" ∈ ps_T) (hd : decode cc pc = .ok (.getfield index, 3)) (kk : ps_V p l e R s m args below meth c nL D ca A H0 adr0 σ0 Q (pc + 3) L (ps_ref (ps_R σ 1 i 1) :: st) σ ce sl) : ps_V p l e R s m args below meth c nL D ca A H0 adr0 σ0 Q pc L (ps_ref (some (1, i)) :: st) σ ce sl :=
  pv_get E (ci := 1) (T := T_Graph) 1 i 1 (fs_Graph σ i) (ps_ref (ps_R σ 1 i 1)) (fun _ => rfl) (fun _ => rfl) (Or.inl rfl) rfl in_Graph (by decide) hl hd kk
theorem pf_Graph_line (E : ps_E p s m c cc nL "PromiseScopes$StageGraph" D ca) {index i : Nat} {x : Option (Nat × Nat)} (hl : Cond.fieldLink "PromiseScopes$StageGraph" index "PromiseScopes$StageGraph" "line" "LPromiseScopes$StageQueue;" ∈ ps_T) (hd : decode cc pc = .ok (.putfield index, 3)) (hin2 : meth.name = "<init>") (kk : ps_V p l e R s m args below meth c nL D ca A H0 adr0 σ0 Q (pc + 3) L st (ps_sR σ 1 i 1 x) ce sl) : ps_V p l e R s m args below meth c nL D ca A H0 adr0 σ0 Q pc L (ps_ref x :: ps_ref (some (1, i)) :: st) σ ce sl :=
  pv_putRF E (ci := 1) (T := T_Graph) (ty := .object "PromiseScopes$StageQueue") 1 i 1 x (fs_Graph σ i) (fun _ => rfl) (fun _ => rfl) (fun _ => Nat.le_of_ble_eq_true rfl) rfl in_Graph ty_Graph ty_Graph_ok nm_Graph (by decide) hl rfl hin2 rfl rfl (Or.inl ⟨_, rfl⟩) hd kk
theorem gf_Graph_pool (E : ps_E p s m c cc nL own D ca) {index i : Nat} (hl : Cond.fieldLink own index "PromiseScopes$StageGraph" "pool" "LPromiseScopes$StageQueue;" ∈ ps_T) (hd : decode cc pc = .ok (.getfield index, 3)) (kk : ps_V p l e R s m args below meth c nL D ca A H0 adr0 σ0 Q (pc + 3) L (ps_ref (ps_R σ 1 i 2) :: st) σ ce sl) : ps_V p l e R s m args below meth c nL D ca A H0 adr0 σ0 Q pc L (ps_ref (some (1, i)) :: st) σ ce sl :=
  pv_get E (ci := 1) (T := T_Graph) 1 i 2 (fs_Graph σ i) (ps_ref (ps_R σ 1 i 2)) (fun _ => rfl) (fun _ => rfl) (Or.inl rfl) rfl in_Graph (by decide) hl hd kk
theorem pf_Graph_pool (E : ps_E p s m c cc nL "PromiseScopes$StageGraph" D ca) {index i : Nat} {x : Option (Nat × Nat)} (hl : Cond.fieldLink "PromiseScopes$StageGraph" index "PromiseScopes$StageGraph" "pool" "LPromiseScopes$StageQueue;" ∈ ps_T) (hd : decode cc pc = .ok (.putfield index, 3)) (hin2 : meth.name = "<init>") (kk : ps_V p l e R s m args below meth c nL D ca A H0 adr0 σ0 Q (pc + 3) L st (ps_sR σ 1 i 2 x) ce sl) : ps_V p l e R s m args below meth c nL D ca A H0 adr0 σ0 Q pc L (ps_ref x :: ps_ref (some (1, i)) :: st) σ ce sl :=
  pv_putRF E (ci := 1) (T := T_Graph) (ty := .object "PromiseScopes$StageQueue") 1 i 2 x (fs_Graph σ i) (fun _ => rfl) (fun _ => rfl) (fun _ => Nat.le_of_ble_eq_true rfl) rfl in_Graph ty_Graph ty_Graph_ok nm_Graph (by decide) hl rfl hin2 rfl rfl (Or.inl ⟨_, rfl⟩) hd kk
theorem gf_Graph_made (E : ps_E p s m c cc nL own D ca) {index i : Nat} (hl : Cond.fieldLink own index "PromiseScopes$StageGraph" "made" "I" ∈ ps_T) (hd : decode cc pc = .ok (.getfield index, 3)) (kk : ps_V p l e R s m args below meth c nL D ca A H0 adr0 σ0 Q (pc + 3) L (ps_int (ps_I σ 1 i 3) :: st) σ ce sl) : ps_V p l e R s m args below meth c nL D ca A H0 adr0 σ0 Q pc L (ps_ref (some (1, i)) :: st) σ ce sl :=
  pv_get E (ci := 1) (T := T_Graph) 1 i 3 (fs_Graph σ i) (ps_int (ps_I σ 1 i 3)) (fun _ => rfl) (fun _ => rfl) (Or.inr fun _ => trivial) rfl in_Graph (by decide) hl hd kk
theorem pf_Graph_made (E : ps_E p s m c cc nL own D ca) {index i : Nat} {x : Int32} (hl : Cond.fieldLink own index "PromiseScopes$StageGraph" "made" "I" ∈ ps_T) (hd : decode cc pc = .ok (.putfield index, 3)) (kk : ps_V p l e R s m args below meth c nL D ca A H0 adr0 σ0 Q (pc + 3) L st (ps_sI σ 1 i 3 x) ce sl) : ps_V p l e R s m args below meth c nL D ca A H0 adr0 σ0 Q pc L (ps_int x :: ps_ref (some (1, i)) :: st) σ ce sl :=
  pv_putI E (ci := 1) (T := T_Graph) (ty := .int) 1 i 3 x (fs_Graph σ i) (fun _ => rfl) (fun _ => rfl) (fun _ => Nat.le_of_ble_eq_true rfl) rfl in_Graph ty_Graph ty_Graph_ok nm_Graph (by decide) hl rfl rfl rfl rfl hd kk
theorem gf_Graph_settled (E : ps_E p s m c cc nL own D ca) {index i : Nat} (hl : Cond.fieldLink own index "PromiseScopes$StageGraph" "settled" "I" ∈ ps_T) (hd : decode cc pc = .ok (.getfield index, 3)) (kk : ps_V p l e R s m args below meth c nL D ca A H0 adr0 σ0 Q (pc + 3) L (ps_int (ps_I σ 1 i 4) :: st) σ ce sl) : ps_V p l e R s m args below meth c nL D ca A H0 adr0 σ0 Q pc L (ps_ref (some (1, i)) :: st) σ ce sl :=
  pv_get E (ci := 1) (T := T_Graph) 1 i 4 (fs_Graph σ i) (ps_int (ps_I σ 1 i 4)) (fun _ => rfl) (fun _ => rfl) (Or.inr fun _ => trivial) rfl in_Graph (by decide) hl hd kk
theorem pf_Graph_settled (E : ps_E p s m c cc nL own D ca) {index i : Nat} {x : Int32} (hl : Cond.fieldLink own index "PromiseScopes$StageGraph" "settled" "I" ∈ ps_T) (hd : decode cc pc = .ok (.putfield index, 3)) (kk : ps_V p l e R s m args below meth c nL D ca A H0 adr0 σ0 Q (pc + 3) L st (ps_sI σ 1 i 4 x) ce sl) : ps_V p l e R s m args below meth c nL D ca A H0 adr0 σ0 Q pc L (ps_int x :: ps_ref (some (1, i)) :: st) σ ce sl :=
  pv_putI E (ci := 1) (T := T_Graph) (ty := .int) 1 i 4 x (fs_Graph σ i) (fun _ => rfl) (fun _ => rfl) (fun _ => Nat.le_of_ble_eq_true rfl) rfl in_Graph ty_Graph ty_Graph_ok nm_Graph (by decide) hl rfl rfl rfl rfl hd kk
abbrev fs_Queue (σ : ps_S) (i : Nat) (adr : Nat → Nat → Nat) : List Value := [va_rf (ps_e adr (ps_R σ 2 i 0)), .int (ps_I σ 2 i 1), .int (ps_I σ 2 i 2)]
theorem cell_Queue (ca : Nat → ClassId) (adr : Nat → Nat → Nat) (σ : ps_S) (i : Nat) : ps_cell ca adr σ 2 i = .inr (2, fs_Queue σ i adr) := rfl
theorem gf_Queue_ring (E : ps_E p s m c cc nL own D ca) {index i : Nat} (hl : Cond.fieldLink own index "PromiseScopes$StageQueue" "ring" "[LPromiseScopes$Stage;" ∈ ps_T) (hd : decode cc pc = .ok (.getfield index, 3)) (kk : ps_V p l e R s m args below meth c nL D ca A H0 adr0 σ0 Q (pc + 3) L (ps_ref (ps_R σ 2 i 0) :: st) σ ce sl) : ps_V p l e R s m args below meth c nL D ca A H0 adr0 σ0 Q pc L (ps_ref (some (2, i)) :: st) σ ce sl :=
  pv_get E (ci := 2) (T := T_Queue) 2 i 0 (fs_Queue σ i) (ps_ref (ps_R σ 2 i 0)) (fun _ => rfl) (fun _ => rfl) (Or.inl rfl) rfl in_Queue (by decide) hl hd kk
theorem pf_Queue_ring (E : ps_E p s m c cc nL "PromiseScopes$StageQueue" D ca) {index i : Nat} {x : Option (Nat × Nat)} (hl : Cond.fieldLink "PromiseScopes$StageQueue" index "PromiseScopes$StageQueue" "ring" "[LPromiseScopes$Stage;" ∈ ps_T) (hd : decode cc pc = .ok (.putfield index, 3)) (hin2 : meth.name = "<init>") (kk : ps_V p l e R s m args below meth c nL D ca A H0 adr0 σ0 Q (pc + 3) L st (ps_sR σ 2 i 0 x) ce sl) : ps_V p l e R s m args below meth c nL D ca A H0 adr0 σ0 Q pc L (ps_ref x :: ps_ref (some (2, i)) :: st) σ ce sl :=
  pv_putRF E (ci := 2) (T := T_Queue) (ty := .array (.object "PromiseScopes$Stage")) 2 i 0 x (fs_Queue σ i) (fun _ => rfl) (fun _ => rfl) (fun _ => Nat.le_of_ble_eq_true rfl) rfl in_Queue ty_Queue ty_Queue_ok nm_Queue (by decide) hl rfl hin2 rfl rfl (Or.inr ⟨_, rfl⟩) hd kk
theorem gf_Queue_front (E : ps_E p s m c cc nL own D ca) {index i : Nat} (hl : Cond.fieldLink own index "PromiseScopes$StageQueue" "front" "I" ∈ ps_T) (hd : decode cc pc = .ok (.getfield index, 3)) (kk : ps_V p l e R s m args below meth c nL D ca A H0 adr0 σ0 Q (pc + 3) L (ps_int (ps_I σ 2 i 1) :: st) σ ce sl) : ps_V p l e R s m args below meth c nL D ca A H0 adr0 σ0 Q pc L (ps_ref (some (2, i)) :: st) σ ce sl :=
  pv_get E (ci := 2) (T := T_Queue) 2 i 1 (fs_Queue σ i) (ps_int (ps_I σ 2 i 1)) (fun _ => rfl) (fun _ => rfl) (Or.inr fun _ => trivial) rfl in_Queue (by decide) hl hd kk
theorem pf_Queue_front (E : ps_E p s m c cc nL own D ca) {index i : Nat} {x : Int32} (hl : Cond.fieldLink own index "PromiseScopes$StageQueue" "front" "I" ∈ ps_T) (hd : decode cc pc = .ok (.putfield index, 3)) (kk : ps_V p l e R s m args below meth c nL D ca A H0 adr0 σ0 Q (pc + 3) L st (ps_sI σ 2 i 1 x) ce sl) : ps_V p l e R s m args below meth c nL D ca A H0 adr0 σ0 Q pc L (ps_int x :: ps_ref (some (2, i)) :: st) σ ce sl :=
  pv_putI E (ci := 2) (T := T_Queue) (ty := .int) 2 i 1 x (fs_Queue σ i) (fun _ => rfl) (fun _ => rfl) (fun _ => Nat.le_of_ble_eq_true rfl) rfl in_Queue ty_Queue ty_Queue_ok nm_Queue (by decide) hl rfl rfl rfl rfl hd kk
theorem gf_Queue_size (E : ps_E p s m c cc nL own D ca) {index i : Nat} (hl : Cond.fieldLink own index "PromiseScopes$StageQueue" "size" "I" ∈ ps_T) (hd : decode cc pc = .ok (.getfield index, 3)) (kk : ps_V p l e R s m args below meth c nL D ca A H0 adr0 σ0 Q (pc + 3) L (ps_int (ps_I σ 2 i 2) :: st) σ ce sl) : ps_V p l e R s m args below meth c nL D ca A H0 adr0 σ0 Q pc L (ps_ref (some (2, i)) :: st) σ ce sl :=
  pv_get E (ci := 2) (T := T_Queue) 2 i 2 (fs_Queue σ i) (ps_int (ps_I σ 2 i 2)) (fun _ => rfl) (fun _ => rfl) (Or.inr fun _ => trivial) rfl in_Queue (by decide) hl hd kk
theorem pf_Queue_size (E : ps_E p s m c cc nL own D ca) {index i : Nat} {x : Int32} (hl : Cond.fieldLink own index "PromiseScopes$StageQueue" "size" "I" ∈ ps_T) (hd : decode cc pc = .ok (.putfield index, 3)) (kk : ps_V p l e R s m args below meth c nL D ca A H0 adr0 σ0 Q (pc + 3) L st (ps_sI σ 2 i 2 x) ce sl) : ps_V p l e R s m args below meth c nL D ca A H0 adr0 σ0 Q pc L (ps_int x :: ps_ref (some (2, i)) :: st) σ ce sl :=
  pv_putI E (ci := 2) (T := T_Queue) (ty := .int) 2 i 2 x (fs_Queue σ i) (fun _ => rfl) (fun _ => rfl) (fun _ => Nat.le_of_ble_eq_true rfl) rfl in_Queue ty_Queue ty_Queue_ok nm_Queue (by decide) hl rfl rfl rfl rfl hd kk
abbrev fs_Stage (σ : ps_S) (i : Nat) (adr : Nat → Nat → Nat) : List Value := [.int (ps_I σ 3 i 0), .int (ps_I σ 3 i 1), .int (ps_I σ 3 i 2), .int (ps_I σ 3 i 3), .int (ps_I σ 3 i 4), va_rf (ps_e adr (ps_R σ 3 i 5)), .int (ps_I σ 3 i 6), .int (ps_I σ 3 i 7), .int (ps_I σ 3 i 8), va_rf (ps_e adr (ps_R σ 3 i 9)), .int (ps_I σ 3 i 10)]
theorem cell_Stage (ca : Nat → ClassId) (adr : Nat → Nat → Nat) (σ : ps_S) (i : Nat) : ps_cell ca adr σ 3 i = .inr (3, fs_Stage σ i adr) := rfl
theorem gf_Stage_number (E : ps_E p s m c cc nL own D ca) {index i : Nat} (hl : Cond.fieldLink own index "PromiseScopes$Stage" "number" "I" ∈ ps_T) (hd : decode cc pc = .ok (.getfield index, 3)) (kk : ps_V p l e R s m args below meth c nL D ca A H0 adr0 σ0 Q (pc + 3) L (ps_int (ps_I σ 3 i 0) :: st) σ ce sl) : ps_V p l e R s m args below meth c nL D ca A H0 adr0 σ0 Q pc L (ps_ref (some (3, i)) :: st) σ ce sl :=
  pv_get E (ci := 3) (T := T_Stage) 3 i 0 (fs_Stage σ i) (ps_int (ps_I σ 3 i 0)) (fun _ => rfl) (fun _ => rfl) (Or.inr fun _ => trivial) rfl in_Stage (by decide) hl hd kk
theorem pf_Stage_number (E : ps_E p s m c cc nL "PromiseScopes$Stage" D ca) {index i : Nat} {x : Int32} (hl : Cond.fieldLink "PromiseScopes$Stage" index "PromiseScopes$Stage" "number" "I" ∈ ps_T) (hd : decode cc pc = .ok (.putfield index, 3)) (hin2 : meth.name = "<init>") (kk : ps_V p l e R s m args below meth c nL D ca A H0 adr0 σ0 Q (pc + 3) L st (ps_sI σ 3 i 0 x) ce sl) : ps_V p l e R s m args below meth c nL D ca A H0 adr0 σ0 Q pc L (ps_int x :: ps_ref (some (3, i)) :: st) σ ce sl :=
  pv_putIF E (ci := 3) (T := T_Stage) (ty := .int) 3 i 0 x (fs_Stage σ i) (fun _ => rfl) (fun _ => rfl) (fun _ => Nat.le_of_ble_eq_true rfl) rfl in_Stage ty_Stage ty_Stage_ok nm_Stage (by decide) hl rfl hin2 rfl rfl rfl rfl hd kk
theorem gf_Stage_kind (E : ps_E p s m c cc nL own D ca) {index i : Nat} (hl : Cond.fieldLink own index "PromiseScopes$Stage" "kind" "I" ∈ ps_T) (hd : decode cc pc = .ok (.getfield index, 3)) (kk : ps_V p l e R s m args below meth c nL D ca A H0 adr0 σ0 Q (pc + 3) L (ps_int (ps_I σ 3 i 1) :: st) σ ce sl) : ps_V p l e R s m args below meth c nL D ca A H0 adr0 σ0 Q pc L (ps_ref (some (3, i)) :: st) σ ce sl :=
  pv_get E (ci := 3) (T := T_Stage) 3 i 1 (fs_Stage σ i) (ps_int (ps_I σ 3 i 1)) (fun _ => rfl) (fun _ => rfl) (Or.inr fun _ => trivial) rfl in_Stage (by decide) hl hd kk
theorem pf_Stage_kind (E : ps_E p s m c cc nL "PromiseScopes$Stage" D ca) {index i : Nat} {x : Int32} (hl : Cond.fieldLink "PromiseScopes$Stage" index "PromiseScopes$Stage" "kind" "I" ∈ ps_T) (hd : decode cc pc = .ok (.putfield index, 3)) (hin2 : meth.name = "<init>") (kk : ps_V p l e R s m args below meth c nL D ca A H0 adr0 σ0 Q (pc + 3) L st (ps_sI σ 3 i 1 x) ce sl) : ps_V p l e R s m args below meth c nL D ca A H0 adr0 σ0 Q pc L (ps_int x :: ps_ref (some (3, i)) :: st) σ ce sl :=
  pv_putIF E (ci := 3) (T := T_Stage) (ty := .int) 3 i 1 x (fs_Stage σ i) (fun _ => rfl) (fun _ => rfl) (fun _ => Nat.le_of_ble_eq_true rfl) rfl in_Stage ty_Stage ty_Stage_ok nm_Stage (by decide) hl rfl hin2 rfl rfl rfl rfl hd kk
theorem gf_Stage_function (E : ps_E p s m c cc nL own D ca) {index i : Nat} (hl : Cond.fieldLink own index "PromiseScopes$Stage" "function" "I" ∈ ps_T) (hd : decode cc pc = .ok (.getfield index, 3)) (kk : ps_V p l e R s m args below meth c nL D ca A H0 adr0 σ0 Q (pc + 3) L (ps_int (ps_I σ 3 i 2) :: st) σ ce sl) : ps_V p l e R s m args below meth c nL D ca A H0 adr0 σ0 Q pc L (ps_ref (some (3, i)) :: st) σ ce sl :=
  pv_get E (ci := 3) (T := T_Stage) 3 i 2 (fs_Stage σ i) (ps_int (ps_I σ 3 i 2)) (fun _ => rfl) (fun _ => rfl) (Or.inr fun _ => trivial) rfl in_Stage (by decide) hl hd kk
theorem pf_Stage_function (E : ps_E p s m c cc nL "PromiseScopes$Stage" D ca) {index i : Nat} {x : Int32} (hl : Cond.fieldLink "PromiseScopes$Stage" index "PromiseScopes$Stage" "function" "I" ∈ ps_T) (hd : decode cc pc = .ok (.putfield index, 3)) (hin2 : meth.name = "<init>") (kk : ps_V p l e R s m args below meth c nL D ca A H0 adr0 σ0 Q (pc + 3) L st (ps_sI σ 3 i 2 x) ce sl) : ps_V p l e R s m args below meth c nL D ca A H0 adr0 σ0 Q pc L (ps_int x :: ps_ref (some (3, i)) :: st) σ ce sl :=
  pv_putIF E (ci := 3) (T := T_Stage) (ty := .int) 3 i 2 x (fs_Stage σ i) (fun _ => rfl) (fun _ => rfl) (fun _ => Nat.le_of_ble_eq_true rfl) rfl in_Stage ty_Stage ty_Stage_ok nm_Stage (by decide) hl rfl hin2 rfl rfl rfl rfl hd kk
theorem gf_Stage_a (E : ps_E p s m c cc nL own D ca) {index i : Nat} (hl : Cond.fieldLink own index "PromiseScopes$Stage" "a" "I" ∈ ps_T) (hd : decode cc pc = .ok (.getfield index, 3)) (kk : ps_V p l e R s m args below meth c nL D ca A H0 adr0 σ0 Q (pc + 3) L (ps_int (ps_I σ 3 i 3) :: st) σ ce sl) : ps_V p l e R s m args below meth c nL D ca A H0 adr0 σ0 Q pc L (ps_ref (some (3, i)) :: st) σ ce sl :=
  pv_get E (ci := 3) (T := T_Stage) 3 i 3 (fs_Stage σ i) (ps_int (ps_I σ 3 i 3)) (fun _ => rfl) (fun _ => rfl) (Or.inr fun _ => trivial) rfl in_Stage (by decide) hl hd kk
theorem pf_Stage_a (E : ps_E p s m c cc nL "PromiseScopes$Stage" D ca) {index i : Nat} {x : Int32} (hl : Cond.fieldLink "PromiseScopes$Stage" index "PromiseScopes$Stage" "a" "I" ∈ ps_T) (hd : decode cc pc = .ok (.putfield index, 3)) (hin2 : meth.name = "<init>") (kk : ps_V p l e R s m args below meth c nL D ca A H0 adr0 σ0 Q (pc + 3) L st (ps_sI σ 3 i 3 x) ce sl) : ps_V p l e R s m args below meth c nL D ca A H0 adr0 σ0 Q pc L (ps_int x :: ps_ref (some (3, i)) :: st) σ ce sl :=
  pv_putIF E (ci := 3) (T := T_Stage) (ty := .int) 3 i 3 x (fs_Stage σ i) (fun _ => rfl) (fun _ => rfl) (fun _ => Nat.le_of_ble_eq_true rfl) rfl in_Stage ty_Stage ty_Stage_ok nm_Stage (by decide) hl rfl hin2 rfl rfl rfl rfl hd kk
theorem gf_Stage_async (E : ps_E p s m c cc nL own D ca) {index i : Nat} (hl : Cond.fieldLink own index "PromiseScopes$Stage" "async" "Z" ∈ ps_T) (hd : decode cc pc = .ok (.getfield index, 3)) (kk : ps_V p l e R s m args below meth c nL D ca A H0 adr0 σ0 Q (pc + 3) L (ps_int (ps_I σ 3 i 4) :: st) σ ce sl) : ps_V p l e R s m args below meth c nL D ca A H0 adr0 σ0 Q pc L (ps_ref (some (3, i)) :: st) σ ce sl :=
  pv_get E (ci := 3) (T := T_Stage) 3 i 4 (fs_Stage σ i) (ps_int (ps_I σ 3 i 4)) (fun _ => rfl) (fun _ => rfl) (Or.inr fun _ => trivial) rfl in_Stage (by decide) hl hd kk
theorem pf_Stage_async (E : ps_E p s m c cc nL "PromiseScopes$Stage" D ca) {index i : Nat} {x : Int32} (hl : Cond.fieldLink "PromiseScopes$Stage" index "PromiseScopes$Stage" "async" "Z" ∈ ps_T) (hd : decode cc pc = .ok (.putfield index, 3)) (hb : x = 0 ∨ x = 1) (hin2 : meth.name = "<init>") (kk : ps_V p l e R s m args below meth c nL D ca A H0 adr0 σ0 Q (pc + 3) L st (ps_sI σ 3 i 4 x) ce sl) : ps_V p l e R s m args below meth c nL D ca A H0 adr0 σ0 Q pc L (ps_int x :: ps_ref (some (3, i)) :: st) σ ce sl :=
  pv_putIF E (ci := 3) (T := T_Stage) (ty := .boolean) 3 i 4 x (fs_Stage σ i) (fun _ => rfl) (fun _ => rfl) (fun _ => Nat.le_of_ble_eq_true rfl) rfl in_Stage ty_Stage ty_Stage_ok nm_Stage (by decide) hl rfl hin2 rfl rfl (ps_zb hb) (ps_zf hb) hd kk
theorem gf_Stage_inputs (E : ps_E p s m c cc nL own D ca) {index i : Nat} (hl : Cond.fieldLink own index "PromiseScopes$Stage" "inputs" "[LPromiseScopes$Stage;" ∈ ps_T) (hd : decode cc pc = .ok (.getfield index, 3)) (kk : ps_V p l e R s m args below meth c nL D ca A H0 adr0 σ0 Q (pc + 3) L (ps_ref (ps_R σ 3 i 5) :: st) σ ce sl) : ps_V p l e R s m args below meth c nL D ca A H0 adr0 σ0 Q pc L (ps_ref (some (3, i)) :: st) σ ce sl :=
  pv_get E (ci := 3) (T := T_Stage) 3 i 5 (fs_Stage σ i) (ps_ref (ps_R σ 3 i 5)) (fun _ => rfl) (fun _ => rfl) (Or.inl rfl) rfl in_Stage (by decide) hl hd kk
theorem pf_Stage_inputs (E : ps_E p s m c cc nL "PromiseScopes$Stage" D ca) {index i : Nat} {x : Option (Nat × Nat)} (hl : Cond.fieldLink "PromiseScopes$Stage" index "PromiseScopes$Stage" "inputs" "[LPromiseScopes$Stage;" ∈ ps_T) (hd : decode cc pc = .ok (.putfield index, 3)) (hin2 : meth.name = "<init>") (kk : ps_V p l e R s m args below meth c nL D ca A H0 adr0 σ0 Q (pc + 3) L st (ps_sR σ 3 i 5 x) ce sl) : ps_V p l e R s m args below meth c nL D ca A H0 adr0 σ0 Q pc L (ps_ref x :: ps_ref (some (3, i)) :: st) σ ce sl :=
  pv_putRF E (ci := 3) (T := T_Stage) (ty := .array (.object "PromiseScopes$Stage")) 3 i 5 x (fs_Stage σ i) (fun _ => rfl) (fun _ => rfl) (fun _ => Nat.le_of_ble_eq_true rfl) rfl in_Stage ty_Stage ty_Stage_ok nm_Stage (by decide) hl rfl hin2 rfl rfl (Or.inr ⟨_, rfl⟩) hd kk
theorem gf_Stage_state (E : ps_E p s m c cc nL own D ca) {index i : Nat} (hl : Cond.fieldLink own index "PromiseScopes$Stage" "state" "I" ∈ ps_T) (hd : decode cc pc = .ok (.getfield index, 3)) (kk : ps_V p l e R s m args below meth c nL D ca A H0 adr0 σ0 Q (pc + 3) L (ps_int (ps_I σ 3 i 6) :: st) σ ce sl) : ps_V p l e R s m args below meth c nL D ca A H0 adr0 σ0 Q pc L (ps_ref (some (3, i)) :: st) σ ce sl :=
  pv_get E (ci := 3) (T := T_Stage) 3 i 6 (fs_Stage σ i) (ps_int (ps_I σ 3 i 6)) (fun _ => rfl) (fun _ => rfl) (Or.inr fun _ => trivial) rfl in_Stage (by decide) hl hd kk
theorem pf_Stage_state (E : ps_E p s m c cc nL own D ca) {index i : Nat} {x : Int32} (hl : Cond.fieldLink own index "PromiseScopes$Stage" "state" "I" ∈ ps_T) (hd : decode cc pc = .ok (.putfield index, 3)) (kk : ps_V p l e R s m args below meth c nL D ca A H0 adr0 σ0 Q (pc + 3) L st (ps_sI σ 3 i 6 x) ce sl) : ps_V p l e R s m args below meth c nL D ca A H0 adr0 σ0 Q pc L (ps_int x :: ps_ref (some (3, i)) :: st) σ ce sl :=
  pv_putI E (ci := 3) (T := T_Stage) (ty := .int) 3 i 6 x (fs_Stage σ i) (fun _ => rfl) (fun _ => rfl) (fun _ => Nat.le_of_ble_eq_true rfl) rfl in_Stage ty_Stage ty_Stage_ok nm_Stage (by decide) hl rfl rfl rfl rfl hd kk
theorem gf_Stage_content (E : ps_E p s m c cc nL own D ca) {index i : Nat} (hl : Cond.fieldLink own index "PromiseScopes$Stage" "content" "I" ∈ ps_T) (hd : decode cc pc = .ok (.getfield index, 3)) (kk : ps_V p l e R s m args below meth c nL D ca A H0 adr0 σ0 Q (pc + 3) L (ps_int (ps_I σ 3 i 7) :: st) σ ce sl) : ps_V p l e R s m args below meth c nL D ca A H0 adr0 σ0 Q pc L (ps_ref (some (3, i)) :: st) σ ce sl :=
  pv_get E (ci := 3) (T := T_Stage) 3 i 7 (fs_Stage σ i) (ps_int (ps_I σ 3 i 7)) (fun _ => rfl) (fun _ => rfl) (Or.inr fun _ => trivial) rfl in_Stage (by decide) hl hd kk
theorem pf_Stage_content (E : ps_E p s m c cc nL own D ca) {index i : Nat} {x : Int32} (hl : Cond.fieldLink own index "PromiseScopes$Stage" "content" "I" ∈ ps_T) (hd : decode cc pc = .ok (.putfield index, 3)) (kk : ps_V p l e R s m args below meth c nL D ca A H0 adr0 σ0 Q (pc + 3) L st (ps_sI σ 3 i 7 x) ce sl) : ps_V p l e R s m args below meth c nL D ca A H0 adr0 σ0 Q pc L (ps_int x :: ps_ref (some (3, i)) :: st) σ ce sl :=
  pv_putI E (ci := 3) (T := T_Stage) (ty := .int) 3 i 7 x (fs_Stage σ i) (fun _ => rfl) (fun _ => rfl) (fun _ => Nat.le_of_ble_eq_true rfl) rfl in_Stage ty_Stage ty_Stage_ok nm_Stage (by decide) hl rfl rfl rfl rfl hd kk
theorem gf_Stage_turn (E : ps_E p s m c cc nL own D ca) {index i : Nat} (hl : Cond.fieldLink own index "PromiseScopes$Stage" "turn" "I" ∈ ps_T) (hd : decode cc pc = .ok (.getfield index, 3)) (kk : ps_V p l e R s m args below meth c nL D ca A H0 adr0 σ0 Q (pc + 3) L (ps_int (ps_I σ 3 i 8) :: st) σ ce sl) : ps_V p l e R s m args below meth c nL D ca A H0 adr0 σ0 Q pc L (ps_ref (some (3, i)) :: st) σ ce sl :=
  pv_get E (ci := 3) (T := T_Stage) 3 i 8 (fs_Stage σ i) (ps_int (ps_I σ 3 i 8)) (fun _ => rfl) (fun _ => rfl) (Or.inr fun _ => trivial) rfl in_Stage (by decide) hl hd kk
theorem pf_Stage_turn (E : ps_E p s m c cc nL own D ca) {index i : Nat} {x : Int32} (hl : Cond.fieldLink own index "PromiseScopes$Stage" "turn" "I" ∈ ps_T) (hd : decode cc pc = .ok (.putfield index, 3)) (kk : ps_V p l e R s m args below meth c nL D ca A H0 adr0 σ0 Q (pc + 3) L st (ps_sI σ 3 i 8 x) ce sl) : ps_V p l e R s m args below meth c nL D ca A H0 adr0 σ0 Q pc L (ps_int x :: ps_ref (some (3, i)) :: st) σ ce sl :=
  pv_putI E (ci := 3) (T := T_Stage) (ty := .int) 3 i 8 x (fs_Stage σ i) (fun _ => rfl) (fun _ => rfl) (fun _ => Nat.le_of_ble_eq_true rfl) rfl in_Stage ty_Stage ty_Stage_ok nm_Stage (by decide) hl rfl rfl rfl rfl hd kk
theorem gf_Stage_awaited (E : ps_E p s m c cc nL own D ca) {index i : Nat} (hl : Cond.fieldLink own index "PromiseScopes$Stage" "awaited" "LPromiseScopes$Stage;" ∈ ps_T) (hd : decode cc pc = .ok (.getfield index, 3)) (kk : ps_V p l e R s m args below meth c nL D ca A H0 adr0 σ0 Q (pc + 3) L (ps_ref (ps_R σ 3 i 9) :: st) σ ce sl) : ps_V p l e R s m args below meth c nL D ca A H0 adr0 σ0 Q pc L (ps_ref (some (3, i)) :: st) σ ce sl :=
  pv_get E (ci := 3) (T := T_Stage) 3 i 9 (fs_Stage σ i) (ps_ref (ps_R σ 3 i 9)) (fun _ => rfl) (fun _ => rfl) (Or.inl rfl) rfl in_Stage (by decide) hl hd kk
theorem pf_Stage_awaited (E : ps_E p s m c cc nL own D ca) {index i : Nat} {x : Option (Nat × Nat)} (hl : Cond.fieldLink own index "PromiseScopes$Stage" "awaited" "LPromiseScopes$Stage;" ∈ ps_T) (hd : decode cc pc = .ok (.putfield index, 3)) (kk : ps_V p l e R s m args below meth c nL D ca A H0 adr0 σ0 Q (pc + 3) L st (ps_sR σ 3 i 9 x) ce sl) : ps_V p l e R s m args below meth c nL D ca A H0 adr0 σ0 Q pc L (ps_ref x :: ps_ref (some (3, i)) :: st) σ ce sl :=
  pv_putR E (ci := 3) (T := T_Stage) (ty := .object "PromiseScopes$Stage") 3 i 9 x (fs_Stage σ i) (fun _ => rfl) (fun _ => rfl) (fun _ => Nat.le_of_ble_eq_true rfl) rfl in_Stage ty_Stage ty_Stage_ok nm_Stage (by decide) hl rfl rfl (Or.inl ⟨_, rfl⟩) hd kk
theorem gf_Stage_queued (E : ps_E p s m c cc nL own D ca) {index i : Nat} (hl : Cond.fieldLink own index "PromiseScopes$Stage" "queued" "Z" ∈ ps_T) (hd : decode cc pc = .ok (.getfield index, 3)) (kk : ps_V p l e R s m args below meth c nL D ca A H0 adr0 σ0 Q (pc + 3) L (ps_int (ps_I σ 3 i 10) :: st) σ ce sl) : ps_V p l e R s m args below meth c nL D ca A H0 adr0 σ0 Q pc L (ps_ref (some (3, i)) :: st) σ ce sl :=
  pv_get E (ci := 3) (T := T_Stage) 3 i 10 (fs_Stage σ i) (ps_int (ps_I σ 3 i 10)) (fun _ => rfl) (fun _ => rfl) (Or.inr fun _ => trivial) rfl in_Stage (by decide) hl hd kk
theorem pf_Stage_queued (E : ps_E p s m c cc nL own D ca) {index i : Nat} {x : Int32} (hl : Cond.fieldLink own index "PromiseScopes$Stage" "queued" "Z" ∈ ps_T) (hd : decode cc pc = .ok (.putfield index, 3)) (hb : x = 0 ∨ x = 1) (kk : ps_V p l e R s m args below meth c nL D ca A H0 adr0 σ0 Q (pc + 3) L st (ps_sI σ 3 i 10 x) ce sl) : ps_V p l e R s m args below meth c nL D ca A H0 adr0 σ0 Q pc L (ps_int x :: ps_ref (some (3, i)) :: st) σ ce sl :=
  pv_putI E (ci := 3) (T := T_Stage) (ty := .boolean) 3 i 10 x (fs_Stage σ i) (fun _ => rfl) (fun _ => rfl) (fun _ => Nat.le_of_ble_eq_true rfl) rfl in_Stage ty_Stage ty_Stage_ok nm_Stage (by decide) hl rfl rfl (ps_zb hb) (ps_zf hb) hd kk
abbrev fs_Scope (σ : ps_S) (i : Nat) (adr : Nat → Nat → Nat) : List Value := [.int (ps_I σ 5 i 0), va_rf (ps_e adr (ps_R σ 5 i 1)), .int (ps_I σ 5 i 2), .int (ps_I σ 5 i 3), va_rf (ps_e adr (ps_R σ 5 i 4)), va_rf (ps_e adr (ps_R σ 5 i 5)), va_rf (ps_e adr (ps_R σ 5 i 6)), .int (ps_I σ 5 i 7), .int (ps_I σ 5 i 8), .int (ps_I σ 5 i 9)]
theorem cell_Scope (ca : Nat → ClassId) (adr : Nat → Nat → Nat) (σ : ps_S) (i : Nat) : ps_cell ca adr σ 5 i = .inr (4, fs_Scope σ i adr) := rfl
theorem gf_Scope_number (E : ps_E p s m c cc nL own D ca) {index i : Nat} (hl : Cond.fieldLink own index "PromiseScopes$Scope" "number" "I" ∈ ps_T) (hd : decode cc pc = .ok (.getfield index, 3)) (kk : ps_V p l e R s m args below meth c nL D ca A H0 adr0 σ0 Q (pc + 3) L (ps_int (ps_I σ 5 i 0) :: st) σ ce sl) : ps_V p l e R s m args below meth c nL D ca A H0 adr0 σ0 Q pc L (ps_ref (some (5, i)) :: st) σ ce sl :=
  pv_get E (ci := 4) (T := T_Scope) 5 i 0 (fs_Scope σ i) (ps_int (ps_I σ 5 i 0)) (fun _ => rfl) (fun _ => rfl) (Or.inr fun _ => trivial) rfl in_Scope (by decide) hl hd kk
theorem pf_Scope_number (E : ps_E p s m c cc nL "PromiseScopes$Scope" D ca) {index i : Nat} {x : Int32} (hl : Cond.fieldLink "PromiseScopes$Scope" index "PromiseScopes$Scope" "number" "I" ∈ ps_T) (hd : decode cc pc = .ok (.putfield index, 3)) (hin2 : meth.name = "<init>") (kk : ps_V p l e R s m args below meth c nL D ca A H0 adr0 σ0 Q (pc + 3) L st (ps_sI σ 5 i 0 x) ce sl) : ps_V p l e R s m args below meth c nL D ca A H0 adr0 σ0 Q pc L (ps_int x :: ps_ref (some (5, i)) :: st) σ ce sl :=
  pv_putIF E (ci := 4) (T := T_Scope) (ty := .int) 5 i 0 x (fs_Scope σ i) (fun _ => rfl) (fun _ => rfl) (fun _ => Nat.le_of_ble_eq_true rfl) rfl in_Scope ty_Scope ty_Scope_ok nm_Scope (by decide) hl rfl hin2 rfl rfl rfl rfl hd kk
theorem gf_Scope_parent (E : ps_E p s m c cc nL own D ca) {index i : Nat} (hl : Cond.fieldLink own index "PromiseScopes$Scope" "parent" "LPromiseScopes$Scope;" ∈ ps_T) (hd : decode cc pc = .ok (.getfield index, 3)) (kk : ps_V p l e R s m args below meth c nL D ca A H0 adr0 σ0 Q (pc + 3) L (ps_ref (ps_R σ 5 i 1) :: st) σ ce sl) : ps_V p l e R s m args below meth c nL D ca A H0 adr0 σ0 Q pc L (ps_ref (some (5, i)) :: st) σ ce sl :=
  pv_get E (ci := 4) (T := T_Scope) 5 i 1 (fs_Scope σ i) (ps_ref (ps_R σ 5 i 1)) (fun _ => rfl) (fun _ => rfl) (Or.inl rfl) rfl in_Scope (by decide) hl hd kk
theorem pf_Scope_parent (E : ps_E p s m c cc nL "PromiseScopes$Scope" D ca) {index i : Nat} {x : Option (Nat × Nat)} (hl : Cond.fieldLink "PromiseScopes$Scope" index "PromiseScopes$Scope" "parent" "LPromiseScopes$Scope;" ∈ ps_T) (hd : decode cc pc = .ok (.putfield index, 3)) (hin2 : meth.name = "<init>") (kk : ps_V p l e R s m args below meth c nL D ca A H0 adr0 σ0 Q (pc + 3) L st (ps_sR σ 5 i 1 x) ce sl) : ps_V p l e R s m args below meth c nL D ca A H0 adr0 σ0 Q pc L (ps_ref x :: ps_ref (some (5, i)) :: st) σ ce sl :=
  pv_putRF E (ci := 4) (T := T_Scope) (ty := .object "PromiseScopes$Scope") 5 i 1 x (fs_Scope σ i) (fun _ => rfl) (fun _ => rfl) (fun _ => Nat.le_of_ble_eq_true rfl) rfl in_Scope ty_Scope ty_Scope_ok nm_Scope (by decide) hl rfl hin2 rfl rfl (Or.inl ⟨_, rfl⟩) hd kk
theorem gf_Scope_policy (E : ps_E p s m c cc nL own D ca) {index i : Nat} (hl : Cond.fieldLink own index "PromiseScopes$Scope" "policy" "I" ∈ ps_T) (hd : decode cc pc = .ok (.getfield index, 3)) (kk : ps_V p l e R s m args below meth c nL D ca A H0 adr0 σ0 Q (pc + 3) L (ps_int (ps_I σ 5 i 2) :: st) σ ce sl) : ps_V p l e R s m args below meth c nL D ca A H0 adr0 σ0 Q pc L (ps_ref (some (5, i)) :: st) σ ce sl :=
  pv_get E (ci := 4) (T := T_Scope) 5 i 2 (fs_Scope σ i) (ps_int (ps_I σ 5 i 2)) (fun _ => rfl) (fun _ => rfl) (Or.inr fun _ => trivial) rfl in_Scope (by decide) hl hd kk
theorem pf_Scope_policy (E : ps_E p s m c cc nL "PromiseScopes$Scope" D ca) {index i : Nat} {x : Int32} (hl : Cond.fieldLink "PromiseScopes$Scope" index "PromiseScopes$Scope" "policy" "I" ∈ ps_T) (hd : decode cc pc = .ok (.putfield index, 3)) (hin2 : meth.name = "<init>") (kk : ps_V p l e R s m args below meth c nL D ca A H0 adr0 σ0 Q (pc + 3) L st (ps_sI σ 5 i 2 x) ce sl) : ps_V p l e R s m args below meth c nL D ca A H0 adr0 σ0 Q pc L (ps_int x :: ps_ref (some (5, i)) :: st) σ ce sl :=
  pv_putIF E (ci := 4) (T := T_Scope) (ty := .int) 5 i 2 x (fs_Scope σ i) (fun _ => rfl) (fun _ => rfl) (fun _ => Nat.le_of_ble_eq_true rfl) rfl in_Scope ty_Scope ty_Scope_ok nm_Scope (by decide) hl rfl hin2 rfl rfl rfl rfl hd kk
theorem gf_Scope_deadline (E : ps_E p s m c cc nL own D ca) {index i : Nat} (hl : Cond.fieldLink own index "PromiseScopes$Scope" "deadline" "I" ∈ ps_T) (hd : decode cc pc = .ok (.getfield index, 3)) (kk : ps_V p l e R s m args below meth c nL D ca A H0 adr0 σ0 Q (pc + 3) L (ps_int (ps_I σ 5 i 3) :: st) σ ce sl) : ps_V p l e R s m args below meth c nL D ca A H0 adr0 σ0 Q pc L (ps_ref (some (5, i)) :: st) σ ce sl :=
  pv_get E (ci := 4) (T := T_Scope) 5 i 3 (fs_Scope σ i) (ps_int (ps_I σ 5 i 3)) (fun _ => rfl) (fun _ => rfl) (Or.inr fun _ => trivial) rfl in_Scope (by decide) hl hd kk
theorem pf_Scope_deadline (E : ps_E p s m c cc nL "PromiseScopes$Scope" D ca) {index i : Nat} {x : Int32} (hl : Cond.fieldLink "PromiseScopes$Scope" index "PromiseScopes$Scope" "deadline" "I" ∈ ps_T) (hd : decode cc pc = .ok (.putfield index, 3)) (hin2 : meth.name = "<init>") (kk : ps_V p l e R s m args below meth c nL D ca A H0 adr0 σ0 Q (pc + 3) L st (ps_sI σ 5 i 3 x) ce sl) : ps_V p l e R s m args below meth c nL D ca A H0 adr0 σ0 Q pc L (ps_int x :: ps_ref (some (5, i)) :: st) σ ce sl :=
  pv_putIF E (ci := 4) (T := T_Scope) (ty := .int) 5 i 3 x (fs_Scope σ i) (fun _ => rfl) (fun _ => rfl) (fun _ => Nat.le_of_ble_eq_true rfl) rfl in_Scope ty_Scope ty_Scope_ok nm_Scope (by decide) hl rfl hin2 rfl rfl rfl rfl hd kk
theorem gf_Scope_result (E : ps_E p s m c cc nL own D ca) {index i : Nat} (hl : Cond.fieldLink own index "PromiseScopes$Scope" "result" "LPromiseScopes$Stage;" ∈ ps_T) (hd : decode cc pc = .ok (.getfield index, 3)) (kk : ps_V p l e R s m args below meth c nL D ca A H0 adr0 σ0 Q (pc + 3) L (ps_ref (ps_R σ 5 i 4) :: st) σ ce sl) : ps_V p l e R s m args below meth c nL D ca A H0 adr0 σ0 Q pc L (ps_ref (some (5, i)) :: st) σ ce sl :=
  pv_get E (ci := 4) (T := T_Scope) 5 i 4 (fs_Scope σ i) (ps_ref (ps_R σ 5 i 4)) (fun _ => rfl) (fun _ => rfl) (Or.inl rfl) rfl in_Scope (by decide) hl hd kk
theorem pf_Scope_result (E : ps_E p s m c cc nL "PromiseScopes$Scope" D ca) {index i : Nat} {x : Option (Nat × Nat)} (hl : Cond.fieldLink "PromiseScopes$Scope" index "PromiseScopes$Scope" "result" "LPromiseScopes$Stage;" ∈ ps_T) (hd : decode cc pc = .ok (.putfield index, 3)) (hin2 : meth.name = "<init>") (kk : ps_V p l e R s m args below meth c nL D ca A H0 adr0 σ0 Q (pc + 3) L st (ps_sR σ 5 i 4 x) ce sl) : ps_V p l e R s m args below meth c nL D ca A H0 adr0 σ0 Q pc L (ps_ref x :: ps_ref (some (5, i)) :: st) σ ce sl :=
  pv_putRF E (ci := 4) (T := T_Scope) (ty := .object "PromiseScopes$Stage") 5 i 4 x (fs_Scope σ i) (fun _ => rfl) (fun _ => rfl) (fun _ => Nat.le_of_ble_eq_true rfl) rfl in_Scope ty_Scope ty_Scope_ok nm_Scope (by decide) hl rfl hin2 rfl rfl (Or.inl ⟨_, rfl⟩) hd kk
theorem gf_Scope_values (E : ps_E p s m c cc nL own D ca) {index i : Nat} (hl : Cond.fieldLink own index "PromiseScopes$Scope" "values" "[I" ∈ ps_T) (hd : decode cc pc = .ok (.getfield index, 3)) (kk : ps_V p l e R s m args below meth c nL D ca A H0 adr0 σ0 Q (pc + 3) L (ps_ref (ps_R σ 5 i 5) :: st) σ ce sl) : ps_V p l e R s m args below meth c nL D ca A H0 adr0 σ0 Q pc L (ps_ref (some (5, i)) :: st) σ ce sl :=
  pv_get E (ci := 4) (T := T_Scope) 5 i 5 (fs_Scope σ i) (ps_ref (ps_R σ 5 i 5)) (fun _ => rfl) (fun _ => rfl) (Or.inl rfl) rfl in_Scope (by decide) hl hd kk
theorem pf_Scope_values (E : ps_E p s m c cc nL "PromiseScopes$Scope" D ca) {index i : Nat} {x : Option (Nat × Nat)} (hl : Cond.fieldLink "PromiseScopes$Scope" index "PromiseScopes$Scope" "values" "[I" ∈ ps_T) (hd : decode cc pc = .ok (.putfield index, 3)) (hin2 : meth.name = "<init>") (kk : ps_V p l e R s m args below meth c nL D ca A H0 adr0 σ0 Q (pc + 3) L st (ps_sR σ 5 i 5 x) ce sl) : ps_V p l e R s m args below meth c nL D ca A H0 adr0 σ0 Q pc L (ps_ref x :: ps_ref (some (5, i)) :: st) σ ce sl :=
  pv_putRF E (ci := 4) (T := T_Scope) (ty := .array (.int)) 5 i 5 x (fs_Scope σ i) (fun _ => rfl) (fun _ => rfl) (fun _ => Nat.le_of_ble_eq_true rfl) rfl in_Scope ty_Scope ty_Scope_ok nm_Scope (by decide) hl rfl hin2 rfl rfl (Or.inr ⟨_, rfl⟩) hd kk
theorem gf_Scope_binds (E : ps_E p s m c cc nL own D ca) {index i : Nat} (hl : Cond.fieldLink own index "PromiseScopes$Scope" "binds" "[Z" ∈ ps_T) (hd : decode cc pc = .ok (.getfield index, 3)) (kk : ps_V p l e R s m args below meth c nL D ca A H0 adr0 σ0 Q (pc + 3) L (ps_ref (ps_R σ 5 i 6) :: st) σ ce sl) : ps_V p l e R s m args below meth c nL D ca A H0 adr0 σ0 Q pc L (ps_ref (some (5, i)) :: st) σ ce sl :=
  pv_get E (ci := 4) (T := T_Scope) 5 i 6 (fs_Scope σ i) (ps_ref (ps_R σ 5 i 6)) (fun _ => rfl) (fun _ => rfl) (Or.inl rfl) rfl in_Scope (by decide) hl hd kk
theorem pf_Scope_binds (E : ps_E p s m c cc nL "PromiseScopes$Scope" D ca) {index i : Nat} {x : Option (Nat × Nat)} (hl : Cond.fieldLink "PromiseScopes$Scope" index "PromiseScopes$Scope" "binds" "[Z" ∈ ps_T) (hd : decode cc pc = .ok (.putfield index, 3)) (hin2 : meth.name = "<init>") (kk : ps_V p l e R s m args below meth c nL D ca A H0 adr0 σ0 Q (pc + 3) L st (ps_sR σ 5 i 6 x) ce sl) : ps_V p l e R s m args below meth c nL D ca A H0 adr0 σ0 Q pc L (ps_ref x :: ps_ref (some (5, i)) :: st) σ ce sl :=
  pv_putRF E (ci := 4) (T := T_Scope) (ty := .array (.boolean)) 5 i 6 x (fs_Scope σ i) (fun _ => rfl) (fun _ => rfl) (fun _ => Nat.le_of_ble_eq_true rfl) rfl in_Scope ty_Scope ty_Scope_ok nm_Scope (by decide) hl rfl hin2 rfl rfl (Or.inr ⟨_, rfl⟩) hd kk
theorem gf_Scope_state (E : ps_E p s m c cc nL own D ca) {index i : Nat} (hl : Cond.fieldLink own index "PromiseScopes$Scope" "state" "I" ∈ ps_T) (hd : decode cc pc = .ok (.getfield index, 3)) (kk : ps_V p l e R s m args below meth c nL D ca A H0 adr0 σ0 Q (pc + 3) L (ps_int (ps_I σ 5 i 7) :: st) σ ce sl) : ps_V p l e R s m args below meth c nL D ca A H0 adr0 σ0 Q pc L (ps_ref (some (5, i)) :: st) σ ce sl :=
  pv_get E (ci := 4) (T := T_Scope) 5 i 7 (fs_Scope σ i) (ps_int (ps_I σ 5 i 7)) (fun _ => rfl) (fun _ => rfl) (Or.inr fun _ => trivial) rfl in_Scope (by decide) hl hd kk
theorem pf_Scope_state (E : ps_E p s m c cc nL own D ca) {index i : Nat} {x : Int32} (hl : Cond.fieldLink own index "PromiseScopes$Scope" "state" "I" ∈ ps_T) (hd : decode cc pc = .ok (.putfield index, 3)) (kk : ps_V p l e R s m args below meth c nL D ca A H0 adr0 σ0 Q (pc + 3) L st (ps_sI σ 5 i 7 x) ce sl) : ps_V p l e R s m args below meth c nL D ca A H0 adr0 σ0 Q pc L (ps_int x :: ps_ref (some (5, i)) :: st) σ ce sl :=
  pv_putI E (ci := 4) (T := T_Scope) (ty := .int) 5 i 7 x (fs_Scope σ i) (fun _ => rfl) (fun _ => rfl) (fun _ => Nat.le_of_ble_eq_true rfl) rfl in_Scope ty_Scope ty_Scope_ok nm_Scope (by decide) hl rfl rfl rfl rfl hd kk
theorem gf_Scope_stopped (E : ps_E p s m c cc nL own D ca) {index i : Nat} (hl : Cond.fieldLink own index "PromiseScopes$Scope" "stopped" "Z" ∈ ps_T) (hd : decode cc pc = .ok (.getfield index, 3)) (kk : ps_V p l e R s m args below meth c nL D ca A H0 adr0 σ0 Q (pc + 3) L (ps_int (ps_I σ 5 i 8) :: st) σ ce sl) : ps_V p l e R s m args below meth c nL D ca A H0 adr0 σ0 Q pc L (ps_ref (some (5, i)) :: st) σ ce sl :=
  pv_get E (ci := 4) (T := T_Scope) 5 i 8 (fs_Scope σ i) (ps_int (ps_I σ 5 i 8)) (fun _ => rfl) (fun _ => rfl) (Or.inr fun _ => trivial) rfl in_Scope (by decide) hl hd kk
theorem pf_Scope_stopped (E : ps_E p s m c cc nL own D ca) {index i : Nat} {x : Int32} (hl : Cond.fieldLink own index "PromiseScopes$Scope" "stopped" "Z" ∈ ps_T) (hd : decode cc pc = .ok (.putfield index, 3)) (hb : x = 0 ∨ x = 1) (kk : ps_V p l e R s m args below meth c nL D ca A H0 adr0 σ0 Q (pc + 3) L st (ps_sI σ 5 i 8 x) ce sl) : ps_V p l e R s m args below meth c nL D ca A H0 adr0 σ0 Q pc L (ps_int x :: ps_ref (some (5, i)) :: st) σ ce sl :=
  pv_putI E (ci := 4) (T := T_Scope) (ty := .boolean) 5 i 8 x (fs_Scope σ i) (fun _ => rfl) (fun _ => rfl) (fun _ => Nat.le_of_ble_eq_true rfl) rfl in_Scope ty_Scope ty_Scope_ok nm_Scope (by decide) hl rfl rfl (ps_zb hb) (ps_zf hb) hd kk
theorem gf_Scope_late (E : ps_E p s m c cc nL own D ca) {index i : Nat} (hl : Cond.fieldLink own index "PromiseScopes$Scope" "late" "Z" ∈ ps_T) (hd : decode cc pc = .ok (.getfield index, 3)) (kk : ps_V p l e R s m args below meth c nL D ca A H0 adr0 σ0 Q (pc + 3) L (ps_int (ps_I σ 5 i 9) :: st) σ ce sl) : ps_V p l e R s m args below meth c nL D ca A H0 adr0 σ0 Q pc L (ps_ref (some (5, i)) :: st) σ ce sl :=
  pv_get E (ci := 4) (T := T_Scope) 5 i 9 (fs_Scope σ i) (ps_int (ps_I σ 5 i 9)) (fun _ => rfl) (fun _ => rfl) (Or.inr fun _ => trivial) rfl in_Scope (by decide) hl hd kk
theorem pf_Scope_late (E : ps_E p s m c cc nL own D ca) {index i : Nat} {x : Int32} (hl : Cond.fieldLink own index "PromiseScopes$Scope" "late" "Z" ∈ ps_T) (hd : decode cc pc = .ok (.putfield index, 3)) (hb : x = 0 ∨ x = 1) (kk : ps_V p l e R s m args below meth c nL D ca A H0 adr0 σ0 Q (pc + 3) L st (ps_sI σ 5 i 9 x) ce sl) : ps_V p l e R s m args below meth c nL D ca A H0 adr0 σ0 Q pc L (ps_int x :: ps_ref (some (5, i)) :: st) σ ce sl :=
  pv_putI E (ci := 4) (T := T_Scope) (ty := .boolean) 5 i 9 x (fs_Scope σ i) (fun _ => rfl) (fun _ => rfl) (fun _ => Nat.le_of_ble_eq_true rfl) rfl in_Scope ty_Scope ty_Scope_ok nm_Scope (by decide) hl rfl rfl (ps_zb hb) (ps_zf hb) hd kk
abbrev fs_Task (σ : ps_S) (i : Nat) (adr : Nat → Nat → Nat) : List Value := [va_rf (ps_e adr (ps_R σ 6 i 0)), .int (ps_I σ 6 i 1), .int (ps_I σ 6 i 2), .int (ps_I σ 6 i 3), .int (ps_I σ 6 i 4), .int (ps_I σ 6 i 5), .int (ps_I σ 6 i 6), .int (ps_I σ 6 i 7), .int (ps_I σ 6 i 8)]
theorem cell_Task (ca : Nat → ClassId) (adr : Nat → Nat → Nat) (σ : ps_S) (i : Nat) : ps_cell ca adr σ 6 i = .inr (5, fs_Task σ i adr) := rfl
theorem gf_Task_owner (E : ps_E p s m c cc nL own D ca) {index i : Nat} (hl : Cond.fieldLink own index "PromiseScopes$Task" "owner" "LPromiseScopes$Scope;" ∈ ps_T) (hd : decode cc pc = .ok (.getfield index, 3)) (kk : ps_V p l e R s m args below meth c nL D ca A H0 adr0 σ0 Q (pc + 3) L (ps_ref (ps_R σ 6 i 0) :: st) σ ce sl) : ps_V p l e R s m args below meth c nL D ca A H0 adr0 σ0 Q pc L (ps_ref (some (6, i)) :: st) σ ce sl :=
  pv_get E (ci := 5) (T := T_Task) 6 i 0 (fs_Task σ i) (ps_ref (ps_R σ 6 i 0)) (fun _ => rfl) (fun _ => rfl) (Or.inl rfl) rfl in_Task (by decide) hl hd kk
theorem pf_Task_owner (E : ps_E p s m c cc nL "PromiseScopes$Task" D ca) {index i : Nat} {x : Option (Nat × Nat)} (hl : Cond.fieldLink "PromiseScopes$Task" index "PromiseScopes$Task" "owner" "LPromiseScopes$Scope;" ∈ ps_T) (hd : decode cc pc = .ok (.putfield index, 3)) (hin2 : meth.name = "<init>") (kk : ps_V p l e R s m args below meth c nL D ca A H0 adr0 σ0 Q (pc + 3) L st (ps_sR σ 6 i 0 x) ce sl) : ps_V p l e R s m args below meth c nL D ca A H0 adr0 σ0 Q pc L (ps_ref x :: ps_ref (some (6, i)) :: st) σ ce sl :=
  pv_putRF E (ci := 5) (T := T_Task) (ty := .object "PromiseScopes$Scope") 6 i 0 x (fs_Task σ i) (fun _ => rfl) (fun _ => rfl) (fun _ => Nat.le_of_ble_eq_true rfl) rfl in_Task ty_Task ty_Task_ok nm_Task (by decide) hl rfl hin2 rfl rfl (Or.inl ⟨_, rfl⟩) hd kk
theorem gf_Task_cost (E : ps_E p s m c cc nL own D ca) {index i : Nat} (hl : Cond.fieldLink own index "PromiseScopes$Task" "cost" "I" ∈ ps_T) (hd : decode cc pc = .ok (.getfield index, 3)) (kk : ps_V p l e R s m args below meth c nL D ca A H0 adr0 σ0 Q (pc + 3) L (ps_int (ps_I σ 6 i 1) :: st) σ ce sl) : ps_V p l e R s m args below meth c nL D ca A H0 adr0 σ0 Q pc L (ps_ref (some (6, i)) :: st) σ ce sl :=
  pv_get E (ci := 5) (T := T_Task) 6 i 1 (fs_Task σ i) (ps_int (ps_I σ 6 i 1)) (fun _ => rfl) (fun _ => rfl) (Or.inr fun _ => trivial) rfl in_Task (by decide) hl hd kk
theorem pf_Task_cost (E : ps_E p s m c cc nL "PromiseScopes$Task" D ca) {index i : Nat} {x : Int32} (hl : Cond.fieldLink "PromiseScopes$Task" index "PromiseScopes$Task" "cost" "I" ∈ ps_T) (hd : decode cc pc = .ok (.putfield index, 3)) (hin2 : meth.name = "<init>") (kk : ps_V p l e R s m args below meth c nL D ca A H0 adr0 σ0 Q (pc + 3) L st (ps_sI σ 6 i 1 x) ce sl) : ps_V p l e R s m args below meth c nL D ca A H0 adr0 σ0 Q pc L (ps_int x :: ps_ref (some (6, i)) :: st) σ ce sl :=
  pv_putIF E (ci := 5) (T := T_Task) (ty := .int) 6 i 1 x (fs_Task σ i) (fun _ => rfl) (fun _ => rfl) (fun _ => Nat.le_of_ble_eq_true rfl) rfl in_Task ty_Task ty_Task_ok nm_Task (by decide) hl rfl hin2 rfl rfl rfl rfl hd kk
theorem gf_Task_function (E : ps_E p s m c cc nL own D ca) {index i : Nat} (hl : Cond.fieldLink own index "PromiseScopes$Task" "function" "I" ∈ ps_T) (hd : decode cc pc = .ok (.getfield index, 3)) (kk : ps_V p l e R s m args below meth c nL D ca A H0 adr0 σ0 Q (pc + 3) L (ps_int (ps_I σ 6 i 2) :: st) σ ce sl) : ps_V p l e R s m args below meth c nL D ca A H0 adr0 σ0 Q pc L (ps_ref (some (6, i)) :: st) σ ce sl :=
  pv_get E (ci := 5) (T := T_Task) 6 i 2 (fs_Task σ i) (ps_int (ps_I σ 6 i 2)) (fun _ => rfl) (fun _ => rfl) (Or.inr fun _ => trivial) rfl in_Task (by decide) hl hd kk
theorem pf_Task_function (E : ps_E p s m c cc nL "PromiseScopes$Task" D ca) {index i : Nat} {x : Int32} (hl : Cond.fieldLink "PromiseScopes$Task" index "PromiseScopes$Task" "function" "I" ∈ ps_T) (hd : decode cc pc = .ok (.putfield index, 3)) (hin2 : meth.name = "<init>") (kk : ps_V p l e R s m args below meth c nL D ca A H0 adr0 σ0 Q (pc + 3) L st (ps_sI σ 6 i 2 x) ce sl) : ps_V p l e R s m args below meth c nL D ca A H0 adr0 σ0 Q pc L (ps_int x :: ps_ref (some (6, i)) :: st) σ ce sl :=
  pv_putIF E (ci := 5) (T := T_Task) (ty := .int) 6 i 2 x (fs_Task σ i) (fun _ => rfl) (fun _ => rfl) (fun _ => Nat.le_of_ble_eq_true rfl) rfl in_Task ty_Task ty_Task_ok nm_Task (by decide) hl rfl hin2 rfl rfl rfl rfl hd kk
theorem gf_Task_a (E : ps_E p s m c cc nL own D ca) {index i : Nat} (hl : Cond.fieldLink own index "PromiseScopes$Task" "a" "I" ∈ ps_T) (hd : decode cc pc = .ok (.getfield index, 3)) (kk : ps_V p l e R s m args below meth c nL D ca A H0 adr0 σ0 Q (pc + 3) L (ps_int (ps_I σ 6 i 3) :: st) σ ce sl) : ps_V p l e R s m args below meth c nL D ca A H0 adr0 σ0 Q pc L (ps_ref (some (6, i)) :: st) σ ce sl :=
  pv_get E (ci := 5) (T := T_Task) 6 i 3 (fs_Task σ i) (ps_int (ps_I σ 6 i 3)) (fun _ => rfl) (fun _ => rfl) (Or.inr fun _ => trivial) rfl in_Task (by decide) hl hd kk
theorem pf_Task_a (E : ps_E p s m c cc nL "PromiseScopes$Task" D ca) {index i : Nat} {x : Int32} (hl : Cond.fieldLink "PromiseScopes$Task" index "PromiseScopes$Task" "a" "I" ∈ ps_T) (hd : decode cc pc = .ok (.putfield index, 3)) (hin2 : meth.name = "<init>") (kk : ps_V p l e R s m args below meth c nL D ca A H0 adr0 σ0 Q (pc + 3) L st (ps_sI σ 6 i 3 x) ce sl) : ps_V p l e R s m args below meth c nL D ca A H0 adr0 σ0 Q pc L (ps_int x :: ps_ref (some (6, i)) :: st) σ ce sl :=
  pv_putIF E (ci := 5) (T := T_Task) (ty := .int) 6 i 3 x (fs_Task σ i) (fun _ => rfl) (fun _ => rfl) (fun _ => Nat.le_of_ble_eq_true rfl) rfl in_Task ty_Task ty_Task_ok nm_Task (by decide) hl rfl hin2 rfl rfl rfl rfl hd kk
theorem gf_Task_x (E : ps_E p s m c cc nL own D ca) {index i : Nat} (hl : Cond.fieldLink own index "PromiseScopes$Task" "x" "I" ∈ ps_T) (hd : decode cc pc = .ok (.getfield index, 3)) (kk : ps_V p l e R s m args below meth c nL D ca A H0 adr0 σ0 Q (pc + 3) L (ps_int (ps_I σ 6 i 4) :: st) σ ce sl) : ps_V p l e R s m args below meth c nL D ca A H0 adr0 σ0 Q pc L (ps_ref (some (6, i)) :: st) σ ce sl :=
  pv_get E (ci := 5) (T := T_Task) 6 i 4 (fs_Task σ i) (ps_int (ps_I σ 6 i 4)) (fun _ => rfl) (fun _ => rfl) (Or.inr fun _ => trivial) rfl in_Task (by decide) hl hd kk
theorem pf_Task_x (E : ps_E p s m c cc nL "PromiseScopes$Task" D ca) {index i : Nat} {x : Int32} (hl : Cond.fieldLink "PromiseScopes$Task" index "PromiseScopes$Task" "x" "I" ∈ ps_T) (hd : decode cc pc = .ok (.putfield index, 3)) (hin2 : meth.name = "<init>") (kk : ps_V p l e R s m args below meth c nL D ca A H0 adr0 σ0 Q (pc + 3) L st (ps_sI σ 6 i 4 x) ce sl) : ps_V p l e R s m args below meth c nL D ca A H0 adr0 σ0 Q pc L (ps_int x :: ps_ref (some (6, i)) :: st) σ ce sl :=
  pv_putIF E (ci := 5) (T := T_Task) (ty := .int) 6 i 4 x (fs_Task σ i) (fun _ => rfl) (fun _ => rfl) (fun _ => Nat.le_of_ble_eq_true rfl) rfl in_Task ty_Task ty_Task_ok nm_Task (by decide) hl rfl hin2 rfl rfl rfl rfl hd kk
theorem gf_Task_state (E : ps_E p s m c cc nL own D ca) {index i : Nat} (hl : Cond.fieldLink own index "PromiseScopes$Task" "state" "I" ∈ ps_T) (hd : decode cc pc = .ok (.getfield index, 3)) (kk : ps_V p l e R s m args below meth c nL D ca A H0 adr0 σ0 Q (pc + 3) L (ps_int (ps_I σ 6 i 5) :: st) σ ce sl) : ps_V p l e R s m args below meth c nL D ca A H0 adr0 σ0 Q pc L (ps_ref (some (6, i)) :: st) σ ce sl :=
  pv_get E (ci := 5) (T := T_Task) 6 i 5 (fs_Task σ i) (ps_int (ps_I σ 6 i 5)) (fun _ => rfl) (fun _ => rfl) (Or.inr fun _ => trivial) rfl in_Task (by decide) hl hd kk
theorem pf_Task_state (E : ps_E p s m c cc nL own D ca) {index i : Nat} {x : Int32} (hl : Cond.fieldLink own index "PromiseScopes$Task" "state" "I" ∈ ps_T) (hd : decode cc pc = .ok (.putfield index, 3)) (kk : ps_V p l e R s m args below meth c nL D ca A H0 adr0 σ0 Q (pc + 3) L st (ps_sI σ 6 i 5 x) ce sl) : ps_V p l e R s m args below meth c nL D ca A H0 adr0 σ0 Q pc L (ps_int x :: ps_ref (some (6, i)) :: st) σ ce sl :=
  pv_putI E (ci := 5) (T := T_Task) (ty := .int) 6 i 5 x (fs_Task σ i) (fun _ => rfl) (fun _ => rfl) (fun _ => Nat.le_of_ble_eq_true rfl) rfl in_Task ty_Task ty_Task_ok nm_Task (by decide) hl rfl rfl rfl rfl hd kk
theorem gf_Task_worked (E : ps_E p s m c cc nL own D ca) {index i : Nat} (hl : Cond.fieldLink own index "PromiseScopes$Task" "worked" "I" ∈ ps_T) (hd : decode cc pc = .ok (.getfield index, 3)) (kk : ps_V p l e R s m args below meth c nL D ca A H0 adr0 σ0 Q (pc + 3) L (ps_int (ps_I σ 6 i 6) :: st) σ ce sl) : ps_V p l e R s m args below meth c nL D ca A H0 adr0 σ0 Q pc L (ps_ref (some (6, i)) :: st) σ ce sl :=
  pv_get E (ci := 5) (T := T_Task) 6 i 6 (fs_Task σ i) (ps_int (ps_I σ 6 i 6)) (fun _ => rfl) (fun _ => rfl) (Or.inr fun _ => trivial) rfl in_Task (by decide) hl hd kk
theorem pf_Task_worked (E : ps_E p s m c cc nL own D ca) {index i : Nat} {x : Int32} (hl : Cond.fieldLink own index "PromiseScopes$Task" "worked" "I" ∈ ps_T) (hd : decode cc pc = .ok (.putfield index, 3)) (kk : ps_V p l e R s m args below meth c nL D ca A H0 adr0 σ0 Q (pc + 3) L st (ps_sI σ 6 i 6 x) ce sl) : ps_V p l e R s m args below meth c nL D ca A H0 adr0 σ0 Q pc L (ps_int x :: ps_ref (some (6, i)) :: st) σ ce sl :=
  pv_putI E (ci := 5) (T := T_Task) (ty := .int) 6 i 6 x (fs_Task σ i) (fun _ => rfl) (fun _ => rfl) (fun _ => Nat.le_of_ble_eq_true rfl) rfl in_Task ty_Task ty_Task_ok nm_Task (by decide) hl rfl rfl rfl rfl hd kk
theorem gf_Task_content (E : ps_E p s m c cc nL own D ca) {index i : Nat} (hl : Cond.fieldLink own index "PromiseScopes$Task" "content" "I" ∈ ps_T) (hd : decode cc pc = .ok (.getfield index, 3)) (kk : ps_V p l e R s m args below meth c nL D ca A H0 adr0 σ0 Q (pc + 3) L (ps_int (ps_I σ 6 i 7) :: st) σ ce sl) : ps_V p l e R s m args below meth c nL D ca A H0 adr0 σ0 Q pc L (ps_ref (some (6, i)) :: st) σ ce sl :=
  pv_get E (ci := 5) (T := T_Task) 6 i 7 (fs_Task σ i) (ps_int (ps_I σ 6 i 7)) (fun _ => rfl) (fun _ => rfl) (Or.inr fun _ => trivial) rfl in_Task (by decide) hl hd kk
theorem pf_Task_content (E : ps_E p s m c cc nL own D ca) {index i : Nat} {x : Int32} (hl : Cond.fieldLink own index "PromiseScopes$Task" "content" "I" ∈ ps_T) (hd : decode cc pc = .ok (.putfield index, 3)) (kk : ps_V p l e R s m args below meth c nL D ca A H0 adr0 σ0 Q (pc + 3) L st (ps_sI σ 6 i 7 x) ce sl) : ps_V p l e R s m args below meth c nL D ca A H0 adr0 σ0 Q pc L (ps_int x :: ps_ref (some (6, i)) :: st) σ ce sl :=
  pv_putI E (ci := 5) (T := T_Task) (ty := .int) 6 i 7 x (fs_Task σ i) (fun _ => rfl) (fun _ => rfl) (fun _ => Nat.le_of_ble_eq_true rfl) rfl in_Task ty_Task ty_Task_ok nm_Task (by decide) hl rfl rfl rfl rfl hd kk
theorem gf_Task_turn (E : ps_E p s m c cc nL own D ca) {index i : Nat} (hl : Cond.fieldLink own index "PromiseScopes$Task" "turn" "I" ∈ ps_T) (hd : decode cc pc = .ok (.getfield index, 3)) (kk : ps_V p l e R s m args below meth c nL D ca A H0 adr0 σ0 Q (pc + 3) L (ps_int (ps_I σ 6 i 8) :: st) σ ce sl) : ps_V p l e R s m args below meth c nL D ca A H0 adr0 σ0 Q pc L (ps_ref (some (6, i)) :: st) σ ce sl :=
  pv_get E (ci := 5) (T := T_Task) 6 i 8 (fs_Task σ i) (ps_int (ps_I σ 6 i 8)) (fun _ => rfl) (fun _ => rfl) (Or.inr fun _ => trivial) rfl in_Task (by decide) hl hd kk
theorem pf_Task_turn (E : ps_E p s m c cc nL own D ca) {index i : Nat} {x : Int32} (hl : Cond.fieldLink own index "PromiseScopes$Task" "turn" "I" ∈ ps_T) (hd : decode cc pc = .ok (.putfield index, 3)) (kk : ps_V p l e R s m args below meth c nL D ca A H0 adr0 σ0 Q (pc + 3) L st (ps_sI σ 6 i 8 x) ce sl) : ps_V p l e R s m args below meth c nL D ca A H0 adr0 σ0 Q pc L (ps_int x :: ps_ref (some (6, i)) :: st) σ ce sl :=
  pv_putI E (ci := 5) (T := T_Task) (ty := .int) 6 i 8 x (fs_Task σ i) (fun _ => rfl) (fun _ => rfl) (fun _ => Nat.le_of_ble_eq_true rfl) rfl in_Task ty_Task ty_Task_ok nm_Task (by decide) hl rfl rfl rfl rfl hd kk
abbrev fs_Tree (σ : ps_S) (i : Nat) (adr : Nat → Nat → Nat) : List Value := [va_rf (ps_e adr (ps_R σ 7 i 0)), va_rf (ps_e adr (ps_R σ 7 i 1)), .int (ps_I σ 7 i 2), .int (ps_I σ 7 i 3), .int (ps_I σ 7 i 4), .int (ps_I σ 7 i 5)]
theorem cell_Tree (ca : Nat → ClassId) (adr : Nat → Nat → Nat) (σ : ps_S) (i : Nat) : ps_cell ca adr σ 7 i = .inr (6, fs_Tree σ i adr) := rfl
theorem gf_Tree_scopes (E : ps_E p s m c cc nL own D ca) {index i : Nat} (hl : Cond.fieldLink own index "PromiseScopes$ScopeTree" "scopes" "[LPromiseScopes$Scope;" ∈ ps_T) (hd : decode cc pc = .ok (.getfield index, 3)) (kk : ps_V p l e R s m args below meth c nL D ca A H0 adr0 σ0 Q (pc + 3) L (ps_ref (ps_R σ 7 i 0) :: st) σ ce sl) : ps_V p l e R s m args below meth c nL D ca A H0 adr0 σ0 Q pc L (ps_ref (some (7, i)) :: st) σ ce sl :=
  pv_get E (ci := 6) (T := T_Tree) 7 i 0 (fs_Tree σ i) (ps_ref (ps_R σ 7 i 0)) (fun _ => rfl) (fun _ => rfl) (Or.inl rfl) rfl in_Tree (by decide) hl hd kk
theorem pf_Tree_scopes (E : ps_E p s m c cc nL "PromiseScopes$ScopeTree" D ca) {index i : Nat} {x : Option (Nat × Nat)} (hl : Cond.fieldLink "PromiseScopes$ScopeTree" index "PromiseScopes$ScopeTree" "scopes" "[LPromiseScopes$Scope;" ∈ ps_T) (hd : decode cc pc = .ok (.putfield index, 3)) (hin2 : meth.name = "<init>") (kk : ps_V p l e R s m args below meth c nL D ca A H0 adr0 σ0 Q (pc + 3) L st (ps_sR σ 7 i 0 x) ce sl) : ps_V p l e R s m args below meth c nL D ca A H0 adr0 σ0 Q pc L (ps_ref x :: ps_ref (some (7, i)) :: st) σ ce sl :=
  pv_putRF E (ci := 6) (T := T_Tree) (ty := .array (.object "PromiseScopes$Scope")) 7 i 0 x (fs_Tree σ i) (fun _ => rfl) (fun _ => rfl) (fun _ => Nat.le_of_ble_eq_true rfl) rfl in_Tree ty_Tree ty_Tree_ok nm_Tree (by decide) hl rfl hin2 rfl rfl (Or.inr ⟨_, rfl⟩) hd kk
theorem gf_Tree_tasks (E : ps_E p s m c cc nL own D ca) {index i : Nat} (hl : Cond.fieldLink own index "PromiseScopes$ScopeTree" "tasks" "[LPromiseScopes$Task;" ∈ ps_T) (hd : decode cc pc = .ok (.getfield index, 3)) (kk : ps_V p l e R s m args below meth c nL D ca A H0 adr0 σ0 Q (pc + 3) L (ps_ref (ps_R σ 7 i 1) :: st) σ ce sl) : ps_V p l e R s m args below meth c nL D ca A H0 adr0 σ0 Q pc L (ps_ref (some (7, i)) :: st) σ ce sl :=
  pv_get E (ci := 6) (T := T_Tree) 7 i 1 (fs_Tree σ i) (ps_ref (ps_R σ 7 i 1)) (fun _ => rfl) (fun _ => rfl) (Or.inl rfl) rfl in_Tree (by decide) hl hd kk
theorem pf_Tree_tasks (E : ps_E p s m c cc nL "PromiseScopes$ScopeTree" D ca) {index i : Nat} {x : Option (Nat × Nat)} (hl : Cond.fieldLink "PromiseScopes$ScopeTree" index "PromiseScopes$ScopeTree" "tasks" "[LPromiseScopes$Task;" ∈ ps_T) (hd : decode cc pc = .ok (.putfield index, 3)) (hin2 : meth.name = "<init>") (kk : ps_V p l e R s m args below meth c nL D ca A H0 adr0 σ0 Q (pc + 3) L st (ps_sR σ 7 i 1 x) ce sl) : ps_V p l e R s m args below meth c nL D ca A H0 adr0 σ0 Q pc L (ps_ref x :: ps_ref (some (7, i)) :: st) σ ce sl :=
  pv_putRF E (ci := 6) (T := T_Tree) (ty := .array (.object "PromiseScopes$Task")) 7 i 1 x (fs_Tree σ i) (fun _ => rfl) (fun _ => rfl) (fun _ => Nat.le_of_ble_eq_true rfl) rfl in_Tree ty_Tree ty_Tree_ok nm_Tree (by decide) hl rfl hin2 rfl rfl (Or.inr ⟨_, rfl⟩) hd kk
theorem gf_Tree_scopesMade (E : ps_E p s m c cc nL own D ca) {index i : Nat} (hl : Cond.fieldLink own index "PromiseScopes$ScopeTree" "scopesMade" "I" ∈ ps_T) (hd : decode cc pc = .ok (.getfield index, 3)) (kk : ps_V p l e R s m args below meth c nL D ca A H0 adr0 σ0 Q (pc + 3) L (ps_int (ps_I σ 7 i 2) :: st) σ ce sl) : ps_V p l e R s m args below meth c nL D ca A H0 adr0 σ0 Q pc L (ps_ref (some (7, i)) :: st) σ ce sl :=
  pv_get E (ci := 6) (T := T_Tree) 7 i 2 (fs_Tree σ i) (ps_int (ps_I σ 7 i 2)) (fun _ => rfl) (fun _ => rfl) (Or.inr fun _ => trivial) rfl in_Tree (by decide) hl hd kk
theorem pf_Tree_scopesMade (E : ps_E p s m c cc nL own D ca) {index i : Nat} {x : Int32} (hl : Cond.fieldLink own index "PromiseScopes$ScopeTree" "scopesMade" "I" ∈ ps_T) (hd : decode cc pc = .ok (.putfield index, 3)) (kk : ps_V p l e R s m args below meth c nL D ca A H0 adr0 σ0 Q (pc + 3) L st (ps_sI σ 7 i 2 x) ce sl) : ps_V p l e R s m args below meth c nL D ca A H0 adr0 σ0 Q pc L (ps_int x :: ps_ref (some (7, i)) :: st) σ ce sl :=
  pv_putI E (ci := 6) (T := T_Tree) (ty := .int) 7 i 2 x (fs_Tree σ i) (fun _ => rfl) (fun _ => rfl) (fun _ => Nat.le_of_ble_eq_true rfl) rfl in_Tree ty_Tree ty_Tree_ok nm_Tree (by decide) hl rfl rfl rfl rfl hd kk
theorem gf_Tree_tasksMade (E : ps_E p s m c cc nL own D ca) {index i : Nat} (hl : Cond.fieldLink own index "PromiseScopes$ScopeTree" "tasksMade" "I" ∈ ps_T) (hd : decode cc pc = .ok (.getfield index, 3)) (kk : ps_V p l e R s m args below meth c nL D ca A H0 adr0 σ0 Q (pc + 3) L (ps_int (ps_I σ 7 i 3) :: st) σ ce sl) : ps_V p l e R s m args below meth c nL D ca A H0 adr0 σ0 Q pc L (ps_ref (some (7, i)) :: st) σ ce sl :=
  pv_get E (ci := 6) (T := T_Tree) 7 i 3 (fs_Tree σ i) (ps_int (ps_I σ 7 i 3)) (fun _ => rfl) (fun _ => rfl) (Or.inr fun _ => trivial) rfl in_Tree (by decide) hl hd kk
theorem pf_Tree_tasksMade (E : ps_E p s m c cc nL own D ca) {index i : Nat} {x : Int32} (hl : Cond.fieldLink own index "PromiseScopes$ScopeTree" "tasksMade" "I" ∈ ps_T) (hd : decode cc pc = .ok (.putfield index, 3)) (kk : ps_V p l e R s m args below meth c nL D ca A H0 adr0 σ0 Q (pc + 3) L st (ps_sI σ 7 i 3 x) ce sl) : ps_V p l e R s m args below meth c nL D ca A H0 adr0 σ0 Q pc L (ps_int x :: ps_ref (some (7, i)) :: st) σ ce sl :=
  pv_putI E (ci := 6) (T := T_Tree) (ty := .int) 7 i 3 x (fs_Tree σ i) (fun _ => rfl) (fun _ => rfl) (fun _ => Nat.le_of_ble_eq_true rfl) rfl in_Tree ty_Tree ty_Tree_ok nm_Tree (by decide) hl rfl rfl rfl rfl hd kk
theorem gf_Tree_time (E : ps_E p s m c cc nL own D ca) {index i : Nat} (hl : Cond.fieldLink own index "PromiseScopes$ScopeTree" "time" "I" ∈ ps_T) (hd : decode cc pc = .ok (.getfield index, 3)) (kk : ps_V p l e R s m args below meth c nL D ca A H0 adr0 σ0 Q (pc + 3) L (ps_int (ps_I σ 7 i 4) :: st) σ ce sl) : ps_V p l e R s m args below meth c nL D ca A H0 adr0 σ0 Q pc L (ps_ref (some (7, i)) :: st) σ ce sl :=
  pv_get E (ci := 6) (T := T_Tree) 7 i 4 (fs_Tree σ i) (ps_int (ps_I σ 7 i 4)) (fun _ => rfl) (fun _ => rfl) (Or.inr fun _ => trivial) rfl in_Tree (by decide) hl hd kk
theorem pf_Tree_time (E : ps_E p s m c cc nL own D ca) {index i : Nat} {x : Int32} (hl : Cond.fieldLink own index "PromiseScopes$ScopeTree" "time" "I" ∈ ps_T) (hd : decode cc pc = .ok (.putfield index, 3)) (kk : ps_V p l e R s m args below meth c nL D ca A H0 adr0 σ0 Q (pc + 3) L st (ps_sI σ 7 i 4 x) ce sl) : ps_V p l e R s m args below meth c nL D ca A H0 adr0 σ0 Q pc L (ps_int x :: ps_ref (some (7, i)) :: st) σ ce sl :=
  pv_putI E (ci := 6) (T := T_Tree) (ty := .int) 7 i 4 x (fs_Tree σ i) (fun _ => rfl) (fun _ => rfl) (fun _ => Nat.le_of_ble_eq_true rfl) rfl in_Tree ty_Tree ty_Tree_ok nm_Tree (by decide) hl rfl rfl rfl rfl hd kk
theorem gf_Tree_tasksEnded (E : ps_E p s m c cc nL own D ca) {index i : Nat} (hl : Cond.fieldLink own index "PromiseScopes$ScopeTree" "tasksEnded" "I" ∈ ps_T) (hd : decode cc pc = .ok (.getfield index, 3)) (kk : ps_V p l e R s m args below meth c nL D ca A H0 adr0 σ0 Q (pc + 3) L (ps_int (ps_I σ 7 i 5) :: st) σ ce sl) : ps_V p l e R s m args below meth c nL D ca A H0 adr0 σ0 Q pc L (ps_ref (some (7, i)) :: st) σ ce sl :=
  pv_get E (ci := 6) (T := T_Tree) 7 i 5 (fs_Tree σ i) (ps_int (ps_I σ 7 i 5)) (fun _ => rfl) (fun _ => rfl) (Or.inr fun _ => trivial) rfl in_Tree (by decide) hl hd kk
theorem pf_Tree_tasksEnded (E : ps_E p s m c cc nL own D ca) {index i : Nat} {x : Int32} (hl : Cond.fieldLink own index "PromiseScopes$ScopeTree" "tasksEnded" "I" ∈ ps_T) (hd : decode cc pc = .ok (.putfield index, 3)) (kk : ps_V p l e R s m args below meth c nL D ca A H0 adr0 σ0 Q (pc + 3) L st (ps_sI σ 7 i 5 x) ce sl) : ps_V p l e R s m args below meth c nL D ca A H0 adr0 σ0 Q pc L (ps_int x :: ps_ref (some (7, i)) :: st) σ ce sl :=
  pv_putI E (ci := 6) (T := T_Tree) (ty := .int) 7 i 5 x (fs_Tree σ i) (fun _ => rfl) (fun _ => rfl) (fun _ => Nat.le_of_ble_eq_true rfl) rfl in_Tree ty_Tree ty_Tree_ok nm_Tree (by decide) hl rfl rfl rfl rfl hd kk
abbrev fs_Mod (σ : ps_S) (i : Nat) (adr : Nat → Nat → Nat) : List Value := [.int (ps_I σ 13 i 0), .int (ps_I σ 13 i 1), va_rf (ps_e adr (ps_R σ 13 i 2)), va_rf (ps_e adr (ps_R σ 13 i 3)), va_rf (ps_e adr (ps_R σ 13 i 4)), .int (ps_I σ 13 i 5), va_rf (ps_e adr (ps_R σ 13 i 6)), va_rf (ps_e adr (ps_R σ 13 i 7)), va_rf (ps_e adr (ps_R σ 13 i 8)), va_rf (ps_e adr (ps_R σ 13 i 9)), va_rf (ps_e adr (ps_R σ 13 i 10)), va_rf (ps_e adr (ps_R σ 13 i 11)), va_rf (ps_e adr (ps_R σ 13 i 12)), va_rf (ps_e adr (ps_R σ 13 i 13)), va_rf (ps_e adr (ps_R σ 13 i 14)), .int (ps_I σ 13 i 15), .int (ps_I σ 13 i 16), va_rf (ps_e adr (ps_R σ 13 i 17)), .int (ps_I σ 13 i 18), va_rf (ps_e adr (ps_R σ 13 i 19)), .int (ps_I σ 13 i 20), .int (ps_I σ 13 i 21), .int (ps_I σ 13 i 22), va_rf (ps_e adr (ps_R σ 13 i 23)), va_rf (ps_e adr (ps_R σ 13 i 24)), va_rf (ps_e adr (ps_R σ 13 i 25)), va_rf (ps_e adr (ps_R σ 13 i 26)), va_rf (ps_e adr (ps_R σ 13 i 27)), va_rf (ps_e adr (ps_R σ 13 i 28)), va_rf (ps_e adr (ps_R σ 13 i 29)), va_rf (ps_e adr (ps_R σ 13 i 30)), va_rf (ps_e adr (ps_R σ 13 i 31)), va_rf (ps_e adr (ps_R σ 13 i 32)), va_rf (ps_e adr (ps_R σ 13 i 33)), .int (ps_I σ 13 i 34), .int (ps_I σ 13 i 35), va_rf (ps_e adr (ps_R σ 13 i 36)), va_rf (ps_e adr (ps_R σ 13 i 37)), va_rf (ps_e adr (ps_R σ 13 i 38)), va_rf (ps_e adr (ps_R σ 13 i 39)), va_rf (ps_e adr (ps_R σ 13 i 40)), va_rf (ps_e adr (ps_R σ 13 i 41)), va_rf (ps_e adr (ps_R σ 13 i 42)), va_rf (ps_e adr (ps_R σ 13 i 43))]
theorem cell_Mod (ca : Nat → ClassId) (adr : Nat → Nat → Nat) (σ : ps_S) (i : Nat) : ps_cell ca adr σ 13 i = .inr (7, fs_Mod σ i adr) := rfl
theorem gf_Mod_thrown (E : ps_E p s m c cc nL own D ca) {index i : Nat} (hl : Cond.fieldLink own index "PromiseScopesModel" "thrown" "I" ∈ ps_T) (hd : decode cc pc = .ok (.getfield index, 3)) (kk : ps_V p l e R s m args below meth c nL D ca A H0 adr0 σ0 Q (pc + 3) L (ps_int (ps_I σ 13 i 0) :: st) σ ce sl) : ps_V p l e R s m args below meth c nL D ca A H0 adr0 σ0 Q pc L (ps_ref (some (13, i)) :: st) σ ce sl :=
  pv_get E (ci := 7) (T := T_Mod) 13 i 0 (fs_Mod σ i) (ps_int (ps_I σ 13 i 0)) (fun _ => rfl) (fun _ => rfl) (Or.inr fun _ => trivial) rfl in_Mod (by decide) hl hd kk
theorem pf_Mod_thrown (E : ps_E p s m c cc nL own D ca) {index i : Nat} {x : Int32} (hl : Cond.fieldLink own index "PromiseScopesModel" "thrown" "I" ∈ ps_T) (hd : decode cc pc = .ok (.putfield index, 3)) (kk : ps_V p l e R s m args below meth c nL D ca A H0 adr0 σ0 Q (pc + 3) L st (ps_sI σ 13 i 0 x) ce sl) : ps_V p l e R s m args below meth c nL D ca A H0 adr0 σ0 Q pc L (ps_int x :: ps_ref (some (13, i)) :: st) σ ce sl :=
  pv_putI E (ci := 7) (T := T_Mod) (ty := .int) 13 i 0 x (fs_Mod σ i) (fun _ => rfl) (fun _ => rfl) (fun _ => Nat.le_of_ble_eq_true rfl) rfl in_Mod ty_Mod ty_Mod_ok nm_Mod (by decide) hl rfl rfl rfl rfl hd kk
theorem gf_Mod_stages (E : ps_E p s m c cc nL own D ca) {index i : Nat} (hl : Cond.fieldLink own index "PromiseScopesModel" "stages" "I" ∈ ps_T) (hd : decode cc pc = .ok (.getfield index, 3)) (kk : ps_V p l e R s m args below meth c nL D ca A H0 adr0 σ0 Q (pc + 3) L (ps_int (ps_I σ 13 i 1) :: st) σ ce sl) : ps_V p l e R s m args below meth c nL D ca A H0 adr0 σ0 Q pc L (ps_ref (some (13, i)) :: st) σ ce sl :=
  pv_get E (ci := 7) (T := T_Mod) 13 i 1 (fs_Mod σ i) (ps_int (ps_I σ 13 i 1)) (fun _ => rfl) (fun _ => rfl) (Or.inr fun _ => trivial) rfl in_Mod (by decide) hl hd kk
theorem pf_Mod_stages (E : ps_E p s m c cc nL own D ca) {index i : Nat} {x : Int32} (hl : Cond.fieldLink own index "PromiseScopesModel" "stages" "I" ∈ ps_T) (hd : decode cc pc = .ok (.putfield index, 3)) (kk : ps_V p l e R s m args below meth c nL D ca A H0 adr0 σ0 Q (pc + 3) L st (ps_sI σ 13 i 1 x) ce sl) : ps_V p l e R s m args below meth c nL D ca A H0 adr0 σ0 Q pc L (ps_int x :: ps_ref (some (13, i)) :: st) σ ce sl :=
  pv_putI E (ci := 7) (T := T_Mod) (ty := .int) 13 i 1 x (fs_Mod σ i) (fun _ => rfl) (fun _ => rfl) (fun _ => Nat.le_of_ble_eq_true rfl) rfl in_Mod ty_Mod ty_Mod_ok nm_Mod (by decide) hl rfl rfl rfl rfl hd kk
theorem gf_Mod_state (E : ps_E p s m c cc nL own D ca) {index i : Nat} (hl : Cond.fieldLink own index "PromiseScopesModel" "state" "[I" ∈ ps_T) (hd : decode cc pc = .ok (.getfield index, 3)) (kk : ps_V p l e R s m args below meth c nL D ca A H0 adr0 σ0 Q (pc + 3) L (ps_ref (ps_R σ 13 i 2) :: st) σ ce sl) : ps_V p l e R s m args below meth c nL D ca A H0 adr0 σ0 Q pc L (ps_ref (some (13, i)) :: st) σ ce sl :=
  pv_get E (ci := 7) (T := T_Mod) 13 i 2 (fs_Mod σ i) (ps_ref (ps_R σ 13 i 2)) (fun _ => rfl) (fun _ => rfl) (Or.inl rfl) rfl in_Mod (by decide) hl hd kk
theorem pf_Mod_state (E : ps_E p s m c cc nL own D ca) {index i : Nat} {x : Option (Nat × Nat)} (hl : Cond.fieldLink own index "PromiseScopesModel" "state" "[I" ∈ ps_T) (hd : decode cc pc = .ok (.putfield index, 3)) (kk : ps_V p l e R s m args below meth c nL D ca A H0 adr0 σ0 Q (pc + 3) L st (ps_sR σ 13 i 2 x) ce sl) : ps_V p l e R s m args below meth c nL D ca A H0 adr0 σ0 Q pc L (ps_ref x :: ps_ref (some (13, i)) :: st) σ ce sl :=
  pv_putR E (ci := 7) (T := T_Mod) (ty := .array (.int)) 13 i 2 x (fs_Mod σ i) (fun _ => rfl) (fun _ => rfl) (fun _ => Nat.le_of_ble_eq_true rfl) rfl in_Mod ty_Mod ty_Mod_ok nm_Mod (by decide) hl rfl rfl (Or.inr ⟨_, rfl⟩) hd kk
theorem gf_Mod_value (E : ps_E p s m c cc nL own D ca) {index i : Nat} (hl : Cond.fieldLink own index "PromiseScopesModel" "value" "[I" ∈ ps_T) (hd : decode cc pc = .ok (.getfield index, 3)) (kk : ps_V p l e R s m args below meth c nL D ca A H0 adr0 σ0 Q (pc + 3) L (ps_ref (ps_R σ 13 i 3) :: st) σ ce sl) : ps_V p l e R s m args below meth c nL D ca A H0 adr0 σ0 Q pc L (ps_ref (some (13, i)) :: st) σ ce sl :=
  pv_get E (ci := 7) (T := T_Mod) 13 i 3 (fs_Mod σ i) (ps_ref (ps_R σ 13 i 3)) (fun _ => rfl) (fun _ => rfl) (Or.inl rfl) rfl in_Mod (by decide) hl hd kk
theorem pf_Mod_value (E : ps_E p s m c cc nL own D ca) {index i : Nat} {x : Option (Nat × Nat)} (hl : Cond.fieldLink own index "PromiseScopesModel" "value" "[I" ∈ ps_T) (hd : decode cc pc = .ok (.putfield index, 3)) (kk : ps_V p l e R s m args below meth c nL D ca A H0 adr0 σ0 Q (pc + 3) L st (ps_sR σ 13 i 3 x) ce sl) : ps_V p l e R s m args below meth c nL D ca A H0 adr0 σ0 Q pc L (ps_ref x :: ps_ref (some (13, i)) :: st) σ ce sl :=
  pv_putR E (ci := 7) (T := T_Mod) (ty := .array (.int)) 13 i 3 x (fs_Mod σ i) (fun _ => rfl) (fun _ => rfl) (fun _ => Nat.le_of_ble_eq_true rfl) rfl in_Mod ty_Mod ty_Mod_ok nm_Mod (by decide) hl rfl rfl (Or.inr ⟨_, rfl⟩) hd kk
theorem gf_Mod_came (E : ps_E p s m c cc nL own D ca) {index i : Nat} (hl : Cond.fieldLink own index "PromiseScopesModel" "came" "[I" ∈ ps_T) (hd : decode cc pc = .ok (.getfield index, 3)) (kk : ps_V p l e R s m args below meth c nL D ca A H0 adr0 σ0 Q (pc + 3) L (ps_ref (ps_R σ 13 i 4) :: st) σ ce sl) : ps_V p l e R s m args below meth c nL D ca A H0 adr0 σ0 Q pc L (ps_ref (some (13, i)) :: st) σ ce sl :=
  pv_get E (ci := 7) (T := T_Mod) 13 i 4 (fs_Mod σ i) (ps_ref (ps_R σ 13 i 4)) (fun _ => rfl) (fun _ => rfl) (Or.inl rfl) rfl in_Mod (by decide) hl hd kk
theorem pf_Mod_came (E : ps_E p s m c cc nL own D ca) {index i : Nat} {x : Option (Nat × Nat)} (hl : Cond.fieldLink own index "PromiseScopesModel" "came" "[I" ∈ ps_T) (hd : decode cc pc = .ok (.putfield index, 3)) (kk : ps_V p l e R s m args below meth c nL D ca A H0 adr0 σ0 Q (pc + 3) L st (ps_sR σ 13 i 4 x) ce sl) : ps_V p l e R s m args below meth c nL D ca A H0 adr0 σ0 Q pc L (ps_ref x :: ps_ref (some (13, i)) :: st) σ ce sl :=
  pv_putR E (ci := 7) (T := T_Mod) (ty := .array (.int)) 13 i 4 x (fs_Mod σ i) (fun _ => rfl) (fun _ => rfl) (fun _ => Nat.le_of_ble_eq_true rfl) rfl in_Mod ty_Mod ty_Mod_ok nm_Mod (by decide) hl rfl rfl (Or.inr ⟨_, rfl⟩) hd kk
theorem gf_Mod_clock (E : ps_E p s m c cc nL own D ca) {index i : Nat} (hl : Cond.fieldLink own index "PromiseScopesModel" "clock" "I" ∈ ps_T) (hd : decode cc pc = .ok (.getfield index, 3)) (kk : ps_V p l e R s m args below meth c nL D ca A H0 adr0 σ0 Q (pc + 3) L (ps_int (ps_I σ 13 i 5) :: st) σ ce sl) : ps_V p l e R s m args below meth c nL D ca A H0 adr0 σ0 Q pc L (ps_ref (some (13, i)) :: st) σ ce sl :=
  pv_get E (ci := 7) (T := T_Mod) 13 i 5 (fs_Mod σ i) (ps_int (ps_I σ 13 i 5)) (fun _ => rfl) (fun _ => rfl) (Or.inr fun _ => trivial) rfl in_Mod (by decide) hl hd kk
theorem pf_Mod_clock (E : ps_E p s m c cc nL own D ca) {index i : Nat} {x : Int32} (hl : Cond.fieldLink own index "PromiseScopesModel" "clock" "I" ∈ ps_T) (hd : decode cc pc = .ok (.putfield index, 3)) (kk : ps_V p l e R s m args below meth c nL D ca A H0 adr0 σ0 Q (pc + 3) L st (ps_sI σ 13 i 5 x) ce sl) : ps_V p l e R s m args below meth c nL D ca A H0 adr0 σ0 Q pc L (ps_int x :: ps_ref (some (13, i)) :: st) σ ce sl :=
  pv_putI E (ci := 7) (T := T_Mod) (ty := .int) 13 i 5 x (fs_Mod σ i) (fun _ => rfl) (fun _ => rfl) (fun _ => Nat.le_of_ble_eq_true rfl) rfl in_Mod ty_Mod ty_Mod_ok nm_Mod (by decide) hl rfl rfl rfl rfl hd kk
theorem gf_Mod_kind (E : ps_E p s m c cc nL own D ca) {index i : Nat} (hl : Cond.fieldLink own index "PromiseScopesModel" "kind" "[I" ∈ ps_T) (hd : decode cc pc = .ok (.getfield index, 3)) (kk : ps_V p l e R s m args below meth c nL D ca A H0 adr0 σ0 Q (pc + 3) L (ps_ref (ps_R σ 13 i 6) :: st) σ ce sl) : ps_V p l e R s m args below meth c nL D ca A H0 adr0 σ0 Q pc L (ps_ref (some (13, i)) :: st) σ ce sl :=
  pv_get E (ci := 7) (T := T_Mod) 13 i 6 (fs_Mod σ i) (ps_ref (ps_R σ 13 i 6)) (fun _ => rfl) (fun _ => rfl) (Or.inl rfl) rfl in_Mod (by decide) hl hd kk
theorem pf_Mod_kind (E : ps_E p s m c cc nL own D ca) {index i : Nat} {x : Option (Nat × Nat)} (hl : Cond.fieldLink own index "PromiseScopesModel" "kind" "[I" ∈ ps_T) (hd : decode cc pc = .ok (.putfield index, 3)) (kk : ps_V p l e R s m args below meth c nL D ca A H0 adr0 σ0 Q (pc + 3) L st (ps_sR σ 13 i 6 x) ce sl) : ps_V p l e R s m args below meth c nL D ca A H0 adr0 σ0 Q pc L (ps_ref x :: ps_ref (some (13, i)) :: st) σ ce sl :=
  pv_putR E (ci := 7) (T := T_Mod) (ty := .array (.int)) 13 i 6 x (fs_Mod σ i) (fun _ => rfl) (fun _ => rfl) (fun _ => Nat.le_of_ble_eq_true rfl) rfl in_Mod ty_Mod ty_Mod_ok nm_Mod (by decide) hl rfl rfl (Or.inr ⟨_, rfl⟩) hd kk
theorem gf_Mod_function (E : ps_E p s m c cc nL own D ca) {index i : Nat} (hl : Cond.fieldLink own index "PromiseScopesModel" "function" "[I" ∈ ps_T) (hd : decode cc pc = .ok (.getfield index, 3)) (kk : ps_V p l e R s m args below meth c nL D ca A H0 adr0 σ0 Q (pc + 3) L (ps_ref (ps_R σ 13 i 7) :: st) σ ce sl) : ps_V p l e R s m args below meth c nL D ca A H0 adr0 σ0 Q pc L (ps_ref (some (13, i)) :: st) σ ce sl :=
  pv_get E (ci := 7) (T := T_Mod) 13 i 7 (fs_Mod σ i) (ps_ref (ps_R σ 13 i 7)) (fun _ => rfl) (fun _ => rfl) (Or.inl rfl) rfl in_Mod (by decide) hl hd kk
theorem pf_Mod_function (E : ps_E p s m c cc nL own D ca) {index i : Nat} {x : Option (Nat × Nat)} (hl : Cond.fieldLink own index "PromiseScopesModel" "function" "[I" ∈ ps_T) (hd : decode cc pc = .ok (.putfield index, 3)) (kk : ps_V p l e R s m args below meth c nL D ca A H0 adr0 σ0 Q (pc + 3) L st (ps_sR σ 13 i 7 x) ce sl) : ps_V p l e R s m args below meth c nL D ca A H0 adr0 σ0 Q pc L (ps_ref x :: ps_ref (some (13, i)) :: st) σ ce sl :=
  pv_putR E (ci := 7) (T := T_Mod) (ty := .array (.int)) 13 i 7 x (fs_Mod σ i) (fun _ => rfl) (fun _ => rfl) (fun _ => Nat.le_of_ble_eq_true rfl) rfl in_Mod ty_Mod ty_Mod_ok nm_Mod (by decide) hl rfl rfl (Or.inr ⟨_, rfl⟩) hd kk
theorem gf_Mod_number (E : ps_E p s m c cc nL own D ca) {index i : Nat} (hl : Cond.fieldLink own index "PromiseScopesModel" "number" "[I" ∈ ps_T) (hd : decode cc pc = .ok (.getfield index, 3)) (kk : ps_V p l e R s m args below meth c nL D ca A H0 adr0 σ0 Q (pc + 3) L (ps_ref (ps_R σ 13 i 8) :: st) σ ce sl) : ps_V p l e R s m args below meth c nL D ca A H0 adr0 σ0 Q pc L (ps_ref (some (13, i)) :: st) σ ce sl :=
  pv_get E (ci := 7) (T := T_Mod) 13 i 8 (fs_Mod σ i) (ps_ref (ps_R σ 13 i 8)) (fun _ => rfl) (fun _ => rfl) (Or.inl rfl) rfl in_Mod (by decide) hl hd kk
theorem pf_Mod_number (E : ps_E p s m c cc nL own D ca) {index i : Nat} {x : Option (Nat × Nat)} (hl : Cond.fieldLink own index "PromiseScopesModel" "number" "[I" ∈ ps_T) (hd : decode cc pc = .ok (.putfield index, 3)) (kk : ps_V p l e R s m args below meth c nL D ca A H0 adr0 σ0 Q (pc + 3) L st (ps_sR σ 13 i 8 x) ce sl) : ps_V p l e R s m args below meth c nL D ca A H0 adr0 σ0 Q pc L (ps_ref x :: ps_ref (some (13, i)) :: st) σ ce sl :=
  pv_putR E (ci := 7) (T := T_Mod) (ty := .array (.int)) 13 i 8 x (fs_Mod σ i) (fun _ => rfl) (fun _ => rfl) (fun _ => Nat.le_of_ble_eq_true rfl) rfl in_Mod ty_Mod ty_Mod_ok nm_Mod (by decide) hl rfl rfl (Or.inr ⟨_, rfl⟩) hd kk
theorem gf_Mod_first (E : ps_E p s m c cc nL own D ca) {index i : Nat} (hl : Cond.fieldLink own index "PromiseScopesModel" "first" "[I" ∈ ps_T) (hd : decode cc pc = .ok (.getfield index, 3)) (kk : ps_V p l e R s m args below meth c nL D ca A H0 adr0 σ0 Q (pc + 3) L (ps_ref (ps_R σ 13 i 9) :: st) σ ce sl) : ps_V p l e R s m args below meth c nL D ca A H0 adr0 σ0 Q pc L (ps_ref (some (13, i)) :: st) σ ce sl :=
  pv_get E (ci := 7) (T := T_Mod) 13 i 9 (fs_Mod σ i) (ps_ref (ps_R σ 13 i 9)) (fun _ => rfl) (fun _ => rfl) (Or.inl rfl) rfl in_Mod (by decide) hl hd kk
theorem pf_Mod_first (E : ps_E p s m c cc nL own D ca) {index i : Nat} {x : Option (Nat × Nat)} (hl : Cond.fieldLink own index "PromiseScopesModel" "first" "[I" ∈ ps_T) (hd : decode cc pc = .ok (.putfield index, 3)) (kk : ps_V p l e R s m args below meth c nL D ca A H0 adr0 σ0 Q (pc + 3) L st (ps_sR σ 13 i 9 x) ce sl) : ps_V p l e R s m args below meth c nL D ca A H0 adr0 σ0 Q pc L (ps_ref x :: ps_ref (some (13, i)) :: st) σ ce sl :=
  pv_putR E (ci := 7) (T := T_Mod) (ty := .array (.int)) 13 i 9 x (fs_Mod σ i) (fun _ => rfl) (fun _ => rfl) (fun _ => Nat.le_of_ble_eq_true rfl) rfl in_Mod ty_Mod ty_Mod_ok nm_Mod (by decide) hl rfl rfl (Or.inr ⟨_, rfl⟩) hd kk
theorem gf_Mod_second (E : ps_E p s m c cc nL own D ca) {index i : Nat} (hl : Cond.fieldLink own index "PromiseScopesModel" "second" "[I" ∈ ps_T) (hd : decode cc pc = .ok (.getfield index, 3)) (kk : ps_V p l e R s m args below meth c nL D ca A H0 adr0 σ0 Q (pc + 3) L (ps_ref (ps_R σ 13 i 10) :: st) σ ce sl) : ps_V p l e R s m args below meth c nL D ca A H0 adr0 σ0 Q pc L (ps_ref (some (13, i)) :: st) σ ce sl :=
  pv_get E (ci := 7) (T := T_Mod) 13 i 10 (fs_Mod σ i) (ps_ref (ps_R σ 13 i 10)) (fun _ => rfl) (fun _ => rfl) (Or.inl rfl) rfl in_Mod (by decide) hl hd kk
theorem pf_Mod_second (E : ps_E p s m c cc nL own D ca) {index i : Nat} {x : Option (Nat × Nat)} (hl : Cond.fieldLink own index "PromiseScopesModel" "second" "[I" ∈ ps_T) (hd : decode cc pc = .ok (.putfield index, 3)) (kk : ps_V p l e R s m args below meth c nL D ca A H0 adr0 σ0 Q (pc + 3) L st (ps_sR σ 13 i 10 x) ce sl) : ps_V p l e R s m args below meth c nL D ca A H0 adr0 σ0 Q pc L (ps_ref x :: ps_ref (some (13, i)) :: st) σ ce sl :=
  pv_putR E (ci := 7) (T := T_Mod) (ty := .array (.int)) 13 i 10 x (fs_Mod σ i) (fun _ => rfl) (fun _ => rfl) (fun _ => Nat.le_of_ble_eq_true rfl) rfl in_Mod ty_Mod ty_Mod_ok nm_Mod (by decide) hl rfl rfl (Or.inr ⟨_, rfl⟩) hd kk
theorem gf_Mod_inputs (E : ps_E p s m c cc nL own D ca) {index i : Nat} (hl : Cond.fieldLink own index "PromiseScopesModel" "inputs" "[J" ∈ ps_T) (hd : decode cc pc = .ok (.getfield index, 3)) (kk : ps_V p l e R s m args below meth c nL D ca A H0 adr0 σ0 Q (pc + 3) L (ps_ref (ps_R σ 13 i 11) :: st) σ ce sl) : ps_V p l e R s m args below meth c nL D ca A H0 adr0 σ0 Q pc L (ps_ref (some (13, i)) :: st) σ ce sl :=
  pv_get E (ci := 7) (T := T_Mod) 13 i 11 (fs_Mod σ i) (ps_ref (ps_R σ 13 i 11)) (fun _ => rfl) (fun _ => rfl) (Or.inl rfl) rfl in_Mod (by decide) hl hd kk
theorem pf_Mod_inputs (E : ps_E p s m c cc nL own D ca) {index i : Nat} {x : Option (Nat × Nat)} (hl : Cond.fieldLink own index "PromiseScopesModel" "inputs" "[J" ∈ ps_T) (hd : decode cc pc = .ok (.putfield index, 3)) (kk : ps_V p l e R s m args below meth c nL D ca A H0 adr0 σ0 Q (pc + 3) L st (ps_sR σ 13 i 11 x) ce sl) : ps_V p l e R s m args below meth c nL D ca A H0 adr0 σ0 Q pc L (ps_ref x :: ps_ref (some (13, i)) :: st) σ ce sl :=
  pv_putR E (ci := 7) (T := T_Mod) (ty := .array (.long)) 13 i 11 x (fs_Mod σ i) (fun _ => rfl) (fun _ => rfl) (fun _ => Nat.le_of_ble_eq_true rfl) rfl in_Mod ty_Mod ty_Mod_ok nm_Mod (by decide) hl rfl rfl (Or.inr ⟨_, rfl⟩) hd kk
theorem gf_Mod_apart (E : ps_E p s m c cc nL own D ca) {index i : Nat} (hl : Cond.fieldLink own index "PromiseScopesModel" "apart" "[Z" ∈ ps_T) (hd : decode cc pc = .ok (.getfield index, 3)) (kk : ps_V p l e R s m args below meth c nL D ca A H0 adr0 σ0 Q (pc + 3) L (ps_ref (ps_R σ 13 i 12) :: st) σ ce sl) : ps_V p l e R s m args below meth c nL D ca A H0 adr0 σ0 Q pc L (ps_ref (some (13, i)) :: st) σ ce sl :=
  pv_get E (ci := 7) (T := T_Mod) 13 i 12 (fs_Mod σ i) (ps_ref (ps_R σ 13 i 12)) (fun _ => rfl) (fun _ => rfl) (Or.inl rfl) rfl in_Mod (by decide) hl hd kk
theorem pf_Mod_apart (E : ps_E p s m c cc nL own D ca) {index i : Nat} {x : Option (Nat × Nat)} (hl : Cond.fieldLink own index "PromiseScopesModel" "apart" "[Z" ∈ ps_T) (hd : decode cc pc = .ok (.putfield index, 3)) (kk : ps_V p l e R s m args below meth c nL D ca A H0 adr0 σ0 Q (pc + 3) L st (ps_sR σ 13 i 12 x) ce sl) : ps_V p l e R s m args below meth c nL D ca A H0 adr0 σ0 Q pc L (ps_ref x :: ps_ref (some (13, i)) :: st) σ ce sl :=
  pv_putR E (ci := 7) (T := T_Mod) (ty := .array (.boolean)) 13 i 12 x (fs_Mod σ i) (fun _ => rfl) (fun _ => rfl) (fun _ => Nat.le_of_ble_eq_true rfl) rfl in_Mod ty_Mod ty_Mod_ok nm_Mod (by decide) hl rfl rfl (Or.inr ⟨_, rfl⟩) hd kk
theorem gf_Mod_awaits (E : ps_E p s m c cc nL own D ca) {index i : Nat} (hl : Cond.fieldLink own index "PromiseScopesModel" "awaits" "[I" ∈ ps_T) (hd : decode cc pc = .ok (.getfield index, 3)) (kk : ps_V p l e R s m args below meth c nL D ca A H0 adr0 σ0 Q (pc + 3) L (ps_ref (ps_R σ 13 i 13) :: st) σ ce sl) : ps_V p l e R s m args below meth c nL D ca A H0 adr0 σ0 Q pc L (ps_ref (some (13, i)) :: st) σ ce sl :=
  pv_get E (ci := 7) (T := T_Mod) 13 i 13 (fs_Mod σ i) (ps_ref (ps_R σ 13 i 13)) (fun _ => rfl) (fun _ => rfl) (Or.inl rfl) rfl in_Mod (by decide) hl hd kk
theorem pf_Mod_awaits (E : ps_E p s m c cc nL own D ca) {index i : Nat} {x : Option (Nat × Nat)} (hl : Cond.fieldLink own index "PromiseScopesModel" "awaits" "[I" ∈ ps_T) (hd : decode cc pc = .ok (.putfield index, 3)) (kk : ps_V p l e R s m args below meth c nL D ca A H0 adr0 σ0 Q (pc + 3) L st (ps_sR σ 13 i 13 x) ce sl) : ps_V p l e R s m args below meth c nL D ca A H0 adr0 σ0 Q pc L (ps_ref x :: ps_ref (some (13, i)) :: st) σ ce sl :=
  pv_putR E (ci := 7) (T := T_Mod) (ty := .array (.int)) 13 i 13 x (fs_Mod σ i) (fun _ => rfl) (fun _ => rfl) (fun _ => Nat.le_of_ble_eq_true rfl) rfl in_Mod ty_Mod ty_Mod_ok nm_Mod (by decide) hl rfl rfl (Or.inr ⟨_, rfl⟩) hd kk
theorem gf_Mod_queued (E : ps_E p s m c cc nL own D ca) {index i : Nat} (hl : Cond.fieldLink own index "PromiseScopesModel" "queued" "[Z" ∈ ps_T) (hd : decode cc pc = .ok (.getfield index, 3)) (kk : ps_V p l e R s m args below meth c nL D ca A H0 adr0 σ0 Q (pc + 3) L (ps_ref (ps_R σ 13 i 14) :: st) σ ce sl) : ps_V p l e R s m args below meth c nL D ca A H0 adr0 σ0 Q pc L (ps_ref (some (13, i)) :: st) σ ce sl :=
  pv_get E (ci := 7) (T := T_Mod) 13 i 14 (fs_Mod σ i) (ps_ref (ps_R σ 13 i 14)) (fun _ => rfl) (fun _ => rfl) (Or.inl rfl) rfl in_Mod (by decide) hl hd kk
theorem pf_Mod_queued (E : ps_E p s m c cc nL own D ca) {index i : Nat} {x : Option (Nat × Nat)} (hl : Cond.fieldLink own index "PromiseScopesModel" "queued" "[Z" ∈ ps_T) (hd : decode cc pc = .ok (.putfield index, 3)) (kk : ps_V p l e R s m args below meth c nL D ca A H0 adr0 σ0 Q (pc + 3) L st (ps_sR σ 13 i 14 x) ce sl) : ps_V p l e R s m args below meth c nL D ca A H0 adr0 σ0 Q pc L (ps_ref x :: ps_ref (some (13, i)) :: st) σ ce sl :=
  pv_putR E (ci := 7) (T := T_Mod) (ty := .array (.boolean)) 13 i 14 x (fs_Mod σ i) (fun _ => rfl) (fun _ => rfl) (fun _ => Nat.le_of_ble_eq_true rfl) rfl in_Mod ty_Mod ty_Mod_ok nm_Mod (by decide) hl rfl rfl (Or.inr ⟨_, rfl⟩) hd kk
theorem gf_Mod_lineFrom (E : ps_E p s m c cc nL own D ca) {index i : Nat} (hl : Cond.fieldLink own index "PromiseScopesModel" "lineFrom" "I" ∈ ps_T) (hd : decode cc pc = .ok (.getfield index, 3)) (kk : ps_V p l e R s m args below meth c nL D ca A H0 adr0 σ0 Q (pc + 3) L (ps_int (ps_I σ 13 i 15) :: st) σ ce sl) : ps_V p l e R s m args below meth c nL D ca A H0 adr0 σ0 Q pc L (ps_ref (some (13, i)) :: st) σ ce sl :=
  pv_get E (ci := 7) (T := T_Mod) 13 i 15 (fs_Mod σ i) (ps_int (ps_I σ 13 i 15)) (fun _ => rfl) (fun _ => rfl) (Or.inr fun _ => trivial) rfl in_Mod (by decide) hl hd kk
theorem pf_Mod_lineFrom (E : ps_E p s m c cc nL own D ca) {index i : Nat} {x : Int32} (hl : Cond.fieldLink own index "PromiseScopesModel" "lineFrom" "I" ∈ ps_T) (hd : decode cc pc = .ok (.putfield index, 3)) (kk : ps_V p l e R s m args below meth c nL D ca A H0 adr0 σ0 Q (pc + 3) L st (ps_sI σ 13 i 15 x) ce sl) : ps_V p l e R s m args below meth c nL D ca A H0 adr0 σ0 Q pc L (ps_int x :: ps_ref (some (13, i)) :: st) σ ce sl :=
  pv_putI E (ci := 7) (T := T_Mod) (ty := .int) 13 i 15 x (fs_Mod σ i) (fun _ => rfl) (fun _ => rfl) (fun _ => Nat.le_of_ble_eq_true rfl) rfl in_Mod ty_Mod ty_Mod_ok nm_Mod (by decide) hl rfl rfl rfl rfl hd kk
theorem gf_Mod_lineTo (E : ps_E p s m c cc nL own D ca) {index i : Nat} (hl : Cond.fieldLink own index "PromiseScopesModel" "lineTo" "I" ∈ ps_T) (hd : decode cc pc = .ok (.getfield index, 3)) (kk : ps_V p l e R s m args below meth c nL D ca A H0 adr0 σ0 Q (pc + 3) L (ps_int (ps_I σ 13 i 16) :: st) σ ce sl) : ps_V p l e R s m args below meth c nL D ca A H0 adr0 σ0 Q pc L (ps_ref (some (13, i)) :: st) σ ce sl :=
  pv_get E (ci := 7) (T := T_Mod) 13 i 16 (fs_Mod σ i) (ps_int (ps_I σ 13 i 16)) (fun _ => rfl) (fun _ => rfl) (Or.inr fun _ => trivial) rfl in_Mod (by decide) hl hd kk
theorem pf_Mod_lineTo (E : ps_E p s m c cc nL own D ca) {index i : Nat} {x : Int32} (hl : Cond.fieldLink own index "PromiseScopesModel" "lineTo" "I" ∈ ps_T) (hd : decode cc pc = .ok (.putfield index, 3)) (kk : ps_V p l e R s m args below meth c nL D ca A H0 adr0 σ0 Q (pc + 3) L st (ps_sI σ 13 i 16 x) ce sl) : ps_V p l e R s m args below meth c nL D ca A H0 adr0 σ0 Q pc L (ps_int x :: ps_ref (some (13, i)) :: st) σ ce sl :=
  pv_putI E (ci := 7) (T := T_Mod) (ty := .int) 13 i 16 x (fs_Mod σ i) (fun _ => rfl) (fun _ => rfl) (fun _ => Nat.le_of_ble_eq_true rfl) rfl in_Mod ty_Mod ty_Mod_ok nm_Mod (by decide) hl rfl rfl rfl rfl hd kk
theorem gf_Mod_line (E : ps_E p s m c cc nL own D ca) {index i : Nat} (hl : Cond.fieldLink own index "PromiseScopesModel" "line" "[I" ∈ ps_T) (hd : decode cc pc = .ok (.getfield index, 3)) (kk : ps_V p l e R s m args below meth c nL D ca A H0 adr0 σ0 Q (pc + 3) L (ps_ref (ps_R σ 13 i 17) :: st) σ ce sl) : ps_V p l e R s m args below meth c nL D ca A H0 adr0 σ0 Q pc L (ps_ref (some (13, i)) :: st) σ ce sl :=
  pv_get E (ci := 7) (T := T_Mod) 13 i 17 (fs_Mod σ i) (ps_ref (ps_R σ 13 i 17)) (fun _ => rfl) (fun _ => rfl) (Or.inl rfl) rfl in_Mod (by decide) hl hd kk
theorem pf_Mod_line (E : ps_E p s m c cc nL own D ca) {index i : Nat} {x : Option (Nat × Nat)} (hl : Cond.fieldLink own index "PromiseScopesModel" "line" "[I" ∈ ps_T) (hd : decode cc pc = .ok (.putfield index, 3)) (kk : ps_V p l e R s m args below meth c nL D ca A H0 adr0 σ0 Q (pc + 3) L st (ps_sR σ 13 i 17 x) ce sl) : ps_V p l e R s m args below meth c nL D ca A H0 adr0 σ0 Q pc L (ps_ref x :: ps_ref (some (13, i)) :: st) σ ce sl :=
  pv_putR E (ci := 7) (T := T_Mod) (ty := .array (.int)) 13 i 17 x (fs_Mod σ i) (fun _ => rfl) (fun _ => rfl) (fun _ => Nat.le_of_ble_eq_true rfl) rfl in_Mod ty_Mod ty_Mod_ok nm_Mod (by decide) hl rfl rfl (Or.inr ⟨_, rfl⟩) hd kk
theorem gf_Mod_pooled (E : ps_E p s m c cc nL own D ca) {index i : Nat} (hl : Cond.fieldLink own index "PromiseScopesModel" "pooled" "I" ∈ ps_T) (hd : decode cc pc = .ok (.getfield index, 3)) (kk : ps_V p l e R s m args below meth c nL D ca A H0 adr0 σ0 Q (pc + 3) L (ps_int (ps_I σ 13 i 18) :: st) σ ce sl) : ps_V p l e R s m args below meth c nL D ca A H0 adr0 σ0 Q pc L (ps_ref (some (13, i)) :: st) σ ce sl :=
  pv_get E (ci := 7) (T := T_Mod) 13 i 18 (fs_Mod σ i) (ps_int (ps_I σ 13 i 18)) (fun _ => rfl) (fun _ => rfl) (Or.inr fun _ => trivial) rfl in_Mod (by decide) hl hd kk
theorem pf_Mod_pooled (E : ps_E p s m c cc nL own D ca) {index i : Nat} {x : Int32} (hl : Cond.fieldLink own index "PromiseScopesModel" "pooled" "I" ∈ ps_T) (hd : decode cc pc = .ok (.putfield index, 3)) (kk : ps_V p l e R s m args below meth c nL D ca A H0 adr0 σ0 Q (pc + 3) L st (ps_sI σ 13 i 18 x) ce sl) : ps_V p l e R s m args below meth c nL D ca A H0 adr0 σ0 Q pc L (ps_int x :: ps_ref (some (13, i)) :: st) σ ce sl :=
  pv_putI E (ci := 7) (T := T_Mod) (ty := .int) 13 i 18 x (fs_Mod σ i) (fun _ => rfl) (fun _ => rfl) (fun _ => Nat.le_of_ble_eq_true rfl) rfl in_Mod ty_Mod ty_Mod_ok nm_Mod (by decide) hl rfl rfl rfl rfl hd kk
theorem gf_Mod_pool (E : ps_E p s m c cc nL own D ca) {index i : Nat} (hl : Cond.fieldLink own index "PromiseScopesModel" "pool" "[I" ∈ ps_T) (hd : decode cc pc = .ok (.getfield index, 3)) (kk : ps_V p l e R s m args below meth c nL D ca A H0 adr0 σ0 Q (pc + 3) L (ps_ref (ps_R σ 13 i 19) :: st) σ ce sl) : ps_V p l e R s m args below meth c nL D ca A H0 adr0 σ0 Q pc L (ps_ref (some (13, i)) :: st) σ ce sl :=
  pv_get E (ci := 7) (T := T_Mod) 13 i 19 (fs_Mod σ i) (ps_ref (ps_R σ 13 i 19)) (fun _ => rfl) (fun _ => rfl) (Or.inl rfl) rfl in_Mod (by decide) hl hd kk
theorem pf_Mod_pool (E : ps_E p s m c cc nL own D ca) {index i : Nat} {x : Option (Nat × Nat)} (hl : Cond.fieldLink own index "PromiseScopesModel" "pool" "[I" ∈ ps_T) (hd : decode cc pc = .ok (.putfield index, 3)) (kk : ps_V p l e R s m args below meth c nL D ca A H0 adr0 σ0 Q (pc + 3) L st (ps_sR σ 13 i 19 x) ce sl) : ps_V p l e R s m args below meth c nL D ca A H0 adr0 σ0 Q pc L (ps_ref x :: ps_ref (some (13, i)) :: st) σ ce sl :=
  pv_putR E (ci := 7) (T := T_Mod) (ty := .array (.int)) 13 i 19 x (fs_Mod σ i) (fun _ => rfl) (fun _ => rfl) (fun _ => Nat.le_of_ble_eq_true rfl) rfl in_Mod ty_Mod ty_Mod_ok nm_Mod (by decide) hl rfl rfl (Or.inr ⟨_, rfl⟩) hd kk
theorem gf_Mod_made (E : ps_E p s m c cc nL own D ca) {index i : Nat} (hl : Cond.fieldLink own index "PromiseScopesModel" "made" "I" ∈ ps_T) (hd : decode cc pc = .ok (.getfield index, 3)) (kk : ps_V p l e R s m args below meth c nL D ca A H0 adr0 σ0 Q (pc + 3) L (ps_int (ps_I σ 13 i 20) :: st) σ ce sl) : ps_V p l e R s m args below meth c nL D ca A H0 adr0 σ0 Q pc L (ps_ref (some (13, i)) :: st) σ ce sl :=
  pv_get E (ci := 7) (T := T_Mod) 13 i 20 (fs_Mod σ i) (ps_int (ps_I σ 13 i 20)) (fun _ => rfl) (fun _ => rfl) (Or.inr fun _ => trivial) rfl in_Mod (by decide) hl hd kk
theorem pf_Mod_made (E : ps_E p s m c cc nL own D ca) {index i : Nat} {x : Int32} (hl : Cond.fieldLink own index "PromiseScopesModel" "made" "I" ∈ ps_T) (hd : decode cc pc = .ok (.putfield index, 3)) (kk : ps_V p l e R s m args below meth c nL D ca A H0 adr0 σ0 Q (pc + 3) L st (ps_sI σ 13 i 20 x) ce sl) : ps_V p l e R s m args below meth c nL D ca A H0 adr0 σ0 Q pc L (ps_int x :: ps_ref (some (13, i)) :: st) σ ce sl :=
  pv_putI E (ci := 7) (T := T_Mod) (ty := .int) 13 i 20 x (fs_Mod σ i) (fun _ => rfl) (fun _ => rfl) (fun _ => Nat.le_of_ble_eq_true rfl) rfl in_Mod ty_Mod ty_Mod_ok nm_Mod (by decide) hl rfl rfl rfl rfl hd kk
theorem gf_Mod_threw (E : ps_E p s m c cc nL own D ca) {index i : Nat} (hl : Cond.fieldLink own index "PromiseScopesModel" "threw" "I" ∈ ps_T) (hd : decode cc pc = .ok (.getfield index, 3)) (kk : ps_V p l e R s m args below meth c nL D ca A H0 adr0 σ0 Q (pc + 3) L (ps_int (ps_I σ 13 i 21) :: st) σ ce sl) : ps_V p l e R s m args below meth c nL D ca A H0 adr0 σ0 Q pc L (ps_ref (some (13, i)) :: st) σ ce sl :=
  pv_get E (ci := 7) (T := T_Mod) 13 i 21 (fs_Mod σ i) (ps_int (ps_I σ 13 i 21)) (fun _ => rfl) (fun _ => rfl) (Or.inr fun _ => trivial) rfl in_Mod (by decide) hl hd kk
theorem pf_Mod_threw (E : ps_E p s m c cc nL own D ca) {index i : Nat} {x : Int32} (hl : Cond.fieldLink own index "PromiseScopesModel" "threw" "I" ∈ ps_T) (hd : decode cc pc = .ok (.putfield index, 3)) (kk : ps_V p l e R s m args below meth c nL D ca A H0 adr0 σ0 Q (pc + 3) L st (ps_sI σ 13 i 21 x) ce sl) : ps_V p l e R s m args below meth c nL D ca A H0 adr0 σ0 Q pc L (ps_int x :: ps_ref (some (13, i)) :: st) σ ce sl :=
  pv_putI E (ci := 7) (T := T_Mod) (ty := .int) 13 i 21 x (fs_Mod σ i) (fun _ => rfl) (fun _ => rfl) (fun _ => Nat.le_of_ble_eq_true rfl) rfl in_Mod ty_Mod ty_Mod_ok nm_Mod (by decide) hl rfl rfl rfl rfl hd kk
theorem gf_Mod_scopes (E : ps_E p s m c cc nL own D ca) {index i : Nat} (hl : Cond.fieldLink own index "PromiseScopesModel" "scopes" "I" ∈ ps_T) (hd : decode cc pc = .ok (.getfield index, 3)) (kk : ps_V p l e R s m args below meth c nL D ca A H0 adr0 σ0 Q (pc + 3) L (ps_int (ps_I σ 13 i 22) :: st) σ ce sl) : ps_V p l e R s m args below meth c nL D ca A H0 adr0 σ0 Q pc L (ps_ref (some (13, i)) :: st) σ ce sl :=
  pv_get E (ci := 7) (T := T_Mod) 13 i 22 (fs_Mod σ i) (ps_int (ps_I σ 13 i 22)) (fun _ => rfl) (fun _ => rfl) (Or.inr fun _ => trivial) rfl in_Mod (by decide) hl hd kk
theorem pf_Mod_scopes (E : ps_E p s m c cc nL own D ca) {index i : Nat} {x : Int32} (hl : Cond.fieldLink own index "PromiseScopesModel" "scopes" "I" ∈ ps_T) (hd : decode cc pc = .ok (.putfield index, 3)) (kk : ps_V p l e R s m args below meth c nL D ca A H0 adr0 σ0 Q (pc + 3) L st (ps_sI σ 13 i 22 x) ce sl) : ps_V p l e R s m args below meth c nL D ca A H0 adr0 σ0 Q pc L (ps_int x :: ps_ref (some (13, i)) :: st) σ ce sl :=
  pv_putI E (ci := 7) (T := T_Mod) (ty := .int) 13 i 22 x (fs_Mod σ i) (fun _ => rfl) (fun _ => rfl) (fun _ => Nat.le_of_ble_eq_true rfl) rfl in_Mod ty_Mod ty_Mod_ok nm_Mod (by decide) hl rfl rfl rfl rfl hd kk
theorem gf_Mod_parent (E : ps_E p s m c cc nL own D ca) {index i : Nat} (hl : Cond.fieldLink own index "PromiseScopesModel" "parent" "[I" ∈ ps_T) (hd : decode cc pc = .ok (.getfield index, 3)) (kk : ps_V p l e R s m args below meth c nL D ca A H0 adr0 σ0 Q (pc + 3) L (ps_ref (ps_R σ 13 i 23) :: st) σ ce sl) : ps_V p l e R s m args below meth c nL D ca A H0 adr0 σ0 Q pc L (ps_ref (some (13, i)) :: st) σ ce sl :=
  pv_get E (ci := 7) (T := T_Mod) 13 i 23 (fs_Mod σ i) (ps_ref (ps_R σ 13 i 23)) (fun _ => rfl) (fun _ => rfl) (Or.inl rfl) rfl in_Mod (by decide) hl hd kk
theorem pf_Mod_parent (E : ps_E p s m c cc nL own D ca) {index i : Nat} {x : Option (Nat × Nat)} (hl : Cond.fieldLink own index "PromiseScopesModel" "parent" "[I" ∈ ps_T) (hd : decode cc pc = .ok (.putfield index, 3)) (kk : ps_V p l e R s m args below meth c nL D ca A H0 adr0 σ0 Q (pc + 3) L st (ps_sR σ 13 i 23 x) ce sl) : ps_V p l e R s m args below meth c nL D ca A H0 adr0 σ0 Q pc L (ps_ref x :: ps_ref (some (13, i)) :: st) σ ce sl :=
  pv_putR E (ci := 7) (T := T_Mod) (ty := .array (.int)) 13 i 23 x (fs_Mod σ i) (fun _ => rfl) (fun _ => rfl) (fun _ => Nat.le_of_ble_eq_true rfl) rfl in_Mod ty_Mod ty_Mod_ok nm_Mod (by decide) hl rfl rfl (Or.inr ⟨_, rfl⟩) hd kk
theorem gf_Mod_policy (E : ps_E p s m c cc nL own D ca) {index i : Nat} (hl : Cond.fieldLink own index "PromiseScopesModel" "policy" "[I" ∈ ps_T) (hd : decode cc pc = .ok (.getfield index, 3)) (kk : ps_V p l e R s m args below meth c nL D ca A H0 adr0 σ0 Q (pc + 3) L (ps_ref (ps_R σ 13 i 24) :: st) σ ce sl) : ps_V p l e R s m args below meth c nL D ca A H0 adr0 σ0 Q pc L (ps_ref (some (13, i)) :: st) σ ce sl :=
  pv_get E (ci := 7) (T := T_Mod) 13 i 24 (fs_Mod σ i) (ps_ref (ps_R σ 13 i 24)) (fun _ => rfl) (fun _ => rfl) (Or.inl rfl) rfl in_Mod (by decide) hl hd kk
theorem pf_Mod_policy (E : ps_E p s m c cc nL own D ca) {index i : Nat} {x : Option (Nat × Nat)} (hl : Cond.fieldLink own index "PromiseScopesModel" "policy" "[I" ∈ ps_T) (hd : decode cc pc = .ok (.putfield index, 3)) (kk : ps_V p l e R s m args below meth c nL D ca A H0 adr0 σ0 Q (pc + 3) L st (ps_sR σ 13 i 24 x) ce sl) : ps_V p l e R s m args below meth c nL D ca A H0 adr0 σ0 Q pc L (ps_ref x :: ps_ref (some (13, i)) :: st) σ ce sl :=
  pv_putR E (ci := 7) (T := T_Mod) (ty := .array (.int)) 13 i 24 x (fs_Mod σ i) (fun _ => rfl) (fun _ => rfl) (fun _ => Nat.le_of_ble_eq_true rfl) rfl in_Mod ty_Mod ty_Mod_ok nm_Mod (by decide) hl rfl rfl (Or.inr ⟨_, rfl⟩) hd kk
theorem gf_Mod_deadline (E : ps_E p s m c cc nL own D ca) {index i : Nat} (hl : Cond.fieldLink own index "PromiseScopesModel" "deadline" "[I" ∈ ps_T) (hd : decode cc pc = .ok (.getfield index, 3)) (kk : ps_V p l e R s m args below meth c nL D ca A H0 adr0 σ0 Q (pc + 3) L (ps_ref (ps_R σ 13 i 25) :: st) σ ce sl) : ps_V p l e R s m args below meth c nL D ca A H0 adr0 σ0 Q pc L (ps_ref (some (13, i)) :: st) σ ce sl :=
  pv_get E (ci := 7) (T := T_Mod) 13 i 25 (fs_Mod σ i) (ps_ref (ps_R σ 13 i 25)) (fun _ => rfl) (fun _ => rfl) (Or.inl rfl) rfl in_Mod (by decide) hl hd kk
theorem pf_Mod_deadline (E : ps_E p s m c cc nL own D ca) {index i : Nat} {x : Option (Nat × Nat)} (hl : Cond.fieldLink own index "PromiseScopesModel" "deadline" "[I" ∈ ps_T) (hd : decode cc pc = .ok (.putfield index, 3)) (kk : ps_V p l e R s m args below meth c nL D ca A H0 adr0 σ0 Q (pc + 3) L st (ps_sR σ 13 i 25 x) ce sl) : ps_V p l e R s m args below meth c nL D ca A H0 adr0 σ0 Q pc L (ps_ref x :: ps_ref (some (13, i)) :: st) σ ce sl :=
  pv_putR E (ci := 7) (T := T_Mod) (ty := .array (.int)) 13 i 25 x (fs_Mod σ i) (fun _ => rfl) (fun _ => rfl) (fun _ => Nat.le_of_ble_eq_true rfl) rfl in_Mod ty_Mod ty_Mod_ok nm_Mod (by decide) hl rfl rfl (Or.inr ⟨_, rfl⟩) hd kk
theorem gf_Mod_mode (E : ps_E p s m c cc nL own D ca) {index i : Nat} (hl : Cond.fieldLink own index "PromiseScopesModel" "mode" "[I" ∈ ps_T) (hd : decode cc pc = .ok (.getfield index, 3)) (kk : ps_V p l e R s m args below meth c nL D ca A H0 adr0 σ0 Q (pc + 3) L (ps_ref (ps_R σ 13 i 26) :: st) σ ce sl) : ps_V p l e R s m args below meth c nL D ca A H0 adr0 σ0 Q pc L (ps_ref (some (13, i)) :: st) σ ce sl :=
  pv_get E (ci := 7) (T := T_Mod) 13 i 26 (fs_Mod σ i) (ps_ref (ps_R σ 13 i 26)) (fun _ => rfl) (fun _ => rfl) (Or.inl rfl) rfl in_Mod (by decide) hl hd kk
theorem pf_Mod_mode (E : ps_E p s m c cc nL own D ca) {index i : Nat} {x : Option (Nat × Nat)} (hl : Cond.fieldLink own index "PromiseScopesModel" "mode" "[I" ∈ ps_T) (hd : decode cc pc = .ok (.putfield index, 3)) (kk : ps_V p l e R s m args below meth c nL D ca A H0 adr0 σ0 Q (pc + 3) L st (ps_sR σ 13 i 26 x) ce sl) : ps_V p l e R s m args below meth c nL D ca A H0 adr0 σ0 Q pc L (ps_ref x :: ps_ref (some (13, i)) :: st) σ ce sl :=
  pv_putR E (ci := 7) (T := T_Mod) (ty := .array (.int)) 13 i 26 x (fs_Mod σ i) (fun _ => rfl) (fun _ => rfl) (fun _ => Nat.le_of_ble_eq_true rfl) rfl in_Mod ty_Mod ty_Mod_ok nm_Mod (by decide) hl rfl rfl (Or.inr ⟨_, rfl⟩) hd kk
theorem gf_Mod_result (E : ps_E p s m c cc nL own D ca) {index i : Nat} (hl : Cond.fieldLink own index "PromiseScopesModel" "result" "[I" ∈ ps_T) (hd : decode cc pc = .ok (.getfield index, 3)) (kk : ps_V p l e R s m args below meth c nL D ca A H0 adr0 σ0 Q (pc + 3) L (ps_ref (ps_R σ 13 i 27) :: st) σ ce sl) : ps_V p l e R s m args below meth c nL D ca A H0 adr0 σ0 Q pc L (ps_ref (some (13, i)) :: st) σ ce sl :=
  pv_get E (ci := 7) (T := T_Mod) 13 i 27 (fs_Mod σ i) (ps_ref (ps_R σ 13 i 27)) (fun _ => rfl) (fun _ => rfl) (Or.inl rfl) rfl in_Mod (by decide) hl hd kk
theorem pf_Mod_result (E : ps_E p s m c cc nL own D ca) {index i : Nat} {x : Option (Nat × Nat)} (hl : Cond.fieldLink own index "PromiseScopesModel" "result" "[I" ∈ ps_T) (hd : decode cc pc = .ok (.putfield index, 3)) (kk : ps_V p l e R s m args below meth c nL D ca A H0 adr0 σ0 Q (pc + 3) L st (ps_sR σ 13 i 27 x) ce sl) : ps_V p l e R s m args below meth c nL D ca A H0 adr0 σ0 Q pc L (ps_ref x :: ps_ref (some (13, i)) :: st) σ ce sl :=
  pv_putR E (ci := 7) (T := T_Mod) (ty := .array (.int)) 13 i 27 x (fs_Mod σ i) (fun _ => rfl) (fun _ => rfl) (fun _ => Nat.le_of_ble_eq_true rfl) rfl in_Mod ty_Mod ty_Mod_ok nm_Mod (by decide) hl rfl rfl (Or.inr ⟨_, rfl⟩) hd kk
theorem gf_Mod_stopped (E : ps_E p s m c cc nL own D ca) {index i : Nat} (hl : Cond.fieldLink own index "PromiseScopesModel" "stopped" "[Z" ∈ ps_T) (hd : decode cc pc = .ok (.getfield index, 3)) (kk : ps_V p l e R s m args below meth c nL D ca A H0 adr0 σ0 Q (pc + 3) L (ps_ref (ps_R σ 13 i 28) :: st) σ ce sl) : ps_V p l e R s m args below meth c nL D ca A H0 adr0 σ0 Q pc L (ps_ref (some (13, i)) :: st) σ ce sl :=
  pv_get E (ci := 7) (T := T_Mod) 13 i 28 (fs_Mod σ i) (ps_ref (ps_R σ 13 i 28)) (fun _ => rfl) (fun _ => rfl) (Or.inl rfl) rfl in_Mod (by decide) hl hd kk
theorem pf_Mod_stopped (E : ps_E p s m c cc nL own D ca) {index i : Nat} {x : Option (Nat × Nat)} (hl : Cond.fieldLink own index "PromiseScopesModel" "stopped" "[Z" ∈ ps_T) (hd : decode cc pc = .ok (.putfield index, 3)) (kk : ps_V p l e R s m args below meth c nL D ca A H0 adr0 σ0 Q (pc + 3) L st (ps_sR σ 13 i 28 x) ce sl) : ps_V p l e R s m args below meth c nL D ca A H0 adr0 σ0 Q pc L (ps_ref x :: ps_ref (some (13, i)) :: st) σ ce sl :=
  pv_putR E (ci := 7) (T := T_Mod) (ty := .array (.boolean)) 13 i 28 x (fs_Mod σ i) (fun _ => rfl) (fun _ => rfl) (fun _ => Nat.le_of_ble_eq_true rfl) rfl in_Mod ty_Mod ty_Mod_ok nm_Mod (by decide) hl rfl rfl (Or.inr ⟨_, rfl⟩) hd kk
theorem gf_Mod_late (E : ps_E p s m c cc nL own D ca) {index i : Nat} (hl : Cond.fieldLink own index "PromiseScopesModel" "late" "[Z" ∈ ps_T) (hd : decode cc pc = .ok (.getfield index, 3)) (kk : ps_V p l e R s m args below meth c nL D ca A H0 adr0 σ0 Q (pc + 3) L (ps_ref (ps_R σ 13 i 29) :: st) σ ce sl) : ps_V p l e R s m args below meth c nL D ca A H0 adr0 σ0 Q pc L (ps_ref (some (13, i)) :: st) σ ce sl :=
  pv_get E (ci := 7) (T := T_Mod) 13 i 29 (fs_Mod σ i) (ps_ref (ps_R σ 13 i 29)) (fun _ => rfl) (fun _ => rfl) (Or.inl rfl) rfl in_Mod (by decide) hl hd kk
theorem pf_Mod_late (E : ps_E p s m c cc nL own D ca) {index i : Nat} {x : Option (Nat × Nat)} (hl : Cond.fieldLink own index "PromiseScopesModel" "late" "[Z" ∈ ps_T) (hd : decode cc pc = .ok (.putfield index, 3)) (kk : ps_V p l e R s m args below meth c nL D ca A H0 adr0 σ0 Q (pc + 3) L st (ps_sR σ 13 i 29 x) ce sl) : ps_V p l e R s m args below meth c nL D ca A H0 adr0 σ0 Q pc L (ps_ref x :: ps_ref (some (13, i)) :: st) σ ce sl :=
  pv_putR E (ci := 7) (T := T_Mod) (ty := .array (.boolean)) 13 i 29 x (fs_Mod σ i) (fun _ => rfl) (fun _ => rfl) (fun _ => Nat.le_of_ble_eq_true rfl) rfl in_Mod ty_Mod ty_Mod_ok nm_Mod (by decide) hl rfl rfl (Or.inr ⟨_, rfl⟩) hd kk
theorem gf_Mod_firstDone (E : ps_E p s m c cc nL own D ca) {index i : Nat} (hl : Cond.fieldLink own index "PromiseScopesModel" "firstDone" "[I" ∈ ps_T) (hd : decode cc pc = .ok (.getfield index, 3)) (kk : ps_V p l e R s m args below meth c nL D ca A H0 adr0 σ0 Q (pc + 3) L (ps_ref (ps_R σ 13 i 30) :: st) σ ce sl) : ps_V p l e R s m args below meth c nL D ca A H0 adr0 σ0 Q pc L (ps_ref (some (13, i)) :: st) σ ce sl :=
  pv_get E (ci := 7) (T := T_Mod) 13 i 30 (fs_Mod σ i) (ps_ref (ps_R σ 13 i 30)) (fun _ => rfl) (fun _ => rfl) (Or.inl rfl) rfl in_Mod (by decide) hl hd kk
theorem pf_Mod_firstDone (E : ps_E p s m c cc nL own D ca) {index i : Nat} {x : Option (Nat × Nat)} (hl : Cond.fieldLink own index "PromiseScopesModel" "firstDone" "[I" ∈ ps_T) (hd : decode cc pc = .ok (.putfield index, 3)) (kk : ps_V p l e R s m args below meth c nL D ca A H0 adr0 σ0 Q (pc + 3) L st (ps_sR σ 13 i 30 x) ce sl) : ps_V p l e R s m args below meth c nL D ca A H0 adr0 σ0 Q pc L (ps_ref x :: ps_ref (some (13, i)) :: st) σ ce sl :=
  pv_putR E (ci := 7) (T := T_Mod) (ty := .array (.int)) 13 i 30 x (fs_Mod σ i) (fun _ => rfl) (fun _ => rfl) (fun _ => Nat.le_of_ble_eq_true rfl) rfl in_Mod ty_Mod ty_Mod_ok nm_Mod (by decide) hl rfl rfl (Or.inr ⟨_, rfl⟩) hd kk
theorem gf_Mod_firstFailed (E : ps_E p s m c cc nL own D ca) {index i : Nat} (hl : Cond.fieldLink own index "PromiseScopesModel" "firstFailed" "[I" ∈ ps_T) (hd : decode cc pc = .ok (.getfield index, 3)) (kk : ps_V p l e R s m args below meth c nL D ca A H0 adr0 σ0 Q (pc + 3) L (ps_ref (ps_R σ 13 i 31) :: st) σ ce sl) : ps_V p l e R s m args below meth c nL D ca A H0 adr0 σ0 Q pc L (ps_ref (some (13, i)) :: st) σ ce sl :=
  pv_get E (ci := 7) (T := T_Mod) 13 i 31 (fs_Mod σ i) (ps_ref (ps_R σ 13 i 31)) (fun _ => rfl) (fun _ => rfl) (Or.inl rfl) rfl in_Mod (by decide) hl hd kk
theorem pf_Mod_firstFailed (E : ps_E p s m c cc nL own D ca) {index i : Nat} {x : Option (Nat × Nat)} (hl : Cond.fieldLink own index "PromiseScopesModel" "firstFailed" "[I" ∈ ps_T) (hd : decode cc pc = .ok (.putfield index, 3)) (kk : ps_V p l e R s m args below meth c nL D ca A H0 adr0 σ0 Q (pc + 3) L st (ps_sR σ 13 i 31 x) ce sl) : ps_V p l e R s m args below meth c nL D ca A H0 adr0 σ0 Q pc L (ps_ref x :: ps_ref (some (13, i)) :: st) σ ce sl :=
  pv_putR E (ci := 7) (T := T_Mod) (ty := .array (.int)) 13 i 31 x (fs_Mod σ i) (fun _ => rfl) (fun _ => rfl) (fun _ => Nat.le_of_ble_eq_true rfl) rfl in_Mod ty_Mod ty_Mod_ok nm_Mod (by decide) hl rfl rfl (Or.inr ⟨_, rfl⟩) hd kk
theorem gf_Mod_binds (E : ps_E p s m c cc nL own D ca) {index i : Nat} (hl : Cond.fieldLink own index "PromiseScopesModel" "binds" "[Z" ∈ ps_T) (hd : decode cc pc = .ok (.getfield index, 3)) (kk : ps_V p l e R s m args below meth c nL D ca A H0 adr0 σ0 Q (pc + 3) L (ps_ref (ps_R σ 13 i 32) :: st) σ ce sl) : ps_V p l e R s m args below meth c nL D ca A H0 adr0 σ0 Q pc L (ps_ref (some (13, i)) :: st) σ ce sl :=
  pv_get E (ci := 7) (T := T_Mod) 13 i 32 (fs_Mod σ i) (ps_ref (ps_R σ 13 i 32)) (fun _ => rfl) (fun _ => rfl) (Or.inl rfl) rfl in_Mod (by decide) hl hd kk
theorem pf_Mod_binds (E : ps_E p s m c cc nL own D ca) {index i : Nat} {x : Option (Nat × Nat)} (hl : Cond.fieldLink own index "PromiseScopesModel" "binds" "[Z" ∈ ps_T) (hd : decode cc pc = .ok (.putfield index, 3)) (kk : ps_V p l e R s m args below meth c nL D ca A H0 adr0 σ0 Q (pc + 3) L st (ps_sR σ 13 i 32 x) ce sl) : ps_V p l e R s m args below meth c nL D ca A H0 adr0 σ0 Q pc L (ps_ref x :: ps_ref (some (13, i)) :: st) σ ce sl :=
  pv_putR E (ci := 7) (T := T_Mod) (ty := .array (.boolean)) 13 i 32 x (fs_Mod σ i) (fun _ => rfl) (fun _ => rfl) (fun _ => Nat.le_of_ble_eq_true rfl) rfl in_Mod ty_Mod ty_Mod_ok nm_Mod (by decide) hl rfl rfl (Or.inr ⟨_, rfl⟩) hd kk
theorem gf_Mod_bound (E : ps_E p s m c cc nL own D ca) {index i : Nat} (hl : Cond.fieldLink own index "PromiseScopesModel" "bound" "[I" ∈ ps_T) (hd : decode cc pc = .ok (.getfield index, 3)) (kk : ps_V p l e R s m args below meth c nL D ca A H0 adr0 σ0 Q (pc + 3) L (ps_ref (ps_R σ 13 i 33) :: st) σ ce sl) : ps_V p l e R s m args below meth c nL D ca A H0 adr0 σ0 Q pc L (ps_ref (some (13, i)) :: st) σ ce sl :=
  pv_get E (ci := 7) (T := T_Mod) 13 i 33 (fs_Mod σ i) (ps_ref (ps_R σ 13 i 33)) (fun _ => rfl) (fun _ => rfl) (Or.inl rfl) rfl in_Mod (by decide) hl hd kk
theorem pf_Mod_bound (E : ps_E p s m c cc nL own D ca) {index i : Nat} {x : Option (Nat × Nat)} (hl : Cond.fieldLink own index "PromiseScopesModel" "bound" "[I" ∈ ps_T) (hd : decode cc pc = .ok (.putfield index, 3)) (kk : ps_V p l e R s m args below meth c nL D ca A H0 adr0 σ0 Q (pc + 3) L st (ps_sR σ 13 i 33 x) ce sl) : ps_V p l e R s m args below meth c nL D ca A H0 adr0 σ0 Q pc L (ps_ref x :: ps_ref (some (13, i)) :: st) σ ce sl :=
  pv_putR E (ci := 7) (T := T_Mod) (ty := .array (.int)) 13 i 33 x (fs_Mod σ i) (fun _ => rfl) (fun _ => rfl) (fun _ => Nat.le_of_ble_eq_true rfl) rfl in_Mod ty_Mod ty_Mod_ok nm_Mod (by decide) hl rfl rfl (Or.inr ⟨_, rfl⟩) hd kk
theorem gf_Mod_time (E : ps_E p s m c cc nL own D ca) {index i : Nat} (hl : Cond.fieldLink own index "PromiseScopesModel" "time" "I" ∈ ps_T) (hd : decode cc pc = .ok (.getfield index, 3)) (kk : ps_V p l e R s m args below meth c nL D ca A H0 adr0 σ0 Q (pc + 3) L (ps_int (ps_I σ 13 i 34) :: st) σ ce sl) : ps_V p l e R s m args below meth c nL D ca A H0 adr0 σ0 Q pc L (ps_ref (some (13, i)) :: st) σ ce sl :=
  pv_get E (ci := 7) (T := T_Mod) 13 i 34 (fs_Mod σ i) (ps_int (ps_I σ 13 i 34)) (fun _ => rfl) (fun _ => rfl) (Or.inr fun _ => trivial) rfl in_Mod (by decide) hl hd kk
theorem pf_Mod_time (E : ps_E p s m c cc nL own D ca) {index i : Nat} {x : Int32} (hl : Cond.fieldLink own index "PromiseScopesModel" "time" "I" ∈ ps_T) (hd : decode cc pc = .ok (.putfield index, 3)) (kk : ps_V p l e R s m args below meth c nL D ca A H0 adr0 σ0 Q (pc + 3) L st (ps_sI σ 13 i 34 x) ce sl) : ps_V p l e R s m args below meth c nL D ca A H0 adr0 σ0 Q pc L (ps_int x :: ps_ref (some (13, i)) :: st) σ ce sl :=
  pv_putI E (ci := 7) (T := T_Mod) (ty := .int) 13 i 34 x (fs_Mod σ i) (fun _ => rfl) (fun _ => rfl) (fun _ => Nat.le_of_ble_eq_true rfl) rfl in_Mod ty_Mod ty_Mod_ok nm_Mod (by decide) hl rfl rfl rfl rfl hd kk
theorem gf_Mod_tasks (E : ps_E p s m c cc nL own D ca) {index i : Nat} (hl : Cond.fieldLink own index "PromiseScopesModel" "tasks" "I" ∈ ps_T) (hd : decode cc pc = .ok (.getfield index, 3)) (kk : ps_V p l e R s m args below meth c nL D ca A H0 adr0 σ0 Q (pc + 3) L (ps_int (ps_I σ 13 i 35) :: st) σ ce sl) : ps_V p l e R s m args below meth c nL D ca A H0 adr0 σ0 Q pc L (ps_ref (some (13, i)) :: st) σ ce sl :=
  pv_get E (ci := 7) (T := T_Mod) 13 i 35 (fs_Mod σ i) (ps_int (ps_I σ 13 i 35)) (fun _ => rfl) (fun _ => rfl) (Or.inr fun _ => trivial) rfl in_Mod (by decide) hl hd kk
theorem pf_Mod_tasks (E : ps_E p s m c cc nL own D ca) {index i : Nat} {x : Int32} (hl : Cond.fieldLink own index "PromiseScopesModel" "tasks" "I" ∈ ps_T) (hd : decode cc pc = .ok (.putfield index, 3)) (kk : ps_V p l e R s m args below meth c nL D ca A H0 adr0 σ0 Q (pc + 3) L st (ps_sI σ 13 i 35 x) ce sl) : ps_V p l e R s m args below meth c nL D ca A H0 adr0 σ0 Q pc L (ps_int x :: ps_ref (some (13, i)) :: st) σ ce sl :=
  pv_putI E (ci := 7) (T := T_Mod) (ty := .int) 13 i 35 x (fs_Mod σ i) (fun _ => rfl) (fun _ => rfl) (fun _ => Nat.le_of_ble_eq_true rfl) rfl in_Mod ty_Mod ty_Mod_ok nm_Mod (by decide) hl rfl rfl rfl rfl hd kk
theorem gf_Mod_home (E : ps_E p s m c cc nL own D ca) {index i : Nat} (hl : Cond.fieldLink own index "PromiseScopesModel" "home" "[I" ∈ ps_T) (hd : decode cc pc = .ok (.getfield index, 3)) (kk : ps_V p l e R s m args below meth c nL D ca A H0 adr0 σ0 Q (pc + 3) L (ps_ref (ps_R σ 13 i 36) :: st) σ ce sl) : ps_V p l e R s m args below meth c nL D ca A H0 adr0 σ0 Q pc L (ps_ref (some (13, i)) :: st) σ ce sl :=
  pv_get E (ci := 7) (T := T_Mod) 13 i 36 (fs_Mod σ i) (ps_ref (ps_R σ 13 i 36)) (fun _ => rfl) (fun _ => rfl) (Or.inl rfl) rfl in_Mod (by decide) hl hd kk
theorem pf_Mod_home (E : ps_E p s m c cc nL own D ca) {index i : Nat} {x : Option (Nat × Nat)} (hl : Cond.fieldLink own index "PromiseScopesModel" "home" "[I" ∈ ps_T) (hd : decode cc pc = .ok (.putfield index, 3)) (kk : ps_V p l e R s m args below meth c nL D ca A H0 adr0 σ0 Q (pc + 3) L st (ps_sR σ 13 i 36 x) ce sl) : ps_V p l e R s m args below meth c nL D ca A H0 adr0 σ0 Q pc L (ps_ref x :: ps_ref (some (13, i)) :: st) σ ce sl :=
  pv_putR E (ci := 7) (T := T_Mod) (ty := .array (.int)) 13 i 36 x (fs_Mod σ i) (fun _ => rfl) (fun _ => rfl) (fun _ => Nat.le_of_ble_eq_true rfl) rfl in_Mod ty_Mod ty_Mod_ok nm_Mod (by decide) hl rfl rfl (Or.inr ⟨_, rfl⟩) hd kk
theorem gf_Mod_cost (E : ps_E p s m c cc nL own D ca) {index i : Nat} (hl : Cond.fieldLink own index "PromiseScopesModel" "cost" "[I" ∈ ps_T) (hd : decode cc pc = .ok (.getfield index, 3)) (kk : ps_V p l e R s m args below meth c nL D ca A H0 adr0 σ0 Q (pc + 3) L (ps_ref (ps_R σ 13 i 37) :: st) σ ce sl) : ps_V p l e R s m args below meth c nL D ca A H0 adr0 σ0 Q pc L (ps_ref (some (13, i)) :: st) σ ce sl :=
  pv_get E (ci := 7) (T := T_Mod) 13 i 37 (fs_Mod σ i) (ps_ref (ps_R σ 13 i 37)) (fun _ => rfl) (fun _ => rfl) (Or.inl rfl) rfl in_Mod (by decide) hl hd kk
theorem pf_Mod_cost (E : ps_E p s m c cc nL own D ca) {index i : Nat} {x : Option (Nat × Nat)} (hl : Cond.fieldLink own index "PromiseScopesModel" "cost" "[I" ∈ ps_T) (hd : decode cc pc = .ok (.putfield index, 3)) (kk : ps_V p l e R s m args below meth c nL D ca A H0 adr0 σ0 Q (pc + 3) L st (ps_sR σ 13 i 37 x) ce sl) : ps_V p l e R s m args below meth c nL D ca A H0 adr0 σ0 Q pc L (ps_ref x :: ps_ref (some (13, i)) :: st) σ ce sl :=
  pv_putR E (ci := 7) (T := T_Mod) (ty := .array (.int)) 13 i 37 x (fs_Mod σ i) (fun _ => rfl) (fun _ => rfl) (fun _ => Nat.le_of_ble_eq_true rfl) rfl in_Mod ty_Mod ty_Mod_ok nm_Mod (by decide) hl rfl rfl (Or.inr ⟨_, rfl⟩) hd kk
theorem gf_Mod_does (E : ps_E p s m c cc nL own D ca) {index i : Nat} (hl : Cond.fieldLink own index "PromiseScopesModel" "does" "[I" ∈ ps_T) (hd : decode cc pc = .ok (.getfield index, 3)) (kk : ps_V p l e R s m args below meth c nL D ca A H0 adr0 σ0 Q (pc + 3) L (ps_ref (ps_R σ 13 i 38) :: st) σ ce sl) : ps_V p l e R s m args below meth c nL D ca A H0 adr0 σ0 Q pc L (ps_ref (some (13, i)) :: st) σ ce sl :=
  pv_get E (ci := 7) (T := T_Mod) 13 i 38 (fs_Mod σ i) (ps_ref (ps_R σ 13 i 38)) (fun _ => rfl) (fun _ => rfl) (Or.inl rfl) rfl in_Mod (by decide) hl hd kk
theorem pf_Mod_does (E : ps_E p s m c cc nL own D ca) {index i : Nat} {x : Option (Nat × Nat)} (hl : Cond.fieldLink own index "PromiseScopesModel" "does" "[I" ∈ ps_T) (hd : decode cc pc = .ok (.putfield index, 3)) (kk : ps_V p l e R s m args below meth c nL D ca A H0 adr0 σ0 Q (pc + 3) L st (ps_sR σ 13 i 38 x) ce sl) : ps_V p l e R s m args below meth c nL D ca A H0 adr0 σ0 Q pc L (ps_ref x :: ps_ref (some (13, i)) :: st) σ ce sl :=
  pv_putR E (ci := 7) (T := T_Mod) (ty := .array (.int)) 13 i 38 x (fs_Mod σ i) (fun _ => rfl) (fun _ => rfl) (fun _ => Nat.le_of_ble_eq_true rfl) rfl in_Mod ty_Mod ty_Mod_ok nm_Mod (by decide) hl rfl rfl (Or.inr ⟨_, rfl⟩) hd kk
theorem gf_Mod_with (E : ps_E p s m c cc nL own D ca) {index i : Nat} (hl : Cond.fieldLink own index "PromiseScopesModel" "with" "[I" ∈ ps_T) (hd : decode cc pc = .ok (.getfield index, 3)) (kk : ps_V p l e R s m args below meth c nL D ca A H0 adr0 σ0 Q (pc + 3) L (ps_ref (ps_R σ 13 i 39) :: st) σ ce sl) : ps_V p l e R s m args below meth c nL D ca A H0 adr0 σ0 Q pc L (ps_ref (some (13, i)) :: st) σ ce sl :=
  pv_get E (ci := 7) (T := T_Mod) 13 i 39 (fs_Mod σ i) (ps_ref (ps_R σ 13 i 39)) (fun _ => rfl) (fun _ => rfl) (Or.inl rfl) rfl in_Mod (by decide) hl hd kk
theorem pf_Mod_with (E : ps_E p s m c cc nL own D ca) {index i : Nat} {x : Option (Nat × Nat)} (hl : Cond.fieldLink own index "PromiseScopesModel" "with" "[I" ∈ ps_T) (hd : decode cc pc = .ok (.putfield index, 3)) (kk : ps_V p l e R s m args below meth c nL D ca A H0 adr0 σ0 Q (pc + 3) L st (ps_sR σ 13 i 39 x) ce sl) : ps_V p l e R s m args below meth c nL D ca A H0 adr0 σ0 Q pc L (ps_ref x :: ps_ref (some (13, i)) :: st) σ ce sl :=
  pv_putR E (ci := 7) (T := T_Mod) (ty := .array (.int)) 13 i 39 x (fs_Mod σ i) (fun _ => rfl) (fun _ => rfl) (fun _ => Nat.le_of_ble_eq_true rfl) rfl in_Mod ty_Mod ty_Mod_ok nm_Mod (by decide) hl rfl rfl (Or.inr ⟨_, rfl⟩) hd kk
theorem gf_Mod_given (E : ps_E p s m c cc nL own D ca) {index i : Nat} (hl : Cond.fieldLink own index "PromiseScopesModel" "given" "[I" ∈ ps_T) (hd : decode cc pc = .ok (.getfield index, 3)) (kk : ps_V p l e R s m args below meth c nL D ca A H0 adr0 σ0 Q (pc + 3) L (ps_ref (ps_R σ 13 i 40) :: st) σ ce sl) : ps_V p l e R s m args below meth c nL D ca A H0 adr0 σ0 Q pc L (ps_ref (some (13, i)) :: st) σ ce sl :=
  pv_get E (ci := 7) (T := T_Mod) 13 i 40 (fs_Mod σ i) (ps_ref (ps_R σ 13 i 40)) (fun _ => rfl) (fun _ => rfl) (Or.inl rfl) rfl in_Mod (by decide) hl hd kk
theorem pf_Mod_given (E : ps_E p s m c cc nL own D ca) {index i : Nat} {x : Option (Nat × Nat)} (hl : Cond.fieldLink own index "PromiseScopesModel" "given" "[I" ∈ ps_T) (hd : decode cc pc = .ok (.putfield index, 3)) (kk : ps_V p l e R s m args below meth c nL D ca A H0 adr0 σ0 Q (pc + 3) L st (ps_sR σ 13 i 40 x) ce sl) : ps_V p l e R s m args below meth c nL D ca A H0 adr0 σ0 Q pc L (ps_ref x :: ps_ref (some (13, i)) :: st) σ ce sl :=
  pv_putR E (ci := 7) (T := T_Mod) (ty := .array (.int)) 13 i 40 x (fs_Mod σ i) (fun _ => rfl) (fun _ => rfl) (fun _ => Nat.le_of_ble_eq_true rfl) rfl in_Mod ty_Mod ty_Mod_ok nm_Mod (by decide) hl rfl rfl (Or.inr ⟨_, rfl⟩) hd kk
theorem gf_Mod_how (E : ps_E p s m c cc nL own D ca) {index i : Nat} (hl : Cond.fieldLink own index "PromiseScopesModel" "how" "[I" ∈ ps_T) (hd : decode cc pc = .ok (.getfield index, 3)) (kk : ps_V p l e R s m args below meth c nL D ca A H0 adr0 σ0 Q (pc + 3) L (ps_ref (ps_R σ 13 i 41) :: st) σ ce sl) : ps_V p l e R s m args below meth c nL D ca A H0 adr0 σ0 Q pc L (ps_ref (some (13, i)) :: st) σ ce sl :=
  pv_get E (ci := 7) (T := T_Mod) 13 i 41 (fs_Mod σ i) (ps_ref (ps_R σ 13 i 41)) (fun _ => rfl) (fun _ => rfl) (Or.inl rfl) rfl in_Mod (by decide) hl hd kk
theorem pf_Mod_how (E : ps_E p s m c cc nL own D ca) {index i : Nat} {x : Option (Nat × Nat)} (hl : Cond.fieldLink own index "PromiseScopesModel" "how" "[I" ∈ ps_T) (hd : decode cc pc = .ok (.putfield index, 3)) (kk : ps_V p l e R s m args below meth c nL D ca A H0 adr0 σ0 Q (pc + 3) L st (ps_sR σ 13 i 41 x) ce sl) : ps_V p l e R s m args below meth c nL D ca A H0 adr0 σ0 Q pc L (ps_ref x :: ps_ref (some (13, i)) :: st) σ ce sl :=
  pv_putR E (ci := 7) (T := T_Mod) (ty := .array (.int)) 13 i 41 x (fs_Mod σ i) (fun _ => rfl) (fun _ => rfl) (fun _ => Nat.le_of_ble_eq_true rfl) rfl in_Mod ty_Mod ty_Mod_ok nm_Mod (by decide) hl rfl rfl (Or.inr ⟨_, rfl⟩) hd kk
theorem gf_Mod_worked (E : ps_E p s m c cc nL own D ca) {index i : Nat} (hl : Cond.fieldLink own index "PromiseScopesModel" "worked" "[I" ∈ ps_T) (hd : decode cc pc = .ok (.getfield index, 3)) (kk : ps_V p l e R s m args below meth c nL D ca A H0 adr0 σ0 Q (pc + 3) L (ps_ref (ps_R σ 13 i 42) :: st) σ ce sl) : ps_V p l e R s m args below meth c nL D ca A H0 adr0 σ0 Q pc L (ps_ref (some (13, i)) :: st) σ ce sl :=
  pv_get E (ci := 7) (T := T_Mod) 13 i 42 (fs_Mod σ i) (ps_ref (ps_R σ 13 i 42)) (fun _ => rfl) (fun _ => rfl) (Or.inl rfl) rfl in_Mod (by decide) hl hd kk
theorem pf_Mod_worked (E : ps_E p s m c cc nL own D ca) {index i : Nat} {x : Option (Nat × Nat)} (hl : Cond.fieldLink own index "PromiseScopesModel" "worked" "[I" ∈ ps_T) (hd : decode cc pc = .ok (.putfield index, 3)) (kk : ps_V p l e R s m args below meth c nL D ca A H0 adr0 σ0 Q (pc + 3) L st (ps_sR σ 13 i 42 x) ce sl) : ps_V p l e R s m args below meth c nL D ca A H0 adr0 σ0 Q pc L (ps_ref x :: ps_ref (some (13, i)) :: st) σ ce sl :=
  pv_putR E (ci := 7) (T := T_Mod) (ty := .array (.int)) 13 i 42 x (fs_Mod σ i) (fun _ => rfl) (fun _ => rfl) (fun _ => Nat.le_of_ble_eq_true rfl) rfl in_Mod ty_Mod ty_Mod_ok nm_Mod (by decide) hl rfl rfl (Or.inr ⟨_, rfl⟩) hd kk
theorem gf_Mod_came2 (E : ps_E p s m c cc nL own D ca) {index i : Nat} (hl : Cond.fieldLink own index "PromiseScopesModel" "came2" "[I" ∈ ps_T) (hd : decode cc pc = .ok (.getfield index, 3)) (kk : ps_V p l e R s m args below meth c nL D ca A H0 adr0 σ0 Q (pc + 3) L (ps_ref (ps_R σ 13 i 43) :: st) σ ce sl) : ps_V p l e R s m args below meth c nL D ca A H0 adr0 σ0 Q pc L (ps_ref (some (13, i)) :: st) σ ce sl :=
  pv_get E (ci := 7) (T := T_Mod) 13 i 43 (fs_Mod σ i) (ps_ref (ps_R σ 13 i 43)) (fun _ => rfl) (fun _ => rfl) (Or.inl rfl) rfl in_Mod (by decide) hl hd kk
theorem pf_Mod_came2 (E : ps_E p s m c cc nL own D ca) {index i : Nat} {x : Option (Nat × Nat)} (hl : Cond.fieldLink own index "PromiseScopesModel" "came2" "[I" ∈ ps_T) (hd : decode cc pc = .ok (.putfield index, 3)) (kk : ps_V p l e R s m args below meth c nL D ca A H0 adr0 σ0 Q (pc + 3) L st (ps_sR σ 13 i 43 x) ce sl) : ps_V p l e R s m args below meth c nL D ca A H0 adr0 σ0 Q pc L (ps_ref x :: ps_ref (some (13, i)) :: st) σ ce sl :=
  pv_putR E (ci := 7) (T := T_Mod) (ty := .array (.int)) 13 i 43 x (fs_Mod σ i) (fun _ => rfl) (fun _ => rfl) (fun _ => Nat.le_of_ble_eq_true rfl) rfl in_Mod ty_Mod ty_Mod_ok nm_Mod (by decide) hl rfl rfl (Or.inr ⟨_, rfl⟩) hd kk
end PSF
end
section
/-! What a call asks of its callee (by walk.py). -/
theorem yi_Ps_init : ps_YI y_Ps_init c_Ps_init 1 0 := ⟨wd_22, wd_1, wd_21, rfl, by decide +kernel, by decide +kernel, by decide +kernel⟩
theorem yi_Graph_init : ps_YI y_Graph_init c_Graph_init 1 0 := ⟨wd_30, wd_2, wd_29, rfl, by decide +kernel, by decide +kernel, by decide +kernel⟩
theorem yi_Queue_init : ps_YI y_Queue_init c_Queue_init 1 0 := ⟨wd_38, wd_3, wd_37, rfl, by decide +kernel, by decide +kernel, by decide +kernel⟩
theorem yi_Tree_init : ps_YI y_Tree_init c_Tree_init 1 0 := ⟨wd_72, wd_4, wd_71, rfl, by decide +kernel, by decide +kernel, by decide +kernel⟩
theorem yv_Ps_complete : ps_YV y_Ps_complete c_Ps_complete 4 (Option.some Jvm.ClassFile.FieldType.boolean) 2 := ⟨wd_110, wd_1, wd_108, wd_109, by decide +kernel, by decide +kernel, by decide +kernel⟩
theorem yv_Graph_settleIfPending : ps_YV y_Graph_settleIfPending c_Graph_settleIfPending 5 (Option.some Jvm.ClassFile.FieldType.boolean) 3 := ⟨wd_114, wd_2, wd_112, wd_113, by decide +kernel, by decide +kernel, by decide +kernel⟩
theorem yv_Graph_find : ps_YV y_Graph_find c_Graph_find 2 (Option.some (Jvm.ClassFile.FieldType.object "PromiseScopes$Stage")) 1 := ⟨wd_118, wd_2, wd_116, wd_117, by decide +kernel, by decide +kernel, by decide +kernel⟩
theorem yv_Graph_has : ps_YV y_Graph_has c_Graph_has 2 (Option.some Jvm.ClassFile.FieldType.boolean) 1 := ⟨wd_122, wd_2, wd_120, wd_121, by decide +kernel, by decide +kernel, by decide +kernel⟩
theorem yv_Graph_settle : ps_YV y_Graph_settle c_Graph_settle 4 (Option.none : Option Jvm.ClassFile.FieldType) 3 := ⟨wd_126, wd_2, wd_124, wd_125, by decide +kernel, by decide +kernel, by decide +kernel⟩
theorem yv_Stage_become : ps_YV y_Stage_become c_Stage_become 3 (Option.none : Option Jvm.ClassFile.FieldType) 2 := ⟨wd_130, wd_10, wd_128, wd_129, by decide +kernel, by decide +kernel, by decide +kernel⟩
theorem yv_Graph_noteTurn : ps_YV y_Graph_noteTurn c_Graph_noteTurn 2 (Option.none : Option Jvm.ClassFile.FieldType) 1 := ⟨wd_134, wd_2, wd_133, wp_0, by decide +kernel, by decide +kernel, by decide +kernel⟩
theorem yv_Graph_queueAllThatAreAble : ps_YV y_Graph_queueAllThatAreAble c_Graph_queueAllThatAreAble 3 (Option.none : Option Jvm.ClassFile.FieldType) 0 := ⟨wd_138, wd_2, wd_137, wp_1, by decide +kernel, by decide +kernel, by decide +kernel⟩
theorem yv_Stage_isAble : ps_YV y_Stage_isAble c_Stage_isAble 3 (Option.some Jvm.ClassFile.FieldType.boolean) 0 := ⟨wd_142, wd_10, wd_140, wd_141, by decide +kernel, by decide +kernel, by decide +kernel⟩
theorem yv_Stage_goesToPool : ps_YV y_Stage_goesToPool c_Stage_goesToPool 1 (Option.some Jvm.ClassFile.FieldType.boolean) 0 := ⟨wd_146, wd_10, wd_144, wd_145, by decide +kernel, by decide +kernel, by decide +kernel⟩
theorem yv_Queue_append : ps_YV y_Queue_append c_Queue_append 2 (Option.none : Option Jvm.ClassFile.FieldType) 1 := ⟨wd_150, wd_3, wd_148, wd_149, by decide +kernel, by decide +kernel, by decide +kernel⟩
theorem yv_Graph_workOffLine : ps_YV y_Graph_workOffLine c_Graph_workOffLine 3 (Option.none : Option Jvm.ClassFile.FieldType) 0 := ⟨wd_154, wd_2, wd_152, wd_153, by decide +kernel, by decide +kernel, by decide +kernel⟩
theorem yv_Queue_takeFront : ps_YV y_Queue_takeFront c_Queue_takeFront 2 (Option.some (Jvm.ClassFile.FieldType.object "PromiseScopes$Stage")) 0 := ⟨wd_158, wd_3, wd_156, wd_157, by decide +kernel, by decide +kernel, by decide +kernel⟩
theorem yv_Graph_advance : ps_YV y_Graph_advance c_Graph_advance 2 (Option.none : Option Jvm.ClassFile.FieldType) 1 := ⟨wd_162, wd_2, wd_161, wp_2, by decide +kernel, by decide +kernel, by decide +kernel⟩
theorem yv_Graph_decide : ps_YV y_Graph_decide c_Graph_decide 3 (Option.none : Option Jvm.ClassFile.FieldType) 1 := ⟨wd_166, wd_2, wd_165, wp_3, by decide +kernel, by decide +kernel, by decide +kernel⟩
theorem yv_Stage_applyTo : ps_YV y_Stage_applyTo c_Stage_applyTo 2 (Option.none : Option Jvm.ClassFile.FieldType) 1 := ⟨wd_170, wd_10, wd_168, wd_169, by decide +kernel, by decide +kernel, by decide +kernel⟩
theorem yv_Stage_useFunction : ps_YV y_Stage_useFunction c_Stage_useFunction 3 (Option.none : Option Jvm.ClassFile.FieldType) 1 := ⟨wd_174, wd_10, wd_172, wd_173, by decide +kernel, by decide +kernel, by decide +kernel⟩
theorem ys_Fn_thrownFor : ps_YS y_Fn_thrownFor c_Fn_thrownFor 3 (Option.some Jvm.ClassFile.FieldType.int) 3 := ⟨wd_177, wd_11, wd_176, by decide +kernel, by decide +kernel, by decide +kernel⟩
theorem ys_Fn_madeOf : ps_YS y_Fn_madeOf c_Fn_madeOf 3 (Option.some Jvm.ClassFile.FieldType.int) 3 := ⟨wd_181, wd_11, wd_180, by decide +kernel, by decide +kernel, by decide +kernel⟩
theorem yv_Stage_follow : ps_YV y_Stage_follow c_Stage_follow 2 (Option.none : Option Jvm.ClassFile.FieldType) 1 := ⟨wd_185, wd_10, wd_183, wd_184, by decide +kernel, by decide +kernel, by decide +kernel⟩
theorem yv_Stage_recoverFrom : ps_YV y_Stage_recoverFrom c_Stage_recoverFrom 2 (Option.none : Option Jvm.ClassFile.FieldType) 1 := ⟨wd_189, wd_10, wd_187, wd_188, by decide +kernel, by decide +kernel, by decide +kernel⟩
theorem yv_Stage_handle : ps_YV y_Stage_handle c_Stage_handle 2 (Option.none : Option Jvm.ClassFile.FieldType) 1 := ⟨wd_193, wd_10, wd_191, wd_192, by decide +kernel, by decide +kernel, by decide +kernel⟩
theorem yv_Stage_watch : ps_YV y_Stage_watch c_Stage_watch 3 (Option.none : Option Jvm.ClassFile.FieldType) 1 := ⟨wd_197, wd_10, wd_195, wd_196, by decide +kernel, by decide +kernel, by decide +kernel⟩
theorem yv_Graph_compose : ps_YV y_Graph_compose c_Graph_compose 4 (Option.none : Option Jvm.ClassFile.FieldType) 2 := ⟨wd_201, wd_2, wd_200, wp_4, by decide +kernel, by decide +kernel, by decide +kernel⟩
theorem yv_Stage_combine : ps_YV y_Stage_combine c_Stage_combine 3 (Option.none : Option Jvm.ClassFile.FieldType) 2 := ⟨wd_208, wd_10, wd_206, wd_207, by decide +kernel, by decide +kernel, by decide +kernel⟩
theorem yv_Stage_firstSettledInput : ps_YV y_Stage_firstSettledInput c_Stage_firstSettledInput 3 (Option.some (Jvm.ClassFile.FieldType.object "PromiseScopes$Stage")) 0 := ⟨wd_212, wd_10, wd_210, wd_211, by decide +kernel, by decide +kernel, by decide +kernel⟩
theorem yv_Stage_sumUp : ps_YV y_Stage_sumUp c_Stage_sumUp 3 (Option.none : Option Jvm.ClassFile.FieldType) 0 := ⟨wd_216, wd_10, wd_214, wd_215, by decide +kernel, by decide +kernel, by decide +kernel⟩
theorem yv_Ps_fail : ps_YV y_Ps_fail c_Ps_fail 4 (Option.some Jvm.ClassFile.FieldType.boolean) 2 := ⟨wd_220, wd_1, wd_218, wd_219, by decide +kernel, by decide +kernel, by decide +kernel⟩
theorem yv_Ps_cancel : ps_YV y_Ps_cancel c_Ps_cancel 3 (Option.some Jvm.ClassFile.FieldType.boolean) 1 := ⟨wd_224, wd_1, wd_222, wd_223, by decide +kernel, by decide +kernel, by decide +kernel⟩
theorem yv_Ps_work : ps_YV y_Ps_work c_Ps_work 3 (Option.some Jvm.ClassFile.FieldType.int) 1 := ⟨wd_228, wd_1, wd_226, wd_227, by decide +kernel, by decide +kernel, by decide +kernel⟩
theorem ys_Ps_isStepCount : ps_YS y_Ps_isStepCount c_Ps_isStepCount 1 (Option.some Jvm.ClassFile.FieldType.boolean) 1 := ⟨wd_231, wd_1, wd_230, by decide +kernel, by decide +kernel, by decide +kernel⟩
theorem yv_Graph_advancePool : ps_YV y_Graph_advancePool c_Graph_advancePool 2 (Option.some Jvm.ClassFile.FieldType.boolean) 0 := ⟨wd_235, wd_2, wd_233, wd_234, by decide +kernel, by decide +kernel, by decide +kernel⟩
theorem yv_Ps_stage : ps_YV y_Ps_stage c_Ps_stage 4 (Option.some Jvm.ClassFile.FieldType.int) 2 := ⟨wd_239, wd_1, wd_237, wd_238, by decide +kernel, by decide +kernel, by decide +kernel⟩
theorem yv_Graph_placeInPool : ps_YV y_Graph_placeInPool c_Graph_placeInPool 2 (Option.some Jvm.ClassFile.FieldType.int) 1 := ⟨wd_244, wd_2, wd_242, wd_243, by decide +kernel, by decide +kernel, by decide +kernel⟩
theorem yv_Queue_placeOf : ps_YV y_Queue_placeOf c_Queue_placeOf 3 (Option.some Jvm.ClassFile.FieldType.int) 1 := ⟨wd_248, wd_3, wd_246, wd_247, by decide +kernel, by decide +kernel, by decide +kernel⟩
theorem yv_Ps_count : ps_YV y_Ps_count c_Ps_count 2 (Option.some Jvm.ClassFile.FieldType.int) 1 := ⟨wd_252, wd_1, wd_250, wd_251, by decide +kernel, by decide +kernel, by decide +kernel⟩
theorem yv_Graph_poolSize : ps_YV y_Graph_poolSize c_Graph_poolSize 1 (Option.some Jvm.ClassFile.FieldType.int) 0 := ⟨wd_256, wd_2, wd_254, wd_255, by decide +kernel, by decide +kernel, by decide +kernel⟩
theorem yv_Queue_length : ps_YV y_Queue_length c_Queue_length 1 (Option.some Jvm.ClassFile.FieldType.int) 0 := ⟨wd_260, wd_3, wd_258, wd_259, by decide +kernel, by decide +kernel, by decide +kernel⟩
theorem yv_Ps_bind : ps_YV y_Ps_bind c_Ps_bind 5 (Option.some Jvm.ClassFile.FieldType.boolean) 3 := ⟨wd_264, wd_1, wd_262, wd_263, by decide +kernel, by decide +kernel, by decide +kernel⟩
theorem yv_Tree_findOpen : ps_YV y_Tree_findOpen c_Tree_findOpen 3 (Option.some (Jvm.ClassFile.FieldType.object "PromiseScopes$Scope")) 1 := ⟨wd_268, wd_4, wd_266, wd_267, by decide +kernel, by decide +kernel, by decide +kernel⟩
theorem yv_Tree_find : ps_YV y_Tree_find c_Tree_find 2 (Option.some (Jvm.ClassFile.FieldType.object "PromiseScopes$Scope")) 1 := ⟨wd_272, wd_4, wd_270, wd_271, by decide +kernel, by decide +kernel, by decide +kernel⟩
theorem ys_Scope_isKey : ps_YS y_Scope_isKey c_Scope_isKey 1 (Option.some Jvm.ClassFile.FieldType.boolean) 1 := ⟨wd_275, wd_15, wd_274, by decide +kernel, by decide +kernel, by decide +kernel⟩
theorem yv_Scope_keep : ps_YV y_Scope_keep c_Scope_keep 3 (Option.none : Option Jvm.ClassFile.FieldType) 2 := ⟨wd_279, wd_15, wd_277, wd_278, by decide +kernel, by decide +kernel, by decide +kernel⟩
theorem yv_Ps_joinScope : ps_YV y_Ps_joinScope c_Ps_joinScope 3 (Option.some Jvm.ClassFile.FieldType.boolean) 1 := ⟨wd_283, wd_1, wd_281, wd_282, by decide +kernel, by decide +kernel, by decide +kernel⟩
theorem yv_Tree_hasOpenBelow : ps_YV y_Tree_hasOpenBelow c_Tree_hasOpenBelow 3 (Option.some Jvm.ClassFile.FieldType.boolean) 1 := ⟨wd_287, wd_4, wd_285, wd_286, by decide +kernel, by decide +kernel, by decide +kernel⟩
theorem yv_Scope_isBelow : ps_YV y_Scope_isBelow c_Scope_isBelow 3 (Option.some Jvm.ClassFile.FieldType.boolean) 1 := ⟨wd_291, wd_15, wd_289, wd_290, by decide +kernel, by decide +kernel, by decide +kernel⟩
theorem yv_Tree_closeAllThatCan : ps_YV y_Tree_closeAllThatCan c_Tree_closeAllThatCan 4 (Option.none : Option Jvm.ClassFile.FieldType) 1 := ⟨wd_295, wd_4, wd_293, wd_294, by decide +kernel, by decide +kernel, by decide +kernel⟩
theorem yv_Tree_countTasks : ps_YV y_Tree_countTasks c_Tree_countTasks 5 (Option.some Jvm.ClassFile.FieldType.int) 2 := ⟨wd_299, wd_4, wd_297, wd_298, by decide +kernel, by decide +kernel, by decide +kernel⟩
theorem yv_Tree_hasUnclosedBelow : ps_YV y_Tree_hasUnclosedBelow c_Tree_hasUnclosedBelow 3 (Option.some Jvm.ClassFile.FieldType.boolean) 1 := ⟨wd_303, wd_4, wd_302, wp_5, by decide +kernel, by decide +kernel, by decide +kernel⟩
theorem yv_Tree_giveResult : ps_YV y_Tree_giveResult c_Tree_giveResult 4 (Option.none : Option Jvm.ClassFile.FieldType) 2 := ⟨wd_307, wd_4, wd_306, wp_6, by decide +kernel, by decide +kernel, by decide +kernel⟩
theorem yv_Tree_succeeded : ps_YV y_Tree_succeeded c_Tree_succeeded 2 (Option.some Jvm.ClassFile.FieldType.boolean) 1 := ⟨wd_312, wd_4, wd_311, wp_7, by decide +kernel, by decide +kernel, by decide +kernel⟩
theorem yv_Tree_valueOf : ps_YV y_Tree_valueOf c_Tree_valueOf 4 (Option.some Jvm.ClassFile.FieldType.int) 1 := ⟨wd_316, wd_4, wd_315, wp_8, by decide +kernel, by decide +kernel, by decide +kernel⟩
theorem yv_Tree_firstEnded : ps_YV y_Tree_firstEnded c_Tree_firstEnded 6 (Option.some (Jvm.ClassFile.FieldType.object "PromiseScopes$Task")) 2 := ⟨wd_320, wd_4, wd_319, wp_9, by decide +kernel, by decide +kernel, by decide +kernel⟩
theorem yv_Ps_cancelScope : ps_YV y_Ps_cancelScope c_Ps_cancelScope 3 (Option.some Jvm.ClassFile.FieldType.boolean) 1 := ⟨wd_324, wd_1, wd_322, wd_323, by decide +kernel, by decide +kernel, by decide +kernel⟩
theorem yv_Tree_stop : ps_YV y_Tree_stop c_Tree_stop 4 (Option.none : Option Jvm.ClassFile.FieldType) 1 := ⟨wd_329, wd_4, wd_327, wd_328, by decide +kernel, by decide +kernel, by decide +kernel⟩
theorem yv_Tree_cancelTasks : ps_YV y_Tree_cancelTasks c_Tree_cancelTasks 3 (Option.none : Option Jvm.ClassFile.FieldType) 1 := ⟨wd_333, wd_4, wd_332, wp_10, by decide +kernel, by decide +kernel, by decide +kernel⟩
theorem yv_Ps_tick : ps_YV y_Ps_tick c_Ps_tick 4 (Option.some Jvm.ClassFile.FieldType.int) 1 := ⟨wd_337, wd_1, wd_335, wd_336, by decide +kernel, by decide +kernel, by decide +kernel⟩
theorem yv_Tree_passOneTick : ps_YV y_Tree_passOneTick c_Tree_passOneTick 3 (Option.some Jvm.ClassFile.FieldType.int) 0 := ⟨wd_341, wd_4, wd_339, wd_340, by decide +kernel, by decide +kernel, by decide +kernel⟩
theorem yv_Tree_stopLateScopes : ps_YV y_Tree_stopLateScopes c_Tree_stopLateScopes 3 (Option.none : Option Jvm.ClassFile.FieldType) 0 := ⟨wd_345, wd_4, wd_344, wp_11, by decide +kernel, by decide +kernel, by decide +kernel⟩
theorem yv_Scope_isPastDeadline : ps_YV y_Scope_isPastDeadline c_Scope_isPastDeadline 2 (Option.some Jvm.ClassFile.FieldType.boolean) 1 := ⟨wd_349, wd_15, wd_347, wd_348, by decide +kernel, by decide +kernel, by decide +kernel⟩
theorem yv_Task_workOnce : ps_YV y_Task_workOnce c_Task_workOnce 2 (Option.none : Option Jvm.ClassFile.FieldType) 0 := ⟨wd_354, wd_17, wd_352, wd_353, by decide +kernel, by decide +kernel, by decide +kernel⟩
theorem yv_Tree_noteEnd : ps_YV y_Tree_noteEnd c_Tree_noteEnd 2 (Option.none : Option Jvm.ClassFile.FieldType) 1 := ⟨wd_360, wd_4, wd_359, wp_12, by decide +kernel, by decide +kernel, by decide +kernel⟩
theorem yv_Scope_isStoppedBy : ps_YV y_Scope_isStoppedBy c_Scope_isStoppedBy 2 (Option.some Jvm.ClassFile.FieldType.boolean) 1 := ⟨wd_364, wd_15, wd_362, wd_363, by decide +kernel, by decide +kernel, by decide +kernel⟩
theorem yv_Ps_scope : ps_YV y_Ps_scope c_Ps_scope 4 (Option.some Jvm.ClassFile.FieldType.int) 2 := ⟨wd_368, wd_1, wd_366, wd_367, by decide +kernel, by decide +kernel, by decide +kernel⟩
theorem yv_Ps_task : ps_YV y_Ps_task c_Ps_task 4 (Option.some Jvm.ClassFile.FieldType.int) 2 := ⟨wd_373, wd_1, wd_371, wd_372, by decide +kernel, by decide +kernel, by decide +kernel⟩
theorem yv_Tree_findTask : ps_YV y_Tree_findTask c_Tree_findTask 2 (Option.some (Jvm.ClassFile.FieldType.object "PromiseScopes$Task")) 1 := ⟨wd_377, wd_4, wd_375, wd_376, by decide +kernel, by decide +kernel, by decide +kernel⟩
theorem yv_Ps_source : ps_YV y_Ps_source c_Ps_source 1 (Option.some Jvm.ClassFile.FieldType.int) 0 := ⟨wd_385, wd_1, wd_383, wd_384, by decide +kernel, by decide +kernel, by decide +kernel⟩
theorem yv_Graph_isFull : ps_YV y_Graph_isFull c_Graph_isFull 1 (Option.some Jvm.ClassFile.FieldType.boolean) 0 := ⟨wd_389, wd_2, wd_387, wd_388, by decide +kernel, by decide +kernel, by decide +kernel⟩
theorem yv_Graph_addSource : ps_YV y_Graph_addSource c_Graph_addSource 1 (Option.some (Jvm.ClassFile.FieldType.object "PromiseScopes$Stage")) 0 := ⟨wd_461, wd_2, wd_459, wd_460, by decide +kernel, by decide +kernel, by decide +kernel⟩
theorem yv_Graph_addStage : ps_YV y_Graph_addStage c_Graph_addStage 7 (Option.some (Jvm.ClassFile.FieldType.object "PromiseScopes$Stage")) 5 := ⟨wd_465, wd_2, wd_463, wd_464, by decide +kernel, by decide +kernel, by decide +kernel⟩
theorem yi_Stage_init : ps_YI y_Stage_init c_Stage_init 7 6 := ⟨wd_469, wd_10, wd_468, rfl, by decide +kernel, by decide +kernel, by decide +kernel⟩
theorem yv_Ps_then : ps_YV y_Ps_then c_Ps_then 7 (Option.some Jvm.ClassFile.FieldType.int) 5 := ⟨wd_526, wd_1, wd_524, wd_525, by decide +kernel, by decide +kernel, by decide +kernel⟩
theorem ys_Fn_has : ps_YS y_Fn_has c_Fn_has 1 (Option.some Jvm.ClassFile.FieldType.boolean) 1 := ⟨wd_530, wd_11, wd_529, by decide +kernel, by decide +kernel, by decide +kernel⟩
theorem yv_Graph_inputsOf : ps_YV y_Graph_inputsOf c_Graph_inputsOf 3 (Option.some (Jvm.ClassFile.FieldType.array (Jvm.ClassFile.FieldType.object "PromiseScopes$Stage"))) 1 := ⟨wd_550, wd_2, wd_548, wd_549, by decide +kernel, by decide +kernel, by decide +kernel⟩
theorem yv_Ps_both : ps_YV y_Ps_both c_Ps_both 8 (Option.some Jvm.ClassFile.FieldType.int) 6 := ⟨wd_558, wd_1, wd_556, wd_557, by decide +kernel, by decide +kernel, by decide +kernel⟩
theorem yv_Graph_inputsOf2 : ps_YV y_Graph_inputsOf2 c_Graph_inputsOf2 4 (Option.some (Jvm.ClassFile.FieldType.array (Jvm.ClassFile.FieldType.object "PromiseScopes$Stage"))) 2 := ⟨wd_562, wd_2, wd_560, wd_561, by decide +kernel, by decide +kernel, by decide +kernel⟩
theorem yv_Ps_several : ps_YV y_Ps_several c_Ps_several 5 (Option.some Jvm.ClassFile.FieldType.int) 2 := ⟨wd_569, wd_1, wd_567, wd_568, by decide +kernel, by decide +kernel, by decide +kernel⟩
theorem yv_Graph_hasAll : ps_YV y_Graph_hasAll c_Graph_hasAll 3 (Option.some Jvm.ClassFile.FieldType.boolean) 1 := ⟨wd_573, wd_2, wd_571, wd_572, by decide +kernel, by decide +kernel, by decide +kernel⟩
theorem yv_Graph_inputsOfSet : ps_YV y_Graph_inputsOfSet c_Graph_inputsOfSet 6 (Option.some (Jvm.ClassFile.FieldType.array (Jvm.ClassFile.FieldType.object "PromiseScopes$Stage"))) 1 := ⟨wd_578, wd_2, wd_576, wd_577, by decide +kernel, by decide +kernel, by decide +kernel⟩
theorem yv_Ps_join : ps_YV y_Ps_join c_Ps_join 3 (Option.some Jvm.ClassFile.FieldType.int) 1 := ⟨wd_592, wd_1, wd_590, wd_591, by decide +kernel, by decide +kernel, by decide +kernel⟩
theorem yv_Ps_open : ps_YV y_Ps_open c_Ps_open 5 (Option.some Jvm.ClassFile.FieldType.int) 3 := ⟨wd_617, wd_1, wd_615, wd_616, by decide +kernel, by decide +kernel, by decide +kernel⟩
theorem yv_Tree_isFullOfScopes : ps_YV y_Tree_isFullOfScopes c_Tree_isFullOfScopes 1 (Option.some Jvm.ClassFile.FieldType.boolean) 0 := ⟨wd_622, wd_4, wd_620, wd_621, by decide +kernel, by decide +kernel, by decide +kernel⟩
theorem yv_Tree_addScope : ps_YV y_Tree_addScope c_Tree_addScope 6 (Option.some Jvm.ClassFile.FieldType.int) 4 := ⟨wd_627, wd_4, wd_625, wd_626, by decide +kernel, by decide +kernel, by decide +kernel⟩
theorem ys_Scope_effectiveDeadline : ps_YS y_Scope_effectiveDeadline c_Scope_effectiveDeadline 2 (Option.some Jvm.ClassFile.FieldType.int) 2 := ⟨wd_630, wd_15, wd_629, by decide +kernel, by decide +kernel, by decide +kernel⟩
theorem yi_Scope_init : ps_YI y_Scope_init c_Scope_init 6 5 := ⟨wd_637, wd_15, wd_636, rfl, by decide +kernel, by decide +kernel, by decide +kernel⟩
theorem yv_Ps_fork : ps_YV y_Ps_fork c_Ps_fork 6 (Option.some Jvm.ClassFile.FieldType.int) 4 := ⟨wd_688, wd_1, wd_686, wd_687, by decide +kernel, by decide +kernel, by decide +kernel⟩
theorem ys_Task_isCost : ps_YS y_Task_isCost c_Task_isCost 1 (Option.some Jvm.ClassFile.FieldType.boolean) 1 := ⟨wd_691, wd_17, wd_690, by decide +kernel, by decide +kernel, by decide +kernel⟩
theorem yv_Tree_isFullOfTasks : ps_YV y_Tree_isFullOfTasks c_Tree_isFullOfTasks 1 (Option.some Jvm.ClassFile.FieldType.boolean) 0 := ⟨wd_696, wd_4, wd_694, wd_695, by decide +kernel, by decide +kernel, by decide +kernel⟩
theorem yv_Tree_addTask : ps_YV y_Tree_addTask c_Tree_addTask 5 (Option.some Jvm.ClassFile.FieldType.int) 4 := ⟨wd_701, wd_4, wd_699, wd_700, by decide +kernel, by decide +kernel, by decide +kernel⟩
theorem yv_Scope_lookUp : ps_YV y_Scope_lookUp c_Scope_lookUp 3 (Option.some Jvm.ClassFile.FieldType.int) 1 := ⟨wd_706, wd_15, wd_704, wd_705, by decide +kernel, by decide +kernel, by decide +kernel⟩
theorem yi_Task_init : ps_YI y_Task_init c_Task_init 6 5 := ⟨wd_709, wd_17, wd_708, rfl, by decide +kernel, by decide +kernel, by decide +kernel⟩
theorem yv_Ps_bound : ps_YV y_Ps_bound c_Ps_bound 4 (Option.some Jvm.ClassFile.FieldType.int) 2 := ⟨wd_753, wd_1, wd_751, wd_752, by decide +kernel, by decide +kernel, by decide +kernel⟩
theorem yi_Mod_init : ps_YI y_Mod_init c_Mod_init 1 0 := ⟨wd_760, wd_5, wd_759, rfl, by decide +kernel, by decide +kernel, by decide +kernel⟩
theorem yv_Mod_thrown : ps_YV y_Mod_thrown c_Mod_thrown 1 (Option.some Jvm.ClassFile.FieldType.int) 0 := ⟨wd_899, wd_5, wd_897, wd_898, by decide +kernel, by decide +kernel, by decide +kernel⟩
theorem yv_Mod_source : ps_YV y_Mod_source c_Mod_source 1 (Option.some Jvm.ClassFile.FieldType.int) 0 := ⟨wd_903, wd_5, wd_901, wd_902, by decide +kernel, by decide +kernel, by decide +kernel⟩
theorem yv_Mod_make : ps_YV y_Mod_make c_Mod_make 10 (Option.some Jvm.ClassFile.FieldType.int) 7 := ⟨wd_907, wd_5, wd_906, wp_14, by decide +kernel, by decide +kernel, by decide +kernel⟩
theorem yv_Mod_scan : ps_YV y_Mod_scan c_Mod_scan 2 (Option.none : Option Jvm.ClassFile.FieldType) 0 := ⟨wd_911, wd_5, wd_910, wp_15, by decide +kernel, by decide +kernel, by decide +kernel⟩
theorem yv_Mod_settled : ps_YV y_Mod_settled c_Mod_settled 2 (Option.some Jvm.ClassFile.FieldType.boolean) 1 := ⟨wd_915, wd_5, wd_914, wp_16, by decide +kernel, by decide +kernel, by decide +kernel⟩
theorem yv_Mod_isAble : ps_YV y_Mod_isAble c_Mod_isAble 4 (Option.some Jvm.ClassFile.FieldType.boolean) 1 := ⟨wd_919, wd_5, wd_918, wp_17, by decide +kernel, by decide +kernel, by decide +kernel⟩
theorem yv_Mod_come : ps_YV y_Mod_come c_Mod_come 6 (Option.some Jvm.ClassFile.FieldType.boolean) 2 := ⟨wd_923, wd_5, wd_922, wp_18, by decide +kernel, by decide +kernel, by decide +kernel⟩
theorem yv_Mod_then : ps_YV y_Mod_then c_Mod_then 7 (Option.some Jvm.ClassFile.FieldType.int) 5 := ⟨wd_927, wd_5, wd_925, wd_926, by decide +kernel, by decide +kernel, by decide +kernel⟩
theorem yv_Mod_isStage : ps_YV y_Mod_isStage c_Mod_isStage 2 (Option.some Jvm.ClassFile.FieldType.boolean) 1 := ⟨wd_931, wd_5, wd_930, wp_19, by decide +kernel, by decide +kernel, by decide +kernel⟩
theorem yv_Mod_workOff : ps_YV y_Mod_workOff c_Mod_workOff 2 (Option.none : Option Jvm.ClassFile.FieldType) 0 := ⟨wd_935, wd_5, wd_934, wp_20, by decide +kernel, by decide +kernel, by decide +kernel⟩
theorem yv_Mod_resolve : ps_YV y_Mod_resolve c_Mod_resolve 6 (Option.none : Option Jvm.ClassFile.FieldType) 1 := ⟨wd_939, wd_5, wd_938, wp_21, by decide +kernel, by decide +kernel, by decide +kernel⟩
theorem yv_Mod_copy : ps_YV y_Mod_copy c_Mod_copy 3 (Option.none : Option Jvm.ClassFile.FieldType) 2 := ⟨wd_943, wd_5, wd_942, wp_22, by decide +kernel, by decide +kernel, by decide +kernel⟩
theorem yv_Mod_give : ps_YV y_Mod_give c_Mod_give 4 (Option.none : Option Jvm.ClassFile.FieldType) 3 := ⟨wd_947, wd_5, wd_946, wp_23, by decide +kernel, by decide +kernel, by decide +kernel⟩
theorem yv_Mod_one : ps_YV y_Mod_one c_Mod_one 6 (Option.none : Option Jvm.ClassFile.FieldType) 2 := ⟨wd_951, wd_5, wd_950, wp_24, by decide +kernel, by decide +kernel, by decide +kernel⟩
theorem yv_Mod_apply : ps_YV y_Mod_apply c_Mod_apply 4 (Option.none : Option Jvm.ClassFile.FieldType) 3 := ⟨wd_955, wd_5, wd_954, wp_25, by decide +kernel, by decide +kernel, by decide +kernel⟩
theorem yv_Mod_giveMade : ps_YV y_Mod_giveMade c_Mod_giveMade 2 (Option.none : Option Jvm.ClassFile.FieldType) 1 := ⟨wd_959, wd_5, wd_958, wp_26, by decide +kernel, by decide +kernel, by decide +kernel⟩
theorem yv_Mod_all : ps_YV y_Mod_all c_Mod_all 4 (Option.none : Option Jvm.ClassFile.FieldType) 1 := ⟨wd_963, wd_5, wd_962, wp_27, by decide +kernel, by decide +kernel, by decide +kernel⟩
theorem yv_Mod_earliest : ps_YV y_Mod_earliest c_Mod_earliest 4 (Option.some Jvm.ClassFile.FieldType.int) 1 := ⟨wd_967, wd_5, wd_966, wp_28, by decide +kernel, by decide +kernel, by decide +kernel⟩
theorem yv_Mod_both : ps_YV y_Mod_both c_Mod_both 8 (Option.some Jvm.ClassFile.FieldType.int) 6 := ⟨wd_971, wd_5, wd_969, wd_970, by decide +kernel, by decide +kernel, by decide +kernel⟩
theorem yv_Mod_several : ps_YV y_Mod_several c_Mod_several 5 (Option.some Jvm.ClassFile.FieldType.int) 2 := ⟨wd_975, wd_5, wd_973, wd_974, by decide +kernel, by decide +kernel, by decide +kernel⟩
theorem yv_Mod_complete : ps_YV y_Mod_complete c_Mod_complete 3 (Option.some Jvm.ClassFile.FieldType.boolean) 2 := ⟨wd_979, wd_5, wd_977, wd_978, by decide +kernel, by decide +kernel, by decide +kernel⟩
theorem yv_Mod_settle : ps_YV y_Mod_settle c_Mod_settle 4 (Option.some Jvm.ClassFile.FieldType.boolean) 3 := ⟨wd_983, wd_5, wd_982, wp_29, by decide +kernel, by decide +kernel, by decide +kernel⟩
theorem yv_Mod_fail : ps_YV y_Mod_fail c_Mod_fail 3 (Option.some Jvm.ClassFile.FieldType.boolean) 2 := ⟨wd_987, wd_5, wd_985, wd_986, by decide +kernel, by decide +kernel, by decide +kernel⟩
theorem yv_Mod_cancel : ps_YV y_Mod_cancel c_Mod_cancel 2 (Option.some Jvm.ClassFile.FieldType.boolean) 1 := ⟨wd_991, wd_5, wd_989, wd_990, by decide +kernel, by decide +kernel, by decide +kernel⟩
theorem yv_Mod_work : ps_YV y_Mod_work c_Mod_work 5 (Option.some Jvm.ClassFile.FieldType.int) 1 := ⟨wd_995, wd_5, wd_993, wd_994, by decide +kernel, by decide +kernel, by decide +kernel⟩
theorem yv_Mod_join : ps_YV y_Mod_join c_Mod_join 2 (Option.some Jvm.ClassFile.FieldType.int) 1 := ⟨wd_999, wd_5, wd_997, wd_998, by decide +kernel, by decide +kernel, by decide +kernel⟩
theorem yv_Mod_stage : ps_YV y_Mod_stage c_Mod_stage 5 (Option.some Jvm.ClassFile.FieldType.int) 2 := ⟨wd_1003, wd_5, wd_1001, wd_1002, by decide +kernel, by decide +kernel, by decide +kernel⟩
theorem yv_Mod_count : ps_YV y_Mod_count c_Mod_count 2 (Option.some Jvm.ClassFile.FieldType.int) 1 := ⟨wd_1007, wd_5, wd_1005, wd_1006, by decide +kernel, by decide +kernel, by decide +kernel⟩
theorem yv_Mod_open : ps_YV y_Mod_open c_Mod_open 5 (Option.some Jvm.ClassFile.FieldType.int) 3 := ⟨wd_1011, wd_5, wd_1009, wd_1010, by decide +kernel, by decide +kernel, by decide +kernel⟩
theorem yv_Mod_isOpen : ps_YV y_Mod_isOpen c_Mod_isOpen 2 (Option.some Jvm.ClassFile.FieldType.boolean) 1 := ⟨wd_1015, wd_5, wd_1014, wp_30, by decide +kernel, by decide +kernel, by decide +kernel⟩
theorem yv_Mod_isScope : ps_YV y_Mod_isScope c_Mod_isScope 2 (Option.some Jvm.ClassFile.FieldType.boolean) 1 := ⟨wd_1019, wd_5, wd_1018, wp_31, by decide +kernel, by decide +kernel, by decide +kernel⟩
theorem yv_Mod_bind : ps_YV y_Mod_bind c_Mod_bind 4 (Option.some Jvm.ClassFile.FieldType.boolean) 3 := ⟨wd_1023, wd_5, wd_1021, wd_1022, by decide +kernel, by decide +kernel, by decide +kernel⟩
theorem yv_Mod_bound : ps_YV y_Mod_bound c_Mod_bound 3 (Option.some Jvm.ClassFile.FieldType.int) 2 := ⟨wd_1027, wd_5, wd_1025, wd_1026, by decide +kernel, by decide +kernel, by decide +kernel⟩
theorem yv_Mod_look : ps_YV y_Mod_look c_Mod_look 4 (Option.some Jvm.ClassFile.FieldType.int) 2 := ⟨wd_1031, wd_5, wd_1030, wp_32, by decide +kernel, by decide +kernel, by decide +kernel⟩
theorem yv_Mod_fork : ps_YV y_Mod_fork c_Mod_fork 6 (Option.some Jvm.ClassFile.FieldType.int) 4 := ⟨wd_1035, wd_5, wd_1033, wd_1034, by decide +kernel, by decide +kernel, by decide +kernel⟩
theorem yv_Mod_joinScope : ps_YV y_Mod_joinScope c_Mod_joinScope 4 (Option.some Jvm.ClassFile.FieldType.boolean) 1 := ⟨wd_1039, wd_5, wd_1037, wd_1038, by decide +kernel, by decide +kernel, by decide +kernel⟩
theorem yv_Mod_below : ps_YV y_Mod_below c_Mod_below 4 (Option.some Jvm.ClassFile.FieldType.boolean) 2 := ⟨wd_1043, wd_5, wd_1042, wp_33, by decide +kernel, by decide +kernel, by decide +kernel⟩
theorem yv_Mod_closeAll : ps_YV y_Mod_closeAll c_Mod_closeAll 4 (Option.none : Option Jvm.ClassFile.FieldType) 0 := ⟨wd_1047, wd_5, wd_1046, wp_34, by decide +kernel, by decide +kernel, by decide +kernel⟩
theorem yv_Mod_running : ps_YV y_Mod_running c_Mod_running 4 (Option.some Jvm.ClassFile.FieldType.int) 1 := ⟨wd_1051, wd_5, wd_1050, wp_35, by decide +kernel, by decide +kernel, by decide +kernel⟩
theorem yv_Mod_conclude : ps_YV y_Mod_conclude c_Mod_conclude 6 (Option.none : Option Jvm.ClassFile.FieldType) 1 := ⟨wd_1055, wd_5, wd_1054, wp_36, by decide +kernel, by decide +kernel, by decide +kernel⟩
theorem yv_Mod_cancelScope : ps_YV y_Mod_cancelScope c_Mod_cancelScope 2 (Option.some Jvm.ClassFile.FieldType.boolean) 1 := ⟨wd_1059, wd_5, wd_1057, wd_1058, by decide +kernel, by decide +kernel, by decide +kernel⟩
theorem yv_Mod_stop : ps_YV y_Mod_stop c_Mod_stop 4 (Option.none : Option Jvm.ClassFile.FieldType) 1 := ⟨wd_1063, wd_5, wd_1062, wp_37, by decide +kernel, by decide +kernel, by decide +kernel⟩
theorem yv_Mod_tick : ps_YV y_Mod_tick c_Mod_tick 4 (Option.some Jvm.ClassFile.FieldType.int) 1 := ⟨wd_1067, wd_5, wd_1065, wd_1066, by decide +kernel, by decide +kernel, by decide +kernel⟩
theorem yv_Mod_pass : ps_YV y_Mod_pass c_Mod_pass 3 (Option.some Jvm.ClassFile.FieldType.int) 0 := ⟨wd_1071, wd_5, wd_1070, wp_38, by decide +kernel, by decide +kernel, by decide +kernel⟩
theorem yv_Mod_effective : ps_YV y_Mod_effective c_Mod_effective 4 (Option.some Jvm.ClassFile.FieldType.int) 1 := ⟨wd_1075, wd_5, wd_1074, wp_39, by decide +kernel, by decide +kernel, by decide +kernel⟩
theorem yv_Mod_end : ps_YV y_Mod_end c_Mod_end 3 (Option.none : Option Jvm.ClassFile.FieldType) 1 := ⟨wd_1079, wd_5, wd_1078, wp_40, by decide +kernel, by decide +kernel, by decide +kernel⟩
theorem yv_Mod_scope : ps_YV y_Mod_scope c_Mod_scope 5 (Option.some Jvm.ClassFile.FieldType.int) 2 := ⟨wd_1083, wd_5, wd_1081, wd_1082, by decide +kernel, by decide +kernel, by decide +kernel⟩
theorem yv_Mod_task : ps_YV y_Mod_task c_Mod_task 3 (Option.some Jvm.ClassFile.FieldType.int) 2 := ⟨wd_1087, wd_5, wd_1085, wd_1086, by decide +kernel, by decide +kernel, by decide +kernel⟩
end
section
/-! decode rows (by walk.py) -/
theorem d_Queue_init_0 : decode c_Queue_init 0 = .ok (.aload_n 0, 1) := by decide +kernel
theorem d_Queue_init_1 : decode c_Queue_init 1 = .ok (.invokespecial 5, 3) := by decide +kernel
theorem d_Queue_init_4 : decode c_Queue_init 4 = .ok (.aload_n 0, 1) := by decide +kernel
theorem d_Queue_init_5 : decode c_Queue_init 5 = .ok (.bipush 48, 2) := by decide +kernel
theorem d_Queue_init_7 : decode c_Queue_init 7 = .ok (.anewarray 13, 3) := by decide +kernel
theorem d_Queue_init_10 : decode c_Queue_init 10 = .ok (.putfield 15, 3) := by decide +kernel
theorem d_Queue_init_13 : decode c_Queue_init 13 = .ok (.return_, 1) := by decide +kernel
theorem d_Stage_become_0 : decode c_Stage_become 0 = .ok (.aload_n 0, 1) := by decide +kernel
theorem d_Stage_become_1 : decode c_Stage_become 1 = .ok (.iload_n 1, 1) := by decide +kernel
theorem d_Stage_become_2 : decode c_Stage_become 2 = .ok (.putfield 30, 3) := by decide +kernel
theorem d_Stage_become_5 : decode c_Stage_become 5 = .ok (.aload_n 0, 1) := by decide +kernel
theorem d_Stage_become_6 : decode c_Stage_become 6 = .ok (.iload_n 2, 1) := by decide +kernel
theorem d_Stage_become_7 : decode c_Stage_become 7 = .ok (.putfield 41, 3) := by decide +kernel
theorem d_Stage_become_10 : decode c_Stage_become 10 = .ok (.return_, 1) := by decide +kernel
theorem d_Stage_isAble_0 : decode c_Stage_isAble 0 = .ok (.aload_n 0, 1) := by decide +kernel
theorem d_Stage_isAble_1 : decode c_Stage_isAble 1 = .ok (.getfield 30, 3) := by decide +kernel
theorem d_Stage_isAble_4 : decode c_Stage_isAble 4 = .ok (.ifCond .ne 12, 3) := by decide +kernel
theorem d_Stage_isAble_7 : decode c_Stage_isAble 7 = .ok (.aload_n 0, 1) := by decide +kernel
theorem d_Stage_isAble_8 : decode c_Stage_isAble 8 = .ok (.getfield 13, 3) := by decide +kernel
theorem d_Stage_isAble_11 : decode c_Stage_isAble 11 = .ok (.bipush 9, 2) := by decide +kernel
theorem d_Stage_isAble_13 : decode c_Stage_isAble 13 = .ok (.if_icmp .ne 5, 3) := by decide +kernel
theorem d_Stage_isAble_16 : decode c_Stage_isAble 16 = .ok (.iconst 0, 1) := by decide +kernel
theorem d_Stage_isAble_17 : decode c_Stage_isAble 17 = .ok (.ireturn, 1) := by decide +kernel
theorem d_Stage_isAble_18 : decode c_Stage_isAble 18 = .ok (.aload_n 0, 1) := by decide +kernel
theorem d_Stage_isAble_19 : decode c_Stage_isAble 19 = .ok (.getfield 37, 3) := by decide +kernel
theorem d_Stage_isAble_22 : decode c_Stage_isAble 22 = .ok (.ifnull 19, 3) := by decide +kernel
theorem d_Stage_isAble_25 : decode c_Stage_isAble 25 = .ok (.aload_n 0, 1) := by decide +kernel
theorem d_Stage_isAble_26 : decode c_Stage_isAble 26 = .ok (.getfield 37, 3) := by decide +kernel
theorem d_Stage_isAble_29 : decode c_Stage_isAble 29 = .ok (.getfield 30, 3) := by decide +kernel
theorem d_Stage_isAble_32 : decode c_Stage_isAble 32 = .ok (.ifCond .eq 7, 3) := by decide +kernel
theorem d_Stage_isAble_35 : decode c_Stage_isAble 35 = .ok (.iconst 1, 1) := by decide +kernel
theorem d_Stage_isAble_36 : decode c_Stage_isAble 36 = .ok (.goto 4, 3) := by decide +kernel
theorem d_Stage_isAble_39 : decode c_Stage_isAble 39 = .ok (.iconst 0, 1) := by decide +kernel
theorem d_Stage_isAble_40 : decode c_Stage_isAble 40 = .ok (.ireturn, 1) := by decide +kernel
theorem d_Stage_isAble_41 : decode c_Stage_isAble 41 = .ok (.iconst 0, 1) := by decide +kernel
theorem d_Stage_isAble_42 : decode c_Stage_isAble 42 = .ok (.istore_n 1, 1) := by decide +kernel
theorem d_Stage_isAble_43 : decode c_Stage_isAble 43 = .ok (.iconst 0, 1) := by decide +kernel
theorem d_Stage_isAble_44 : decode c_Stage_isAble 44 = .ok (.istore_n 2, 1) := by decide +kernel
theorem d_Stage_isAble_45 : decode c_Stage_isAble 45 = .ok (.iload_n 2, 1) := by decide +kernel
theorem d_Stage_isAble_46 : decode c_Stage_isAble 46 = .ok (.aload_n 0, 1) := by decide +kernel
theorem d_Stage_isAble_47 : decode c_Stage_isAble 47 = .ok (.getfield 26, 3) := by decide +kernel
theorem d_Stage_isAble_50 : decode c_Stage_isAble 50 = .ok (.arraylength, 1) := by decide +kernel
theorem d_Stage_isAble_51 : decode c_Stage_isAble 51 = .ok (.if_icmp .ge 24, 3) := by decide +kernel
theorem d_Stage_isAble_54 : decode c_Stage_isAble 54 = .ok (.aload_n 0, 1) := by decide +kernel
theorem d_Stage_isAble_55 : decode c_Stage_isAble 55 = .ok (.getfield 26, 3) := by decide +kernel
theorem d_Stage_isAble_58 : decode c_Stage_isAble 58 = .ok (.iload_n 2, 1) := by decide +kernel
theorem d_Stage_isAble_59 : decode c_Stage_isAble 59 = .ok (.aaload, 1) := by decide +kernel
theorem d_Stage_isAble_60 : decode c_Stage_isAble 60 = .ok (.getfield 30, 3) := by decide +kernel
theorem d_Stage_isAble_63 : decode c_Stage_isAble 63 = .ok (.ifCond .eq 6, 3) := by decide +kernel
theorem d_Stage_isAble_66 : decode c_Stage_isAble 66 = .ok (.iinc 1 1, 3) := by decide +kernel
theorem d_Stage_isAble_69 : decode c_Stage_isAble 69 = .ok (.iinc 2 1, 3) := by decide +kernel
theorem d_Stage_isAble_72 : decode c_Stage_isAble 72 = .ok (.goto (-27), 3) := by decide +kernel
theorem d_Stage_isAble_75 : decode c_Stage_isAble 75 = .ok (.aload_n 0, 1) := by decide +kernel
theorem d_Stage_isAble_76 : decode c_Stage_isAble 76 = .ok (.getfield 13, 3) := by decide +kernel
theorem d_Stage_isAble_79 : decode c_Stage_isAble 79 = .ok (.bipush 6, 2) := by decide +kernel
theorem d_Stage_isAble_81 : decode c_Stage_isAble 81 = .ok (.if_icmp .eq 12, 3) := by decide +kernel
theorem d_Stage_isAble_84 : decode c_Stage_isAble 84 = .ok (.aload_n 0, 1) := by decide +kernel
theorem d_Stage_isAble_85 : decode c_Stage_isAble 85 = .ok (.getfield 13, 3) := by decide +kernel
theorem d_Stage_isAble_88 : decode c_Stage_isAble 88 = .ok (.bipush 8, 2) := by decide +kernel
theorem d_Stage_isAble_90 : decode c_Stage_isAble 90 = .ok (.if_icmp .ne 15, 3) := by decide +kernel
theorem d_Stage_isAble_93 : decode c_Stage_isAble 93 = .ok (.iload_n 1, 1) := by decide +kernel
theorem d_Stage_isAble_94 : decode c_Stage_isAble 94 = .ok (.ifCond .le 7, 3) := by decide +kernel
theorem d_Stage_isAble_97 : decode c_Stage_isAble 97 = .ok (.iconst 1, 1) := by decide +kernel
theorem d_Stage_isAble_98 : decode c_Stage_isAble 98 = .ok (.goto 21, 3) := by decide +kernel
theorem d_Stage_isAble_101 : decode c_Stage_isAble 101 = .ok (.iconst 0, 1) := by decide +kernel
theorem d_Stage_isAble_102 : decode c_Stage_isAble 102 = .ok (.goto 17, 3) := by decide +kernel
theorem d_Stage_isAble_105 : decode c_Stage_isAble 105 = .ok (.iload_n 1, 1) := by decide +kernel
theorem d_Stage_isAble_106 : decode c_Stage_isAble 106 = .ok (.aload_n 0, 1) := by decide +kernel
theorem d_Stage_isAble_107 : decode c_Stage_isAble 107 = .ok (.getfield 26, 3) := by decide +kernel
theorem d_Stage_isAble_110 : decode c_Stage_isAble 110 = .ok (.arraylength, 1) := by decide +kernel
theorem d_Stage_isAble_111 : decode c_Stage_isAble 111 = .ok (.if_icmp .ne 7, 3) := by decide +kernel
theorem d_Stage_isAble_114 : decode c_Stage_isAble 114 = .ok (.iconst 1, 1) := by decide +kernel
theorem d_Stage_isAble_115 : decode c_Stage_isAble 115 = .ok (.goto 4, 3) := by decide +kernel
theorem d_Stage_isAble_118 : decode c_Stage_isAble 118 = .ok (.iconst 0, 1) := by decide +kernel
theorem d_Stage_isAble_119 : decode c_Stage_isAble 119 = .ok (.ireturn, 1) := by decide +kernel
theorem d_Stage_goesToPool_0 : decode c_Stage_goesToPool 0 = .ok (.aload_n 0, 1) := by decide +kernel
theorem d_Stage_goesToPool_1 : decode c_Stage_goesToPool 1 = .ok (.getfield 22, 3) := by decide +kernel
theorem d_Stage_goesToPool_4 : decode c_Stage_goesToPool 4 = .ok (.ifCond .eq 14, 3) := by decide +kernel
theorem d_Stage_goesToPool_7 : decode c_Stage_goesToPool 7 = .ok (.aload_n 0, 1) := by decide +kernel
theorem d_Stage_goesToPool_8 : decode c_Stage_goesToPool 8 = .ok (.getfield 37, 3) := by decide +kernel
theorem d_Stage_goesToPool_11 : decode c_Stage_goesToPool 11 = .ok (.ifnonnull 7, 3) := by decide +kernel
theorem d_Stage_goesToPool_14 : decode c_Stage_goesToPool 14 = .ok (.iconst 1, 1) := by decide +kernel
theorem d_Stage_goesToPool_15 : decode c_Stage_goesToPool 15 = .ok (.goto 4, 3) := by decide +kernel
theorem d_Stage_goesToPool_18 : decode c_Stage_goesToPool 18 = .ok (.iconst 0, 1) := by decide +kernel
theorem d_Stage_goesToPool_19 : decode c_Stage_goesToPool 19 = .ok (.ireturn, 1) := by decide +kernel
theorem d_Queue_append_0 : decode c_Queue_append 0 = .ok (.aload_n 0, 1) := by decide +kernel
theorem d_Queue_append_1 : decode c_Queue_append 1 = .ok (.getfield 19, 3) := by decide +kernel
theorem d_Queue_append_4 : decode c_Queue_append 4 = .ok (.bipush 48, 2) := by decide +kernel
theorem d_Queue_append_6 : decode c_Queue_append 6 = .ok (.if_icmp .ge 31, 3) := by decide +kernel
theorem d_Queue_append_9 : decode c_Queue_append 9 = .ok (.aload_n 0, 1) := by decide +kernel
theorem d_Queue_append_10 : decode c_Queue_append 10 = .ok (.getfield 15, 3) := by decide +kernel
theorem d_Queue_append_13 : decode c_Queue_append 13 = .ok (.aload_n 0, 1) := by decide +kernel
theorem d_Queue_append_14 : decode c_Queue_append 14 = .ok (.getfield 23, 3) := by decide +kernel
theorem d_Queue_append_17 : decode c_Queue_append 17 = .ok (.aload_n 0, 1) := by decide +kernel
theorem d_Queue_append_18 : decode c_Queue_append 18 = .ok (.getfield 19, 3) := by decide +kernel
theorem d_Queue_append_21 : decode c_Queue_append 21 = .ok (.iadd, 1) := by decide +kernel
theorem d_Queue_append_22 : decode c_Queue_append 22 = .ok (.bipush 48, 2) := by decide +kernel
theorem d_Queue_append_24 : decode c_Queue_append 24 = .ok (.irem, 1) := by decide +kernel
theorem d_Queue_append_25 : decode c_Queue_append 25 = .ok (.aload_n 1, 1) := by decide +kernel
theorem d_Queue_append_26 : decode c_Queue_append 26 = .ok (.aastore, 1) := by decide +kernel
theorem d_Queue_append_27 : decode c_Queue_append 27 = .ok (.aload_n 0, 1) := by decide +kernel
theorem d_Queue_append_28 : decode c_Queue_append 28 = .ok (.dup, 1) := by decide +kernel
theorem d_Queue_append_29 : decode c_Queue_append 29 = .ok (.getfield 19, 3) := by decide +kernel
theorem d_Queue_append_32 : decode c_Queue_append 32 = .ok (.iconst 1, 1) := by decide +kernel
theorem d_Queue_append_33 : decode c_Queue_append 33 = .ok (.iadd, 1) := by decide +kernel
theorem d_Queue_append_34 : decode c_Queue_append 34 = .ok (.putfield 19, 3) := by decide +kernel
theorem d_Queue_append_37 : decode c_Queue_append 37 = .ok (.return_, 1) := by decide +kernel
theorem d_Queue_takeFront_0 : decode c_Queue_takeFront 0 = .ok (.aload_n 0, 1) := by decide +kernel
theorem d_Queue_takeFront_1 : decode c_Queue_takeFront 1 = .ok (.getfield 19, 3) := by decide +kernel
theorem d_Queue_takeFront_4 : decode c_Queue_takeFront 4 = .ok (.ifCond .ne 5, 3) := by decide +kernel
theorem d_Queue_takeFront_7 : decode c_Queue_takeFront 7 = .ok (.aconst_null, 1) := by decide +kernel
theorem d_Queue_takeFront_8 : decode c_Queue_takeFront 8 = .ok (.areturn, 1) := by decide +kernel
theorem d_Queue_takeFront_9 : decode c_Queue_takeFront 9 = .ok (.aload_n 0, 1) := by decide +kernel
theorem d_Queue_takeFront_10 : decode c_Queue_takeFront 10 = .ok (.getfield 15, 3) := by decide +kernel
theorem d_Queue_takeFront_13 : decode c_Queue_takeFront 13 = .ok (.aload_n 0, 1) := by decide +kernel
theorem d_Queue_takeFront_14 : decode c_Queue_takeFront 14 = .ok (.getfield 23, 3) := by decide +kernel
theorem d_Queue_takeFront_17 : decode c_Queue_takeFront 17 = .ok (.aaload, 1) := by decide +kernel
theorem d_Queue_takeFront_18 : decode c_Queue_takeFront 18 = .ok (.astore_n 1, 1) := by decide +kernel
theorem d_Queue_takeFront_19 : decode c_Queue_takeFront 19 = .ok (.aload_n 0, 1) := by decide +kernel
theorem d_Queue_takeFront_20 : decode c_Queue_takeFront 20 = .ok (.aload_n 0, 1) := by decide +kernel
theorem d_Queue_takeFront_21 : decode c_Queue_takeFront 21 = .ok (.getfield 23, 3) := by decide +kernel
theorem d_Queue_takeFront_24 : decode c_Queue_takeFront 24 = .ok (.iconst 1, 1) := by decide +kernel
theorem d_Queue_takeFront_25 : decode c_Queue_takeFront 25 = .ok (.iadd, 1) := by decide +kernel
theorem d_Queue_takeFront_26 : decode c_Queue_takeFront 26 = .ok (.bipush 48, 2) := by decide +kernel
theorem d_Queue_takeFront_28 : decode c_Queue_takeFront 28 = .ok (.irem, 1) := by decide +kernel
theorem d_Queue_takeFront_29 : decode c_Queue_takeFront 29 = .ok (.putfield 23, 3) := by decide +kernel
theorem d_Queue_takeFront_32 : decode c_Queue_takeFront 32 = .ok (.aload_n 0, 1) := by decide +kernel
theorem d_Queue_takeFront_33 : decode c_Queue_takeFront 33 = .ok (.dup, 1) := by decide +kernel
theorem d_Queue_takeFront_34 : decode c_Queue_takeFront 34 = .ok (.getfield 19, 3) := by decide +kernel
theorem d_Queue_takeFront_37 : decode c_Queue_takeFront 37 = .ok (.iconst 1, 1) := by decide +kernel
theorem d_Queue_takeFront_38 : decode c_Queue_takeFront 38 = .ok (.isub, 1) := by decide +kernel
theorem d_Queue_takeFront_39 : decode c_Queue_takeFront 39 = .ok (.putfield 19, 3) := by decide +kernel
theorem d_Queue_takeFront_42 : decode c_Queue_takeFront 42 = .ok (.aload_n 1, 1) := by decide +kernel
theorem d_Queue_takeFront_43 : decode c_Queue_takeFront 43 = .ok (.areturn, 1) := by decide +kernel
theorem d_Stage_applyTo_0 : decode c_Stage_applyTo 0 = .ok (.aload_n 1, 1) := by decide +kernel
theorem d_Stage_applyTo_1 : decode c_Stage_applyTo 1 = .ok (.getfield 30, 3) := by decide +kernel
theorem d_Stage_applyTo_4 : decode c_Stage_applyTo 4 = .ok (.iconst 1, 1) := by decide +kernel
theorem d_Stage_applyTo_5 : decode c_Stage_applyTo 5 = .ok (.if_icmp .ne 14, 3) := by decide +kernel
theorem d_Stage_applyTo_8 : decode c_Stage_applyTo 8 = .ok (.aload_n 0, 1) := by decide +kernel
theorem d_Stage_applyTo_9 : decode c_Stage_applyTo 9 = .ok (.aload_n 1, 1) := by decide +kernel
theorem d_Stage_applyTo_10 : decode c_Stage_applyTo 10 = .ok (.getfield 41, 3) := by decide +kernel
theorem d_Stage_applyTo_13 : decode c_Stage_applyTo 13 = .ok (.invokevirtual 57, 3) := by decide +kernel
theorem d_Stage_applyTo_16 : decode c_Stage_applyTo 16 = .ok (.goto 8, 3) := by decide +kernel
theorem d_Stage_applyTo_19 : decode c_Stage_applyTo 19 = .ok (.aload_n 0, 1) := by decide +kernel
theorem d_Stage_applyTo_20 : decode c_Stage_applyTo 20 = .ok (.aload_n 1, 1) := by decide +kernel
theorem d_Stage_applyTo_21 : decode c_Stage_applyTo 21 = .ok (.invokevirtual 61, 3) := by decide +kernel
theorem d_Stage_applyTo_24 : decode c_Stage_applyTo 24 = .ok (.return_, 1) := by decide +kernel
theorem d_Stage_useFunction_0 : decode c_Stage_useFunction 0 = .ok (.aload_n 0, 1) := by decide +kernel
theorem d_Stage_useFunction_1 : decode c_Stage_useFunction 1 = .ok (.getfield 16, 3) := by decide +kernel
theorem d_Stage_useFunction_4 : decode c_Stage_useFunction 4 = .ok (.aload_n 0, 1) := by decide +kernel
theorem d_Stage_useFunction_5 : decode c_Stage_useFunction 5 = .ok (.getfield 19, 3) := by decide +kernel
theorem d_Stage_useFunction_8 : decode c_Stage_useFunction 8 = .ok (.iload_n 1, 1) := by decide +kernel
theorem d_Stage_useFunction_9 : decode c_Stage_useFunction 9 = .ok (.invokestatic 48, 3) := by decide +kernel
theorem d_Stage_useFunction_12 : decode c_Stage_useFunction 12 = .ok (.istore_n 2, 1) := by decide +kernel
theorem d_Stage_useFunction_13 : decode c_Stage_useFunction 13 = .ok (.iload_n 2, 1) := by decide +kernel
theorem d_Stage_useFunction_14 : decode c_Stage_useFunction 14 = .ok (.ifCond .eq 12, 3) := by decide +kernel
theorem d_Stage_useFunction_17 : decode c_Stage_useFunction 17 = .ok (.aload_n 0, 1) := by decide +kernel
theorem d_Stage_useFunction_18 : decode c_Stage_useFunction 18 = .ok (.iconst 3, 1) := by decide +kernel
theorem d_Stage_useFunction_19 : decode c_Stage_useFunction 19 = .ok (.iload_n 2, 1) := by decide +kernel
theorem d_Stage_useFunction_20 : decode c_Stage_useFunction 20 = .ok (.invokevirtual 44, 3) := by decide +kernel
theorem d_Stage_useFunction_23 : decode c_Stage_useFunction 23 = .ok (.goto 20, 3) := by decide +kernel
theorem d_Stage_useFunction_26 : decode c_Stage_useFunction 26 = .ok (.aload_n 0, 1) := by decide +kernel
theorem d_Stage_useFunction_27 : decode c_Stage_useFunction 27 = .ok (.iconst 1, 1) := by decide +kernel
theorem d_Stage_useFunction_28 : decode c_Stage_useFunction 28 = .ok (.aload_n 0, 1) := by decide +kernel
theorem d_Stage_useFunction_29 : decode c_Stage_useFunction 29 = .ok (.getfield 16, 3) := by decide +kernel
theorem d_Stage_useFunction_32 : decode c_Stage_useFunction 32 = .ok (.aload_n 0, 1) := by decide +kernel
theorem d_Stage_useFunction_33 : decode c_Stage_useFunction 33 = .ok (.getfield 19, 3) := by decide +kernel
theorem d_Stage_useFunction_36 : decode c_Stage_useFunction 36 = .ok (.iload_n 1, 1) := by decide +kernel
theorem d_Stage_useFunction_37 : decode c_Stage_useFunction 37 = .ok (.invokestatic 54, 3) := by decide +kernel
theorem d_Stage_useFunction_40 : decode c_Stage_useFunction 40 = .ok (.invokevirtual 44, 3) := by decide +kernel
theorem d_Stage_useFunction_43 : decode c_Stage_useFunction 43 = .ok (.return_, 1) := by decide +kernel
theorem d_Fn_thrownFor_0 : decode c_Fn_thrownFor 0 = .ok (.iload_n 0, 1) := by decide +kernel
theorem d_Fn_thrownFor_1 : decode c_Fn_thrownFor 1 = .ok (.tableswitch 65 2 5 #[31, 47, 65, 54], 31) := by decide +kernel
theorem d_Fn_thrownFor_32 : decode c_Fn_thrownFor 32 = .ok (.iload_n 2, 1) := by decide +kernel
theorem d_Fn_thrownFor_33 : decode c_Fn_thrownFor 33 = .ok (.iload_n 1, 1) := by decide +kernel
theorem d_Fn_thrownFor_34 : decode c_Fn_thrownFor 34 = .ok (.if_icmp .ne 12, 3) := by decide +kernel
theorem d_Fn_thrownFor_37 : decode c_Fn_thrownFor 37 = .ok (.iconst 1, 1) := by decide +kernel
theorem d_Fn_thrownFor_38 : decode c_Fn_thrownFor 38 = .ok (.iload_n 1, 1) := by decide +kernel
theorem d_Fn_thrownFor_39 : decode c_Fn_thrownFor 39 = .ok (.bipush 7, 2) := by decide +kernel
theorem d_Fn_thrownFor_41 : decode c_Fn_thrownFor 41 = .ok (.iand, 1) := by decide +kernel
theorem d_Fn_thrownFor_42 : decode c_Fn_thrownFor 42 = .ok (.iadd, 1) := by decide +kernel
theorem d_Fn_thrownFor_43 : decode c_Fn_thrownFor 43 = .ok (.goto 4, 3) := by decide +kernel
theorem d_Fn_thrownFor_46 : decode c_Fn_thrownFor 46 = .ok (.iconst 0, 1) := by decide +kernel
theorem d_Fn_thrownFor_47 : decode c_Fn_thrownFor 47 = .ok (.ireturn, 1) := by decide +kernel
theorem d_Fn_thrownFor_48 : decode c_Fn_thrownFor 48 = .ok (.iconst 1, 1) := by decide +kernel
theorem d_Fn_thrownFor_49 : decode c_Fn_thrownFor 49 = .ok (.iload_n 1, 1) := by decide +kernel
theorem d_Fn_thrownFor_50 : decode c_Fn_thrownFor 50 = .ok (.bipush 7, 2) := by decide +kernel
theorem d_Fn_thrownFor_52 : decode c_Fn_thrownFor 52 = .ok (.iand, 1) := by decide +kernel
theorem d_Fn_thrownFor_53 : decode c_Fn_thrownFor 53 = .ok (.iadd, 1) := by decide +kernel
theorem d_Fn_thrownFor_54 : decode c_Fn_thrownFor 54 = .ok (.ireturn, 1) := by decide +kernel
theorem d_Fn_thrownFor_55 : decode c_Fn_thrownFor 55 = .ok (.iload_n 1, 1) := by decide +kernel
theorem d_Fn_thrownFor_56 : decode c_Fn_thrownFor 56 = .ok (.ifCond .ne 8, 3) := by decide +kernel
theorem d_Fn_thrownFor_59 : decode c_Fn_thrownFor 59 = .ok (.bipush 9, 2) := by decide +kernel
theorem d_Fn_thrownFor_61 : decode c_Fn_thrownFor 61 = .ok (.goto 4, 3) := by decide +kernel
theorem d_Fn_thrownFor_64 : decode c_Fn_thrownFor 64 = .ok (.iconst 0, 1) := by decide +kernel
theorem d_Fn_thrownFor_65 : decode c_Fn_thrownFor 65 = .ok (.ireturn, 1) := by decide +kernel
theorem d_Fn_thrownFor_66 : decode c_Fn_thrownFor 66 = .ok (.iconst 0, 1) := by decide +kernel
theorem d_Fn_thrownFor_67 : decode c_Fn_thrownFor 67 = .ok (.ireturn, 1) := by decide +kernel
theorem d_Fn_madeOf_0 : decode c_Fn_madeOf 0 = .ok (.iload_n 0, 1) := by decide +kernel
theorem d_Fn_madeOf_1 : decode c_Fn_madeOf 1 = .ok (.tableswitch 61 0 5 #[39, 43, 61, 61, 47, 49], 39) := by decide +kernel
theorem d_Fn_madeOf_40 : decode c_Fn_madeOf 40 = .ok (.iload_n 2, 1) := by decide +kernel
theorem d_Fn_madeOf_41 : decode c_Fn_madeOf 41 = .ok (.iload_n 1, 1) := by decide +kernel
theorem d_Fn_madeOf_42 : decode c_Fn_madeOf 42 = .ok (.iadd, 1) := by decide +kernel
theorem d_Fn_madeOf_43 : decode c_Fn_madeOf 43 = .ok (.ireturn, 1) := by decide +kernel
theorem d_Fn_madeOf_44 : decode c_Fn_madeOf 44 = .ok (.iload_n 2, 1) := by decide +kernel
theorem d_Fn_madeOf_45 : decode c_Fn_madeOf 45 = .ok (.iload_n 1, 1) := by decide +kernel
theorem d_Fn_madeOf_46 : decode c_Fn_madeOf 46 = .ok (.imul, 1) := by decide +kernel
theorem d_Fn_madeOf_47 : decode c_Fn_madeOf 47 = .ok (.ireturn, 1) := by decide +kernel
theorem d_Fn_madeOf_48 : decode c_Fn_madeOf 48 = .ok (.iload_n 1, 1) := by decide +kernel
theorem d_Fn_madeOf_49 : decode c_Fn_madeOf 49 = .ok (.ireturn, 1) := by decide +kernel
theorem d_Fn_madeOf_50 : decode c_Fn_madeOf 50 = .ok (.iload_n 1, 1) := by decide +kernel
theorem d_Fn_madeOf_51 : decode c_Fn_madeOf 51 = .ok (.ifCond .ne 7, 3) := by decide +kernel
theorem d_Fn_madeOf_54 : decode c_Fn_madeOf 54 = .ok (.iconst 0, 1) := by decide +kernel
theorem d_Fn_madeOf_55 : decode c_Fn_madeOf 55 = .ok (.goto 6, 3) := by decide +kernel
theorem d_Fn_madeOf_58 : decode c_Fn_madeOf 58 = .ok (.iload_n 2, 1) := by decide +kernel
theorem d_Fn_madeOf_59 : decode c_Fn_madeOf 59 = .ok (.iload_n 1, 1) := by decide +kernel
theorem d_Fn_madeOf_60 : decode c_Fn_madeOf 60 = .ok (.idiv, 1) := by decide +kernel
theorem d_Fn_madeOf_61 : decode c_Fn_madeOf 61 = .ok (.ireturn, 1) := by decide +kernel
theorem d_Fn_madeOf_62 : decode c_Fn_madeOf 62 = .ok (.iload_n 2, 1) := by decide +kernel
theorem d_Fn_madeOf_63 : decode c_Fn_madeOf 63 = .ok (.ireturn, 1) := by decide +kernel
theorem d_Stage_follow_0 : decode c_Stage_follow 0 = .ok (.aload_n 0, 1) := by decide +kernel
theorem d_Stage_follow_1 : decode c_Stage_follow 1 = .ok (.aload_n 1, 1) := by decide +kernel
theorem d_Stage_follow_2 : decode c_Stage_follow 2 = .ok (.getfield 30, 3) := by decide +kernel
theorem d_Stage_follow_5 : decode c_Stage_follow 5 = .ok (.iconst 1, 1) := by decide +kernel
theorem d_Stage_follow_6 : decode c_Stage_follow 6 = .ok (.if_icmp .ne 7, 3) := by decide +kernel
theorem d_Stage_follow_9 : decode c_Stage_follow 9 = .ok (.iconst 1, 1) := by decide +kernel
theorem d_Stage_follow_10 : decode c_Stage_follow 10 = .ok (.goto 4, 3) := by decide +kernel
theorem d_Stage_follow_13 : decode c_Stage_follow 13 = .ok (.iconst 3, 1) := by decide +kernel
theorem d_Stage_follow_14 : decode c_Stage_follow 14 = .ok (.aload_n 1, 1) := by decide +kernel
theorem d_Stage_follow_15 : decode c_Stage_follow 15 = .ok (.getfield 41, 3) := by decide +kernel
theorem d_Stage_follow_18 : decode c_Stage_follow 18 = .ok (.invokevirtual 44, 3) := by decide +kernel
theorem d_Stage_follow_21 : decode c_Stage_follow 21 = .ok (.return_, 1) := by decide +kernel
theorem d_Stage_recoverFrom_0 : decode c_Stage_recoverFrom 0 = .ok (.aload_n 1, 1) := by decide +kernel
theorem d_Stage_recoverFrom_1 : decode c_Stage_recoverFrom 1 = .ok (.getfield 30, 3) := by decide +kernel
theorem d_Stage_recoverFrom_4 : decode c_Stage_recoverFrom 4 = .ok (.iconst 1, 1) := by decide +kernel
theorem d_Stage_recoverFrom_5 : decode c_Stage_recoverFrom 5 = .ok (.if_icmp .ne 11, 3) := by decide +kernel
theorem d_Stage_recoverFrom_8 : decode c_Stage_recoverFrom 8 = .ok (.aload_n 0, 1) := by decide +kernel
theorem d_Stage_recoverFrom_9 : decode c_Stage_recoverFrom 9 = .ok (.aload_n 1, 1) := by decide +kernel
theorem d_Stage_recoverFrom_10 : decode c_Stage_recoverFrom 10 = .ok (.invokevirtual 61, 3) := by decide +kernel
theorem d_Stage_recoverFrom_13 : decode c_Stage_recoverFrom 13 = .ok (.goto 11, 3) := by decide +kernel
theorem d_Stage_recoverFrom_16 : decode c_Stage_recoverFrom 16 = .ok (.aload_n 0, 1) := by decide +kernel
theorem d_Stage_recoverFrom_17 : decode c_Stage_recoverFrom 17 = .ok (.aload_n 1, 1) := by decide +kernel
theorem d_Stage_recoverFrom_18 : decode c_Stage_recoverFrom 18 = .ok (.getfield 41, 3) := by decide +kernel
theorem d_Stage_recoverFrom_21 : decode c_Stage_recoverFrom 21 = .ok (.invokevirtual 57, 3) := by decide +kernel
theorem d_Stage_recoverFrom_24 : decode c_Stage_recoverFrom 24 = .ok (.return_, 1) := by decide +kernel
theorem d_Stage_handle_0 : decode c_Stage_handle 0 = .ok (.aload_n 0, 1) := by decide +kernel
theorem d_Stage_handle_1 : decode c_Stage_handle 1 = .ok (.aload_n 1, 1) := by decide +kernel
theorem d_Stage_handle_2 : decode c_Stage_handle 2 = .ok (.getfield 30, 3) := by decide +kernel
theorem d_Stage_handle_5 : decode c_Stage_handle 5 = .ok (.iconst 1, 1) := by decide +kernel
theorem d_Stage_handle_6 : decode c_Stage_handle 6 = .ok (.if_icmp .ne 10, 3) := by decide +kernel
theorem d_Stage_handle_9 : decode c_Stage_handle 9 = .ok (.aload_n 1, 1) := by decide +kernel
theorem d_Stage_handle_10 : decode c_Stage_handle 10 = .ok (.getfield 41, 3) := by decide +kernel
theorem d_Stage_handle_13 : decode c_Stage_handle 13 = .ok (.goto 9, 3) := by decide +kernel
theorem d_Stage_handle_16 : decode c_Stage_handle 16 = .ok (.iconst (-1), 1) := by decide +kernel
theorem d_Stage_handle_17 : decode c_Stage_handle 17 = .ok (.aload_n 1, 1) := by decide +kernel
theorem d_Stage_handle_18 : decode c_Stage_handle 18 = .ok (.getfield 41, 3) := by decide +kernel
theorem d_Stage_handle_21 : decode c_Stage_handle 21 = .ok (.isub, 1) := by decide +kernel
theorem d_Stage_handle_22 : decode c_Stage_handle 22 = .ok (.invokevirtual 57, 3) := by decide +kernel
theorem d_Stage_handle_25 : decode c_Stage_handle 25 = .ok (.return_, 1) := by decide +kernel
theorem d_Stage_watch_0 : decode c_Stage_watch 0 = .ok (.aload_n 0, 1) := by decide +kernel
theorem d_Stage_watch_1 : decode c_Stage_watch 1 = .ok (.getfield 16, 3) := by decide +kernel
theorem d_Stage_watch_4 : decode c_Stage_watch 4 = .ok (.aload_n 0, 1) := by decide +kernel
theorem d_Stage_watch_5 : decode c_Stage_watch 5 = .ok (.getfield 19, 3) := by decide +kernel
theorem d_Stage_watch_8 : decode c_Stage_watch 8 = .ok (.aload_n 1, 1) := by decide +kernel
theorem d_Stage_watch_9 : decode c_Stage_watch 9 = .ok (.getfield 41, 3) := by decide +kernel
theorem d_Stage_watch_12 : decode c_Stage_watch 12 = .ok (.invokestatic 48, 3) := by decide +kernel
theorem d_Stage_watch_15 : decode c_Stage_watch 15 = .ok (.istore_n 2, 1) := by decide +kernel
theorem d_Stage_watch_16 : decode c_Stage_watch 16 = .ok (.aload_n 1, 1) := by decide +kernel
theorem d_Stage_watch_17 : decode c_Stage_watch 17 = .ok (.getfield 30, 3) := by decide +kernel
theorem d_Stage_watch_20 : decode c_Stage_watch 20 = .ok (.iconst 1, 1) := by decide +kernel
theorem d_Stage_watch_21 : decode c_Stage_watch 21 = .ok (.if_icmp .ne 16, 3) := by decide +kernel
theorem d_Stage_watch_24 : decode c_Stage_watch 24 = .ok (.iload_n 2, 1) := by decide +kernel
theorem d_Stage_watch_25 : decode c_Stage_watch 25 = .ok (.ifCond .eq 12, 3) := by decide +kernel
theorem d_Stage_watch_28 : decode c_Stage_watch 28 = .ok (.aload_n 0, 1) := by decide +kernel
theorem d_Stage_watch_29 : decode c_Stage_watch 29 = .ok (.iconst 3, 1) := by decide +kernel
theorem d_Stage_watch_30 : decode c_Stage_watch 30 = .ok (.iload_n 2, 1) := by decide +kernel
theorem d_Stage_watch_31 : decode c_Stage_watch 31 = .ok (.invokevirtual 44, 3) := by decide +kernel
theorem d_Stage_watch_34 : decode c_Stage_watch 34 = .ok (.goto 8, 3) := by decide +kernel
theorem d_Stage_watch_37 : decode c_Stage_watch 37 = .ok (.aload_n 0, 1) := by decide +kernel
theorem d_Stage_watch_38 : decode c_Stage_watch 38 = .ok (.aload_n 1, 1) := by decide +kernel
theorem d_Stage_watch_39 : decode c_Stage_watch 39 = .ok (.invokevirtual 61, 3) := by decide +kernel
theorem d_Stage_watch_42 : decode c_Stage_watch 42 = .ok (.return_, 1) := by decide +kernel
theorem d_Stage_combine_0 : decode c_Stage_combine 0 = .ok (.aload_n 1, 1) := by decide +kernel
theorem d_Stage_combine_1 : decode c_Stage_combine 1 = .ok (.getfield 30, 3) := by decide +kernel
theorem d_Stage_combine_4 : decode c_Stage_combine 4 = .ok (.iconst 1, 1) := by decide +kernel
theorem d_Stage_combine_5 : decode c_Stage_combine 5 = .ok (.if_icmp .eq 11, 3) := by decide +kernel
theorem d_Stage_combine_8 : decode c_Stage_combine 8 = .ok (.aload_n 0, 1) := by decide +kernel
theorem d_Stage_combine_9 : decode c_Stage_combine 9 = .ok (.aload_n 1, 1) := by decide +kernel
theorem d_Stage_combine_10 : decode c_Stage_combine 10 = .ok (.invokevirtual 61, 3) := by decide +kernel
theorem d_Stage_combine_13 : decode c_Stage_combine 13 = .ok (.goto 32, 3) := by decide +kernel
theorem d_Stage_combine_16 : decode c_Stage_combine 16 = .ok (.aload_n 2, 1) := by decide +kernel
theorem d_Stage_combine_17 : decode c_Stage_combine 17 = .ok (.getfield 30, 3) := by decide +kernel
theorem d_Stage_combine_20 : decode c_Stage_combine 20 = .ok (.iconst 1, 1) := by decide +kernel
theorem d_Stage_combine_21 : decode c_Stage_combine 21 = .ok (.if_icmp .eq 11, 3) := by decide +kernel
theorem d_Stage_combine_24 : decode c_Stage_combine 24 = .ok (.aload_n 0, 1) := by decide +kernel
theorem d_Stage_combine_25 : decode c_Stage_combine 25 = .ok (.aload_n 2, 1) := by decide +kernel
theorem d_Stage_combine_26 : decode c_Stage_combine 26 = .ok (.invokevirtual 61, 3) := by decide +kernel
theorem d_Stage_combine_29 : decode c_Stage_combine 29 = .ok (.goto 16, 3) := by decide +kernel
theorem d_Stage_combine_32 : decode c_Stage_combine 32 = .ok (.aload_n 0, 1) := by decide +kernel
theorem d_Stage_combine_33 : decode c_Stage_combine 33 = .ok (.aload_n 1, 1) := by decide +kernel
theorem d_Stage_combine_34 : decode c_Stage_combine 34 = .ok (.getfield 41, 3) := by decide +kernel
theorem d_Stage_combine_37 : decode c_Stage_combine 37 = .ok (.aload_n 2, 1) := by decide +kernel
theorem d_Stage_combine_38 : decode c_Stage_combine 38 = .ok (.getfield 41, 3) := by decide +kernel
theorem d_Stage_combine_41 : decode c_Stage_combine 41 = .ok (.iadd, 1) := by decide +kernel
theorem d_Stage_combine_42 : decode c_Stage_combine 42 = .ok (.invokevirtual 57, 3) := by decide +kernel
theorem d_Stage_combine_45 : decode c_Stage_combine 45 = .ok (.return_, 1) := by decide +kernel
theorem d_Stage_firstSettledInput_0 : decode c_Stage_firstSettledInput 0 = .ok (.aload_n 0, 1) := by decide +kernel
theorem d_Stage_firstSettledInput_1 : decode c_Stage_firstSettledInput 1 = .ok (.getfield 26, 3) := by decide +kernel
theorem d_Stage_firstSettledInput_4 : decode c_Stage_firstSettledInput 4 = .ok (.iconst 0, 1) := by decide +kernel
theorem d_Stage_firstSettledInput_5 : decode c_Stage_firstSettledInput 5 = .ok (.aaload, 1) := by decide +kernel
theorem d_Stage_firstSettledInput_6 : decode c_Stage_firstSettledInput 6 = .ok (.astore_n 1, 1) := by decide +kernel
theorem d_Stage_firstSettledInput_7 : decode c_Stage_firstSettledInput 7 = .ok (.iconst 1, 1) := by decide +kernel
theorem d_Stage_firstSettledInput_8 : decode c_Stage_firstSettledInput 8 = .ok (.istore_n 2, 1) := by decide +kernel
theorem d_Stage_firstSettledInput_9 : decode c_Stage_firstSettledInput 9 = .ok (.iload_n 2, 1) := by decide +kernel
theorem d_Stage_firstSettledInput_10 : decode c_Stage_firstSettledInput 10 = .ok (.aload_n 0, 1) := by decide +kernel
theorem d_Stage_firstSettledInput_11 : decode c_Stage_firstSettledInput 11 = .ok (.getfield 26, 3) := by decide +kernel
theorem d_Stage_firstSettledInput_14 : decode c_Stage_firstSettledInput 14 = .ok (.arraylength, 1) := by decide +kernel
theorem d_Stage_firstSettledInput_15 : decode c_Stage_firstSettledInput 15 = .ok (.if_icmp .ge 32, 3) := by decide +kernel
theorem d_Stage_firstSettledInput_18 : decode c_Stage_firstSettledInput 18 = .ok (.aload_n 0, 1) := by decide +kernel
theorem d_Stage_firstSettledInput_19 : decode c_Stage_firstSettledInput 19 = .ok (.getfield 26, 3) := by decide +kernel
theorem d_Stage_firstSettledInput_22 : decode c_Stage_firstSettledInput 22 = .ok (.iload_n 2, 1) := by decide +kernel
theorem d_Stage_firstSettledInput_23 : decode c_Stage_firstSettledInput 23 = .ok (.aaload, 1) := by decide +kernel
theorem d_Stage_firstSettledInput_24 : decode c_Stage_firstSettledInput 24 = .ok (.getfield 34, 3) := by decide +kernel
theorem d_Stage_firstSettledInput_27 : decode c_Stage_firstSettledInput 27 = .ok (.aload_n 1, 1) := by decide +kernel
theorem d_Stage_firstSettledInput_28 : decode c_Stage_firstSettledInput 28 = .ok (.getfield 34, 3) := by decide +kernel
theorem d_Stage_firstSettledInput_31 : decode c_Stage_firstSettledInput 31 = .ok (.if_icmp .ge 10, 3) := by decide +kernel
theorem d_Stage_firstSettledInput_34 : decode c_Stage_firstSettledInput 34 = .ok (.aload_n 0, 1) := by decide +kernel
theorem d_Stage_firstSettledInput_35 : decode c_Stage_firstSettledInput 35 = .ok (.getfield 26, 3) := by decide +kernel
theorem d_Stage_firstSettledInput_38 : decode c_Stage_firstSettledInput 38 = .ok (.iload_n 2, 1) := by decide +kernel
theorem d_Stage_firstSettledInput_39 : decode c_Stage_firstSettledInput 39 = .ok (.aaload, 1) := by decide +kernel
theorem d_Stage_firstSettledInput_40 : decode c_Stage_firstSettledInput 40 = .ok (.astore_n 1, 1) := by decide +kernel
theorem d_Stage_firstSettledInput_41 : decode c_Stage_firstSettledInput 41 = .ok (.iinc 2 1, 3) := by decide +kernel
theorem d_Stage_firstSettledInput_44 : decode c_Stage_firstSettledInput 44 = .ok (.goto (-35), 3) := by decide +kernel
theorem d_Stage_firstSettledInput_47 : decode c_Stage_firstSettledInput 47 = .ok (.aload_n 1, 1) := by decide +kernel
theorem d_Stage_firstSettledInput_48 : decode c_Stage_firstSettledInput 48 = .ok (.areturn, 1) := by decide +kernel
theorem d_Stage_sumUp_0 : decode c_Stage_sumUp 0 = .ok (.iconst 0, 1) := by decide +kernel
theorem d_Stage_sumUp_1 : decode c_Stage_sumUp 1 = .ok (.istore_n 1, 1) := by decide +kernel
theorem d_Stage_sumUp_2 : decode c_Stage_sumUp 2 = .ok (.iconst 0, 1) := by decide +kernel
theorem d_Stage_sumUp_3 : decode c_Stage_sumUp 3 = .ok (.istore_n 2, 1) := by decide +kernel
theorem d_Stage_sumUp_4 : decode c_Stage_sumUp 4 = .ok (.iload_n 2, 1) := by decide +kernel
theorem d_Stage_sumUp_5 : decode c_Stage_sumUp 5 = .ok (.aload_n 0, 1) := by decide +kernel
theorem d_Stage_sumUp_6 : decode c_Stage_sumUp 6 = .ok (.getfield 26, 3) := by decide +kernel
theorem d_Stage_sumUp_9 : decode c_Stage_sumUp 9 = .ok (.arraylength, 1) := by decide +kernel
theorem d_Stage_sumUp_10 : decode c_Stage_sumUp 10 = .ok (.if_icmp .ge 45, 3) := by decide +kernel
theorem d_Stage_sumUp_13 : decode c_Stage_sumUp 13 = .ok (.aload_n 0, 1) := by decide +kernel
theorem d_Stage_sumUp_14 : decode c_Stage_sumUp 14 = .ok (.getfield 26, 3) := by decide +kernel
theorem d_Stage_sumUp_17 : decode c_Stage_sumUp 17 = .ok (.iload_n 2, 1) := by decide +kernel
theorem d_Stage_sumUp_18 : decode c_Stage_sumUp 18 = .ok (.aaload, 1) := by decide +kernel
theorem d_Stage_sumUp_19 : decode c_Stage_sumUp 19 = .ok (.getfield 30, 3) := by decide +kernel
theorem d_Stage_sumUp_22 : decode c_Stage_sumUp 22 = .ok (.iconst 1, 1) := by decide +kernel
theorem d_Stage_sumUp_23 : decode c_Stage_sumUp 23 = .ok (.if_icmp .eq 14, 3) := by decide +kernel
theorem d_Stage_sumUp_26 : decode c_Stage_sumUp 26 = .ok (.aload_n 0, 1) := by decide +kernel
theorem d_Stage_sumUp_27 : decode c_Stage_sumUp 27 = .ok (.aload_n 0, 1) := by decide +kernel
theorem d_Stage_sumUp_28 : decode c_Stage_sumUp 28 = .ok (.getfield 26, 3) := by decide +kernel
theorem d_Stage_sumUp_31 : decode c_Stage_sumUp 31 = .ok (.iload_n 2, 1) := by decide +kernel
theorem d_Stage_sumUp_32 : decode c_Stage_sumUp 32 = .ok (.aaload, 1) := by decide +kernel
theorem d_Stage_sumUp_33 : decode c_Stage_sumUp 33 = .ok (.invokevirtual 61, 3) := by decide +kernel
theorem d_Stage_sumUp_36 : decode c_Stage_sumUp 36 = .ok (.return_, 1) := by decide +kernel
theorem d_Stage_sumUp_37 : decode c_Stage_sumUp 37 = .ok (.iload_n 1, 1) := by decide +kernel
theorem d_Stage_sumUp_38 : decode c_Stage_sumUp 38 = .ok (.aload_n 0, 1) := by decide +kernel
theorem d_Stage_sumUp_39 : decode c_Stage_sumUp 39 = .ok (.getfield 26, 3) := by decide +kernel
theorem d_Stage_sumUp_42 : decode c_Stage_sumUp 42 = .ok (.iload_n 2, 1) := by decide +kernel
theorem d_Stage_sumUp_43 : decode c_Stage_sumUp 43 = .ok (.aaload, 1) := by decide +kernel
theorem d_Stage_sumUp_44 : decode c_Stage_sumUp 44 = .ok (.getfield 41, 3) := by decide +kernel
theorem d_Stage_sumUp_47 : decode c_Stage_sumUp 47 = .ok (.iadd, 1) := by decide +kernel
theorem d_Stage_sumUp_48 : decode c_Stage_sumUp 48 = .ok (.istore_n 1, 1) := by decide +kernel
theorem d_Stage_sumUp_49 : decode c_Stage_sumUp 49 = .ok (.iinc 2 1, 3) := by decide +kernel
theorem d_Stage_sumUp_52 : decode c_Stage_sumUp 52 = .ok (.goto (-48), 3) := by decide +kernel
theorem d_Stage_sumUp_55 : decode c_Stage_sumUp 55 = .ok (.aload_n 0, 1) := by decide +kernel
theorem d_Stage_sumUp_56 : decode c_Stage_sumUp 56 = .ok (.iconst 1, 1) := by decide +kernel
theorem d_Stage_sumUp_57 : decode c_Stage_sumUp 57 = .ok (.iload_n 1, 1) := by decide +kernel
theorem d_Stage_sumUp_58 : decode c_Stage_sumUp 58 = .ok (.invokevirtual 44, 3) := by decide +kernel
theorem d_Stage_sumUp_61 : decode c_Stage_sumUp 61 = .ok (.return_, 1) := by decide +kernel
theorem d_Queue_placeOf_0 : decode c_Queue_placeOf 0 = .ok (.iconst 0, 1) := by decide +kernel
theorem d_Queue_placeOf_1 : decode c_Queue_placeOf 1 = .ok (.istore_n 2, 1) := by decide +kernel
theorem d_Queue_placeOf_2 : decode c_Queue_placeOf 2 = .ok (.iload_n 2, 1) := by decide +kernel
theorem d_Queue_placeOf_3 : decode c_Queue_placeOf 3 = .ok (.aload_n 0, 1) := by decide +kernel
theorem d_Queue_placeOf_4 : decode c_Queue_placeOf 4 = .ok (.getfield 19, 3) := by decide +kernel
theorem d_Queue_placeOf_7 : decode c_Queue_placeOf 7 = .ok (.if_icmp .ge 29, 3) := by decide +kernel
theorem d_Queue_placeOf_10 : decode c_Queue_placeOf 10 = .ok (.aload_n 0, 1) := by decide +kernel
theorem d_Queue_placeOf_11 : decode c_Queue_placeOf 11 = .ok (.getfield 15, 3) := by decide +kernel
theorem d_Queue_placeOf_14 : decode c_Queue_placeOf 14 = .ok (.aload_n 0, 1) := by decide +kernel
theorem d_Queue_placeOf_15 : decode c_Queue_placeOf 15 = .ok (.getfield 23, 3) := by decide +kernel
theorem d_Queue_placeOf_18 : decode c_Queue_placeOf 18 = .ok (.iload_n 2, 1) := by decide +kernel
theorem d_Queue_placeOf_19 : decode c_Queue_placeOf 19 = .ok (.iadd, 1) := by decide +kernel
theorem d_Queue_placeOf_20 : decode c_Queue_placeOf 20 = .ok (.bipush 48, 2) := by decide +kernel
theorem d_Queue_placeOf_22 : decode c_Queue_placeOf 22 = .ok (.irem, 1) := by decide +kernel
theorem d_Queue_placeOf_23 : decode c_Queue_placeOf 23 = .ok (.aaload, 1) := by decide +kernel
theorem d_Queue_placeOf_24 : decode c_Queue_placeOf 24 = .ok (.aload_n 1, 1) := by decide +kernel
theorem d_Queue_placeOf_25 : decode c_Queue_placeOf 25 = .ok (.if_acmp .ne 5, 3) := by decide +kernel
theorem d_Queue_placeOf_28 : decode c_Queue_placeOf 28 = .ok (.iload_n 2, 1) := by decide +kernel
theorem d_Queue_placeOf_29 : decode c_Queue_placeOf 29 = .ok (.ireturn, 1) := by decide +kernel
theorem d_Queue_placeOf_30 : decode c_Queue_placeOf 30 = .ok (.iinc 2 1, 3) := by decide +kernel
theorem d_Queue_placeOf_33 : decode c_Queue_placeOf 33 = .ok (.goto (-31), 3) := by decide +kernel
theorem d_Queue_placeOf_36 : decode c_Queue_placeOf 36 = .ok (.iconst (-1), 1) := by decide +kernel
theorem d_Queue_placeOf_37 : decode c_Queue_placeOf 37 = .ok (.ireturn, 1) := by decide +kernel
theorem d_Queue_length_0 : decode c_Queue_length 0 = .ok (.aload_n 0, 1) := by decide +kernel
theorem d_Queue_length_1 : decode c_Queue_length 1 = .ok (.getfield 19, 3) := by decide +kernel
theorem d_Queue_length_4 : decode c_Queue_length 4 = .ok (.ireturn, 1) := by decide +kernel
theorem d_Stage_init_0 : decode c_Stage_init 0 = .ok (.aload_n 0, 1) := by decide +kernel
theorem d_Stage_init_1 : decode c_Stage_init 1 = .ok (.invokespecial 1, 3) := by decide +kernel
theorem d_Stage_init_4 : decode c_Stage_init 4 = .ok (.aload_n 0, 1) := by decide +kernel
theorem d_Stage_init_5 : decode c_Stage_init 5 = .ok (.iload_n 1, 1) := by decide +kernel
theorem d_Stage_init_6 : decode c_Stage_init 6 = .ok (.putfield 7, 3) := by decide +kernel
theorem d_Stage_init_9 : decode c_Stage_init 9 = .ok (.aload_n 0, 1) := by decide +kernel
theorem d_Stage_init_10 : decode c_Stage_init 10 = .ok (.iload_n 2, 1) := by decide +kernel
theorem d_Stage_init_11 : decode c_Stage_init 11 = .ok (.putfield 13, 3) := by decide +kernel
theorem d_Stage_init_14 : decode c_Stage_init 14 = .ok (.aload_n 0, 1) := by decide +kernel
theorem d_Stage_init_15 : decode c_Stage_init 15 = .ok (.iload_n 3, 1) := by decide +kernel
theorem d_Stage_init_16 : decode c_Stage_init 16 = .ok (.putfield 16, 3) := by decide +kernel
theorem d_Stage_init_19 : decode c_Stage_init 19 = .ok (.aload_n 0, 1) := by decide +kernel
theorem d_Stage_init_20 : decode c_Stage_init 20 = .ok (.iload 4, 2) := by decide +kernel
theorem d_Stage_init_22 : decode c_Stage_init 22 = .ok (.putfield 19, 3) := by decide +kernel
theorem d_Stage_init_25 : decode c_Stage_init 25 = .ok (.aload_n 0, 1) := by decide +kernel
theorem d_Stage_init_26 : decode c_Stage_init 26 = .ok (.iload 5, 2) := by decide +kernel
theorem d_Stage_init_28 : decode c_Stage_init 28 = .ok (.putfield 22, 3) := by decide +kernel
theorem d_Stage_init_31 : decode c_Stage_init 31 = .ok (.aload_n 0, 1) := by decide +kernel
theorem d_Stage_init_32 : decode c_Stage_init 32 = .ok (.aload 6, 2) := by decide +kernel
theorem d_Stage_init_34 : decode c_Stage_init 34 = .ok (.putfield 26, 3) := by decide +kernel
theorem d_Stage_init_37 : decode c_Stage_init 37 = .ok (.aload_n 0, 1) := by decide +kernel
theorem d_Stage_init_38 : decode c_Stage_init 38 = .ok (.iconst 0, 1) := by decide +kernel
theorem d_Stage_init_39 : decode c_Stage_init 39 = .ok (.putfield 30, 3) := by decide +kernel
theorem d_Stage_init_42 : decode c_Stage_init 42 = .ok (.aload_n 0, 1) := by decide +kernel
theorem d_Stage_init_43 : decode c_Stage_init 43 = .ok (.ldc 33, 2) := by decide +kernel
theorem d_Stage_init_45 : decode c_Stage_init 45 = .ok (.putfield 34, 3) := by decide +kernel
theorem d_Stage_init_48 : decode c_Stage_init 48 = .ok (.return_, 1) := by decide +kernel
theorem d_Fn_has_0 : decode c_Fn_has 0 = .ok (.iload_n 0, 1) := by decide +kernel
theorem d_Fn_has_1 : decode c_Fn_has 1 = .ok (.ifCond .lt 12, 3) := by decide +kernel
theorem d_Fn_has_4 : decode c_Fn_has 4 = .ok (.iload_n 0, 1) := by decide +kernel
theorem d_Fn_has_5 : decode c_Fn_has 5 = .ok (.iconst 5, 1) := by decide +kernel
theorem d_Fn_has_6 : decode c_Fn_has 6 = .ok (.if_icmp .gt 7, 3) := by decide +kernel
theorem d_Fn_has_9 : decode c_Fn_has 9 = .ok (.iconst 1, 1) := by decide +kernel
theorem d_Fn_has_10 : decode c_Fn_has 10 = .ok (.goto 4, 3) := by decide +kernel
theorem d_Fn_has_13 : decode c_Fn_has 13 = .ok (.iconst 0, 1) := by decide +kernel
theorem d_Fn_has_14 : decode c_Fn_has 14 = .ok (.ireturn, 1) := by decide +kernel
end
section
/-! decode rows (by walk.py) -/
theorem d_Graph_init_0 : decode c_Graph_init 0 = .ok (.aload_n 0, 1) := by decide +kernel
theorem d_Graph_init_1 : decode c_Graph_init 1 = .ok (.invokespecial 3, 3) := by decide +kernel
theorem d_Graph_init_4 : decode c_Graph_init 4 = .ok (.aload_n 0, 1) := by decide +kernel
theorem d_Graph_init_5 : decode c_Graph_init 5 = .ok (.bipush 48, 2) := by decide +kernel
theorem d_Graph_init_7 : decode c_Graph_init 7 = .ok (.anewarray 9, 3) := by decide +kernel
theorem d_Graph_init_10 : decode c_Graph_init 10 = .ok (.putfield 11, 3) := by decide +kernel
theorem d_Graph_init_13 : decode c_Graph_init 13 = .ok (.aload_n 0, 1) := by decide +kernel
theorem d_Graph_init_14 : decode c_Graph_init 14 = .ok (.new 15, 3) := by decide +kernel
theorem d_Graph_init_17 : decode c_Graph_init 17 = .ok (.dup, 1) := by decide +kernel
theorem d_Graph_init_18 : decode c_Graph_init 18 = .ok (.invokespecial 17, 3) := by decide +kernel
theorem d_Graph_init_21 : decode c_Graph_init 21 = .ok (.putfield 18, 3) := by decide +kernel
theorem d_Graph_init_24 : decode c_Graph_init 24 = .ok (.aload_n 0, 1) := by decide +kernel
theorem d_Graph_init_25 : decode c_Graph_init 25 = .ok (.new 15, 3) := by decide +kernel
theorem d_Graph_init_28 : decode c_Graph_init 28 = .ok (.dup, 1) := by decide +kernel
theorem d_Graph_init_29 : decode c_Graph_init 29 = .ok (.invokespecial 17, 3) := by decide +kernel
theorem d_Graph_init_32 : decode c_Graph_init 32 = .ok (.putfield 22, 3) := by decide +kernel
theorem d_Graph_init_35 : decode c_Graph_init 35 = .ok (.return_, 1) := by decide +kernel
theorem d_Graph_settleIfPending_0 : decode c_Graph_settleIfPending 0 = .ok (.aload_n 0, 1) := by decide +kernel
theorem d_Graph_settleIfPending_1 : decode c_Graph_settleIfPending 1 = .ok (.iload_n 1, 1) := by decide +kernel
theorem d_Graph_settleIfPending_2 : decode c_Graph_settleIfPending 2 = .ok (.invokevirtual 67, 3) := by decide +kernel
theorem d_Graph_settleIfPending_5 : decode c_Graph_settleIfPending 5 = .ok (.astore 4, 2) := by decide +kernel
theorem d_Graph_settleIfPending_7 : decode c_Graph_settleIfPending 7 = .ok (.aload 4, 2) := by decide +kernel
theorem d_Graph_settleIfPending_9 : decode c_Graph_settleIfPending 9 = .ok (.ifnull 11, 3) := by decide +kernel
theorem d_Graph_settleIfPending_12 : decode c_Graph_settleIfPending 12 = .ok (.aload 4, 2) := by decide +kernel
theorem d_Graph_settleIfPending_14 : decode c_Graph_settleIfPending 14 = .ok (.getfield 71, 3) := by decide +kernel
theorem d_Graph_settleIfPending_17 : decode c_Graph_settleIfPending 17 = .ok (.ifCond .eq 5, 3) := by decide +kernel
theorem d_Graph_settleIfPending_20 : decode c_Graph_settleIfPending 20 = .ok (.iconst 0, 1) := by decide +kernel
theorem d_Graph_settleIfPending_21 : decode c_Graph_settleIfPending 21 = .ok (.ireturn, 1) := by decide +kernel
theorem d_Graph_settleIfPending_22 : decode c_Graph_settleIfPending 22 = .ok (.aload_n 0, 1) := by decide +kernel
theorem d_Graph_settleIfPending_23 : decode c_Graph_settleIfPending 23 = .ok (.aload 4, 2) := by decide +kernel
theorem d_Graph_settleIfPending_25 : decode c_Graph_settleIfPending 25 = .ok (.iload_n 2, 1) := by decide +kernel
theorem d_Graph_settleIfPending_26 : decode c_Graph_settleIfPending 26 = .ok (.iload_n 3, 1) := by decide +kernel
theorem d_Graph_settleIfPending_27 : decode c_Graph_settleIfPending 27 = .ok (.invokevirtual 74, 3) := by decide +kernel
theorem d_Graph_settleIfPending_30 : decode c_Graph_settleIfPending 30 = .ok (.iconst 1, 1) := by decide +kernel
theorem d_Graph_settleIfPending_31 : decode c_Graph_settleIfPending 31 = .ok (.ireturn, 1) := by decide +kernel
theorem d_Graph_find_0 : decode c_Graph_find 0 = .ok (.aload_n 0, 1) := by decide +kernel
theorem d_Graph_find_1 : decode c_Graph_find 1 = .ok (.iload_n 1, 1) := by decide +kernel
theorem d_Graph_find_2 : decode c_Graph_find 2 = .ok (.invokevirtual 29, 3) := by decide +kernel
theorem d_Graph_find_5 : decode c_Graph_find 5 = .ok (.ifCond .eq 12, 3) := by decide +kernel
theorem d_Graph_find_8 : decode c_Graph_find 8 = .ok (.aload_n 0, 1) := by decide +kernel
theorem d_Graph_find_9 : decode c_Graph_find 9 = .ok (.getfield 11, 3) := by decide +kernel
theorem d_Graph_find_12 : decode c_Graph_find 12 = .ok (.iload_n 1, 1) := by decide +kernel
theorem d_Graph_find_13 : decode c_Graph_find 13 = .ok (.aaload, 1) := by decide +kernel
theorem d_Graph_find_14 : decode c_Graph_find 14 = .ok (.goto 4, 3) := by decide +kernel
theorem d_Graph_find_17 : decode c_Graph_find 17 = .ok (.aconst_null, 1) := by decide +kernel
theorem d_Graph_find_18 : decode c_Graph_find 18 = .ok (.areturn, 1) := by decide +kernel
theorem d_Graph_has_0 : decode c_Graph_has 0 = .ok (.iload_n 1, 1) := by decide +kernel
theorem d_Graph_has_1 : decode c_Graph_has 1 = .ok (.ifCond .lt 15, 3) := by decide +kernel
theorem d_Graph_has_4 : decode c_Graph_has 4 = .ok (.iload_n 1, 1) := by decide +kernel
theorem d_Graph_has_5 : decode c_Graph_has 5 = .ok (.aload_n 0, 1) := by decide +kernel
theorem d_Graph_has_6 : decode c_Graph_has 6 = .ok (.getfield 25, 3) := by decide +kernel
theorem d_Graph_has_9 : decode c_Graph_has 9 = .ok (.if_icmp .ge 7, 3) := by decide +kernel
theorem d_Graph_has_12 : decode c_Graph_has 12 = .ok (.iconst 1, 1) := by decide +kernel
theorem d_Graph_has_13 : decode c_Graph_has 13 = .ok (.goto 4, 3) := by decide +kernel
theorem d_Graph_has_16 : decode c_Graph_has 16 = .ok (.iconst 0, 1) := by decide +kernel
theorem d_Graph_has_17 : decode c_Graph_has 17 = .ok (.ireturn, 1) := by decide +kernel
theorem d_Graph_settle_0 : decode c_Graph_settle 0 = .ok (.aload_n 1, 1) := by decide +kernel
theorem d_Graph_settle_1 : decode c_Graph_settle 1 = .ok (.iload_n 2, 1) := by decide +kernel
theorem d_Graph_settle_2 : decode c_Graph_settle 2 = .ok (.iload_n 3, 1) := by decide +kernel
theorem d_Graph_settle_3 : decode c_Graph_settle 3 = .ok (.invokevirtual 59, 3) := by decide +kernel
theorem d_Graph_settle_6 : decode c_Graph_settle 6 = .ok (.aload_n 0, 1) := by decide +kernel
theorem d_Graph_settle_7 : decode c_Graph_settle 7 = .ok (.aload_n 1, 1) := by decide +kernel
theorem d_Graph_settle_8 : decode c_Graph_settle 8 = .ok (.invokevirtual 63, 3) := by decide +kernel
theorem d_Graph_settle_11 : decode c_Graph_settle 11 = .ok (.aload_n 0, 1) := by decide +kernel
theorem d_Graph_settle_12 : decode c_Graph_settle 12 = .ok (.invokevirtual 56, 3) := by decide +kernel
theorem d_Graph_settle_15 : decode c_Graph_settle 15 = .ok (.return_, 1) := by decide +kernel
theorem d_Graph_noteTurn_0 : decode c_Graph_noteTurn 0 = .ok (.aload_n 1, 1) := by decide +kernel
theorem d_Graph_noteTurn_1 : decode c_Graph_noteTurn 1 = .ok (.aload_n 0, 1) := by decide +kernel
theorem d_Graph_noteTurn_2 : decode c_Graph_noteTurn 2 = .ok (.getfield 78, 3) := by decide +kernel
theorem d_Graph_noteTurn_5 : decode c_Graph_noteTurn 5 = .ok (.putfield 81, 3) := by decide +kernel
theorem d_Graph_noteTurn_8 : decode c_Graph_noteTurn 8 = .ok (.aload_n 0, 1) := by decide +kernel
theorem d_Graph_noteTurn_9 : decode c_Graph_noteTurn 9 = .ok (.dup, 1) := by decide +kernel
theorem d_Graph_noteTurn_10 : decode c_Graph_noteTurn 10 = .ok (.getfield 78, 3) := by decide +kernel
theorem d_Graph_noteTurn_13 : decode c_Graph_noteTurn 13 = .ok (.iconst 1, 1) := by decide +kernel
theorem d_Graph_noteTurn_14 : decode c_Graph_noteTurn 14 = .ok (.iadd, 1) := by decide +kernel
theorem d_Graph_noteTurn_15 : decode c_Graph_noteTurn 15 = .ok (.putfield 78, 3) := by decide +kernel
theorem d_Graph_noteTurn_18 : decode c_Graph_noteTurn 18 = .ok (.return_, 1) := by decide +kernel
theorem d_Graph_queueAllThatAreAble_0 : decode c_Graph_queueAllThatAreAble 0 = .ok (.iconst 0, 1) := by decide +kernel
theorem d_Graph_queueAllThatAreAble_1 : decode c_Graph_queueAllThatAreAble 1 = .ok (.istore_n 1, 1) := by decide +kernel
theorem d_Graph_queueAllThatAreAble_2 : decode c_Graph_queueAllThatAreAble 2 = .ok (.iload_n 1, 1) := by decide +kernel
theorem d_Graph_queueAllThatAreAble_3 : decode c_Graph_queueAllThatAreAble 3 = .ok (.aload_n 0, 1) := by decide +kernel
theorem d_Graph_queueAllThatAreAble_4 : decode c_Graph_queueAllThatAreAble 4 = .ok (.getfield 25, 3) := by decide +kernel
theorem d_Graph_queueAllThatAreAble_7 : decode c_Graph_queueAllThatAreAble 7 = .ok (.if_icmp .ge 61, 3) := by decide +kernel
theorem d_Graph_queueAllThatAreAble_10 : decode c_Graph_queueAllThatAreAble 10 = .ok (.aload_n 0, 1) := by decide +kernel
theorem d_Graph_queueAllThatAreAble_11 : decode c_Graph_queueAllThatAreAble 11 = .ok (.getfield 11, 3) := by decide +kernel
theorem d_Graph_queueAllThatAreAble_14 : decode c_Graph_queueAllThatAreAble 14 = .ok (.iload_n 1, 1) := by decide +kernel
theorem d_Graph_queueAllThatAreAble_15 : decode c_Graph_queueAllThatAreAble 15 = .ok (.aaload, 1) := by decide +kernel
theorem d_Graph_queueAllThatAreAble_16 : decode c_Graph_queueAllThatAreAble 16 = .ok (.astore_n 2, 1) := by decide +kernel
theorem d_Graph_queueAllThatAreAble_17 : decode c_Graph_queueAllThatAreAble 17 = .ok (.aload_n 2, 1) := by decide +kernel
theorem d_Graph_queueAllThatAreAble_18 : decode c_Graph_queueAllThatAreAble 18 = .ok (.getfield 91, 3) := by decide +kernel
theorem d_Graph_queueAllThatAreAble_21 : decode c_Graph_queueAllThatAreAble 21 = .ok (.ifCond .ne 41, 3) := by decide +kernel
theorem d_Graph_queueAllThatAreAble_24 : decode c_Graph_queueAllThatAreAble 24 = .ok (.aload_n 2, 1) := by decide +kernel
theorem d_Graph_queueAllThatAreAble_25 : decode c_Graph_queueAllThatAreAble 25 = .ok (.invokevirtual 98, 3) := by decide +kernel
theorem d_Graph_queueAllThatAreAble_28 : decode c_Graph_queueAllThatAreAble 28 = .ok (.ifCond .eq 34, 3) := by decide +kernel
theorem d_Graph_queueAllThatAreAble_31 : decode c_Graph_queueAllThatAreAble 31 = .ok (.aload_n 2, 1) := by decide +kernel
theorem d_Graph_queueAllThatAreAble_32 : decode c_Graph_queueAllThatAreAble 32 = .ok (.iconst 1, 1) := by decide +kernel
theorem d_Graph_queueAllThatAreAble_33 : decode c_Graph_queueAllThatAreAble 33 = .ok (.putfield 91, 3) := by decide +kernel
theorem d_Graph_queueAllThatAreAble_36 : decode c_Graph_queueAllThatAreAble 36 = .ok (.aload_n 2, 1) := by decide +kernel
theorem d_Graph_queueAllThatAreAble_37 : decode c_Graph_queueAllThatAreAble 37 = .ok (.invokevirtual 102, 3) := by decide +kernel
theorem d_Graph_queueAllThatAreAble_40 : decode c_Graph_queueAllThatAreAble 40 = .ok (.ifCond .eq 14, 3) := by decide +kernel
theorem d_Graph_queueAllThatAreAble_43 : decode c_Graph_queueAllThatAreAble 43 = .ok (.aload_n 0, 1) := by decide +kernel
theorem d_Graph_queueAllThatAreAble_44 : decode c_Graph_queueAllThatAreAble 44 = .ok (.getfield 22, 3) := by decide +kernel
theorem d_Graph_queueAllThatAreAble_47 : decode c_Graph_queueAllThatAreAble 47 = .ok (.aload_n 2, 1) := by decide +kernel
theorem d_Graph_queueAllThatAreAble_48 : decode c_Graph_queueAllThatAreAble 48 = .ok (.invokevirtual 105, 3) := by decide +kernel
theorem d_Graph_queueAllThatAreAble_51 : decode c_Graph_queueAllThatAreAble 51 = .ok (.goto 11, 3) := by decide +kernel
theorem d_Graph_queueAllThatAreAble_54 : decode c_Graph_queueAllThatAreAble 54 = .ok (.aload_n 0, 1) := by decide +kernel
theorem d_Graph_queueAllThatAreAble_55 : decode c_Graph_queueAllThatAreAble 55 = .ok (.getfield 18, 3) := by decide +kernel
theorem d_Graph_queueAllThatAreAble_58 : decode c_Graph_queueAllThatAreAble 58 = .ok (.aload_n 2, 1) := by decide +kernel
theorem d_Graph_queueAllThatAreAble_59 : decode c_Graph_queueAllThatAreAble 59 = .ok (.invokevirtual 105, 3) := by decide +kernel
theorem d_Graph_queueAllThatAreAble_62 : decode c_Graph_queueAllThatAreAble 62 = .ok (.iinc 1 1, 3) := by decide +kernel
theorem d_Graph_queueAllThatAreAble_65 : decode c_Graph_queueAllThatAreAble 65 = .ok (.goto (-63), 3) := by decide +kernel
theorem d_Graph_queueAllThatAreAble_68 : decode c_Graph_queueAllThatAreAble 68 = .ok (.return_, 1) := by decide +kernel
theorem d_Graph_workOffLine_0 : decode c_Graph_workOffLine 0 = .ok (.iconst 0, 1) := by decide +kernel
theorem d_Graph_workOffLine_1 : decode c_Graph_workOffLine 1 = .ok (.istore_n 1, 1) := by decide +kernel
theorem d_Graph_workOffLine_2 : decode c_Graph_workOffLine 2 = .ok (.iload_n 1, 1) := by decide +kernel
theorem d_Graph_workOffLine_3 : decode c_Graph_workOffLine 3 = .ok (.bipush 96, 2) := by decide +kernel
theorem d_Graph_workOffLine_5 : decode c_Graph_workOffLine 5 = .ok (.if_icmp .ge 27, 3) := by decide +kernel
theorem d_Graph_workOffLine_8 : decode c_Graph_workOffLine 8 = .ok (.aload_n 0, 1) := by decide +kernel
theorem d_Graph_workOffLine_9 : decode c_Graph_workOffLine 9 = .ok (.getfield 18, 3) := by decide +kernel
theorem d_Graph_workOffLine_12 : decode c_Graph_workOffLine 12 = .ok (.invokevirtual 84, 3) := by decide +kernel
theorem d_Graph_workOffLine_15 : decode c_Graph_workOffLine 15 = .ok (.astore_n 2, 1) := by decide +kernel
theorem d_Graph_workOffLine_16 : decode c_Graph_workOffLine 16 = .ok (.aload_n 2, 1) := by decide +kernel
theorem d_Graph_workOffLine_17 : decode c_Graph_workOffLine 17 = .ok (.ifnonnull 4, 3) := by decide +kernel
theorem d_Graph_workOffLine_20 : decode c_Graph_workOffLine 20 = .ok (.return_, 1) := by decide +kernel
theorem d_Graph_workOffLine_21 : decode c_Graph_workOffLine 21 = .ok (.aload_n 0, 1) := by decide +kernel
theorem d_Graph_workOffLine_22 : decode c_Graph_workOffLine 22 = .ok (.aload_n 2, 1) := by decide +kernel
theorem d_Graph_workOffLine_23 : decode c_Graph_workOffLine 23 = .ok (.invokevirtual 88, 3) := by decide +kernel
theorem d_Graph_workOffLine_26 : decode c_Graph_workOffLine 26 = .ok (.iinc 1 1, 3) := by decide +kernel
theorem d_Graph_workOffLine_29 : decode c_Graph_workOffLine 29 = .ok (.goto (-27), 3) := by decide +kernel
theorem d_Graph_workOffLine_32 : decode c_Graph_workOffLine 32 = .ok (.return_, 1) := by decide +kernel
theorem d_Graph_advance_0 : decode c_Graph_advance 0 = .ok (.aload_n 1, 1) := by decide +kernel
theorem d_Graph_advance_1 : decode c_Graph_advance 1 = .ok (.iconst 0, 1) := by decide +kernel
theorem d_Graph_advance_2 : decode c_Graph_advance 2 = .ok (.putfield 91, 3) := by decide +kernel
theorem d_Graph_advance_5 : decode c_Graph_advance 5 = .ok (.aload_n 1, 1) := by decide +kernel
theorem d_Graph_advance_6 : decode c_Graph_advance 6 = .ok (.getfield 71, 3) := by decide +kernel
theorem d_Graph_advance_9 : decode c_Graph_advance 9 = .ok (.ifCond .eq 4, 3) := by decide +kernel
theorem d_Graph_advance_12 : decode c_Graph_advance 12 = .ok (.return_, 1) := by decide +kernel
theorem d_Graph_advance_13 : decode c_Graph_advance 13 = .ok (.aload_n 0, 1) := by decide +kernel
theorem d_Graph_advance_14 : decode c_Graph_advance 14 = .ok (.aload_n 1, 1) := by decide +kernel
theorem d_Graph_advance_15 : decode c_Graph_advance 15 = .ok (.invokevirtual 95, 3) := by decide +kernel
theorem d_Graph_advance_18 : decode c_Graph_advance 18 = .ok (.aload_n 1, 1) := by decide +kernel
theorem d_Graph_advance_19 : decode c_Graph_advance 19 = .ok (.getfield 71, 3) := by decide +kernel
theorem d_Graph_advance_22 : decode c_Graph_advance 22 = .ok (.ifCond .eq 8, 3) := by decide +kernel
theorem d_Graph_advance_25 : decode c_Graph_advance 25 = .ok (.aload_n 0, 1) := by decide +kernel
theorem d_Graph_advance_26 : decode c_Graph_advance 26 = .ok (.aload_n 1, 1) := by decide +kernel
theorem d_Graph_advance_27 : decode c_Graph_advance 27 = .ok (.invokevirtual 63, 3) := by decide +kernel
theorem d_Graph_advance_30 : decode c_Graph_advance 30 = .ok (.aload_n 0, 1) := by decide +kernel
theorem d_Graph_advance_31 : decode c_Graph_advance 31 = .ok (.invokevirtual 56, 3) := by decide +kernel
theorem d_Graph_advance_34 : decode c_Graph_advance 34 = .ok (.return_, 1) := by decide +kernel
theorem d_Graph_decide_0 : decode c_Graph_decide 0 = .ok (.aload_n 1, 1) := by decide +kernel
theorem d_Graph_decide_1 : decode c_Graph_decide 1 = .ok (.getfield 108, 3) := by decide +kernel
theorem d_Graph_decide_4 : decode c_Graph_decide 4 = .ok (.iconst 0, 1) := by decide +kernel
theorem d_Graph_decide_5 : decode c_Graph_decide 5 = .ok (.aaload, 1) := by decide +kernel
theorem d_Graph_decide_6 : decode c_Graph_decide 6 = .ok (.astore_n 2, 1) := by decide +kernel
theorem d_Graph_decide_7 : decode c_Graph_decide 7 = .ok (.aload_n 1, 1) := by decide +kernel
theorem d_Graph_decide_8 : decode c_Graph_decide 8 = .ok (.getfield 111, 3) := by decide +kernel
theorem d_Graph_decide_11 : decode c_Graph_decide 11 = .ok (.tableswitch 118 0 7 #[45, 53, 61, 69, 77, 86, 100, 111], 45) := by decide +kernel
theorem d_Graph_decide_56 : decode c_Graph_decide 56 = .ok (.aload_n 1, 1) := by decide +kernel
theorem d_Graph_decide_57 : decode c_Graph_decide 57 = .ok (.aload_n 2, 1) := by decide +kernel
theorem d_Graph_decide_58 : decode c_Graph_decide 58 = .ok (.invokevirtual 114, 3) := by decide +kernel
theorem d_Graph_decide_61 : decode c_Graph_decide 61 = .ok (.goto 76, 3) := by decide +kernel
theorem d_Graph_decide_64 : decode c_Graph_decide 64 = .ok (.aload_n 1, 1) := by decide +kernel
theorem d_Graph_decide_65 : decode c_Graph_decide 65 = .ok (.aload_n 2, 1) := by decide +kernel
theorem d_Graph_decide_66 : decode c_Graph_decide 66 = .ok (.invokevirtual 117, 3) := by decide +kernel
theorem d_Graph_decide_69 : decode c_Graph_decide 69 = .ok (.goto 68, 3) := by decide +kernel
theorem d_Graph_decide_72 : decode c_Graph_decide 72 = .ok (.aload_n 1, 1) := by decide +kernel
theorem d_Graph_decide_73 : decode c_Graph_decide 73 = .ok (.aload_n 2, 1) := by decide +kernel
theorem d_Graph_decide_74 : decode c_Graph_decide 74 = .ok (.invokevirtual 120, 3) := by decide +kernel
theorem d_Graph_decide_77 : decode c_Graph_decide 77 = .ok (.goto 60, 3) := by decide +kernel
theorem d_Graph_decide_80 : decode c_Graph_decide 80 = .ok (.aload_n 1, 1) := by decide +kernel
theorem d_Graph_decide_81 : decode c_Graph_decide 81 = .ok (.aload_n 2, 1) := by decide +kernel
theorem d_Graph_decide_82 : decode c_Graph_decide 82 = .ok (.invokevirtual 123, 3) := by decide +kernel
theorem d_Graph_decide_85 : decode c_Graph_decide 85 = .ok (.goto 52, 3) := by decide +kernel
theorem d_Graph_decide_88 : decode c_Graph_decide 88 = .ok (.aload_n 0, 1) := by decide +kernel
theorem d_Graph_decide_89 : decode c_Graph_decide 89 = .ok (.aload_n 1, 1) := by decide +kernel
theorem d_Graph_decide_90 : decode c_Graph_decide 90 = .ok (.aload_n 2, 1) := by decide +kernel
theorem d_Graph_decide_91 : decode c_Graph_decide 91 = .ok (.invokevirtual 126, 3) := by decide +kernel
theorem d_Graph_decide_94 : decode c_Graph_decide 94 = .ok (.goto 43, 3) := by decide +kernel
theorem d_Graph_decide_97 : decode c_Graph_decide 97 = .ok (.aload_n 1, 1) := by decide +kernel
theorem d_Graph_decide_98 : decode c_Graph_decide 98 = .ok (.aload_n 2, 1) := by decide +kernel
theorem d_Graph_decide_99 : decode c_Graph_decide 99 = .ok (.aload_n 1, 1) := by decide +kernel
theorem d_Graph_decide_100 : decode c_Graph_decide 100 = .ok (.getfield 108, 3) := by decide +kernel
theorem d_Graph_decide_103 : decode c_Graph_decide 103 = .ok (.iconst 1, 1) := by decide +kernel
theorem d_Graph_decide_104 : decode c_Graph_decide 104 = .ok (.aaload, 1) := by decide +kernel
theorem d_Graph_decide_105 : decode c_Graph_decide 105 = .ok (.invokevirtual 130, 3) := by decide +kernel
theorem d_Graph_decide_108 : decode c_Graph_decide 108 = .ok (.goto 29, 3) := by decide +kernel
theorem d_Graph_decide_111 : decode c_Graph_decide 111 = .ok (.aload_n 1, 1) := by decide +kernel
theorem d_Graph_decide_112 : decode c_Graph_decide 112 = .ok (.aload_n 1, 1) := by decide +kernel
theorem d_Graph_decide_113 : decode c_Graph_decide 113 = .ok (.invokevirtual 133, 3) := by decide +kernel
theorem d_Graph_decide_116 : decode c_Graph_decide 116 = .ok (.invokevirtual 114, 3) := by decide +kernel
theorem d_Graph_decide_119 : decode c_Graph_decide 119 = .ok (.goto 18, 3) := by decide +kernel
theorem d_Graph_decide_122 : decode c_Graph_decide 122 = .ok (.aload_n 1, 1) := by decide +kernel
theorem d_Graph_decide_123 : decode c_Graph_decide 123 = .ok (.invokevirtual 136, 3) := by decide +kernel
theorem d_Graph_decide_126 : decode c_Graph_decide 126 = .ok (.goto 11, 3) := by decide +kernel
theorem d_Graph_decide_129 : decode c_Graph_decide 129 = .ok (.aload_n 1, 1) := by decide +kernel
theorem d_Graph_decide_130 : decode c_Graph_decide 130 = .ok (.aload_n 1, 1) := by decide +kernel
theorem d_Graph_decide_131 : decode c_Graph_decide 131 = .ok (.invokevirtual 133, 3) := by decide +kernel
theorem d_Graph_decide_134 : decode c_Graph_decide 134 = .ok (.invokevirtual 139, 3) := by decide +kernel
theorem d_Graph_decide_137 : decode c_Graph_decide 137 = .ok (.return_, 1) := by decide +kernel
theorem d_Graph_compose_0 : decode c_Graph_compose 0 = .ok (.aload_n 1, 1) := by decide +kernel
theorem d_Graph_compose_1 : decode c_Graph_compose 1 = .ok (.getfield 142, 3) := by decide +kernel
theorem d_Graph_compose_4 : decode c_Graph_compose 4 = .ok (.ifnull 12, 3) := by decide +kernel
theorem d_Graph_compose_7 : decode c_Graph_compose 7 = .ok (.aload_n 1, 1) := by decide +kernel
theorem d_Graph_compose_8 : decode c_Graph_compose 8 = .ok (.aload_n 1, 1) := by decide +kernel
theorem d_Graph_compose_9 : decode c_Graph_compose 9 = .ok (.getfield 142, 3) := by decide +kernel
theorem d_Graph_compose_12 : decode c_Graph_compose 12 = .ok (.invokevirtual 139, 3) := by decide +kernel
theorem d_Graph_compose_15 : decode c_Graph_compose 15 = .ok (.return_, 1) := by decide +kernel
theorem d_Graph_compose_16 : decode c_Graph_compose 16 = .ok (.aload_n 2, 1) := by decide +kernel
theorem d_Graph_compose_17 : decode c_Graph_compose 17 = .ok (.getfield 71, 3) := by decide +kernel
theorem d_Graph_compose_20 : decode c_Graph_compose 20 = .ok (.iconst 1, 1) := by decide +kernel
theorem d_Graph_compose_21 : decode c_Graph_compose 21 = .ok (.if_icmp .eq 9, 3) := by decide +kernel
theorem d_Graph_compose_24 : decode c_Graph_compose 24 = .ok (.aload_n 1, 1) := by decide +kernel
theorem d_Graph_compose_25 : decode c_Graph_compose 25 = .ok (.aload_n 2, 1) := by decide +kernel
theorem d_Graph_compose_26 : decode c_Graph_compose 26 = .ok (.invokevirtual 139, 3) := by decide +kernel
theorem d_Graph_compose_29 : decode c_Graph_compose 29 = .ok (.return_, 1) := by decide +kernel
theorem d_Graph_compose_30 : decode c_Graph_compose 30 = .ok (.aload_n 1, 1) := by decide +kernel
theorem d_Graph_compose_31 : decode c_Graph_compose 31 = .ok (.getfield 146, 3) := by decide +kernel
theorem d_Graph_compose_34 : decode c_Graph_compose 34 = .ok (.aload_n 1, 1) := by decide +kernel
theorem d_Graph_compose_35 : decode c_Graph_compose 35 = .ok (.getfield 149, 3) := by decide +kernel
theorem d_Graph_compose_38 : decode c_Graph_compose 38 = .ok (.aload_n 2, 1) := by decide +kernel
theorem d_Graph_compose_39 : decode c_Graph_compose 39 = .ok (.getfield 152, 3) := by decide +kernel
theorem d_Graph_compose_42 : decode c_Graph_compose 42 = .ok (.invokestatic 155, 3) := by decide +kernel
theorem d_Graph_compose_45 : decode c_Graph_compose 45 = .ok (.istore_n 3, 1) := by decide +kernel
theorem d_Graph_compose_46 : decode c_Graph_compose 46 = .ok (.iload_n 3, 1) := by decide +kernel
theorem d_Graph_compose_47 : decode c_Graph_compose 47 = .ok (.ifCond .eq 10, 3) := by decide +kernel
theorem d_Graph_compose_50 : decode c_Graph_compose 50 = .ok (.aload_n 1, 1) := by decide +kernel
theorem d_Graph_compose_51 : decode c_Graph_compose 51 = .ok (.iconst 3, 1) := by decide +kernel
theorem d_Graph_compose_52 : decode c_Graph_compose 52 = .ok (.iload_n 3, 1) := by decide +kernel
theorem d_Graph_compose_53 : decode c_Graph_compose 53 = .ok (.invokevirtual 59, 3) := by decide +kernel
theorem d_Graph_compose_56 : decode c_Graph_compose 56 = .ok (.return_, 1) := by decide +kernel
theorem d_Graph_compose_57 : decode c_Graph_compose 57 = .ok (.aload_n 1, 1) := by decide +kernel
theorem d_Graph_compose_58 : decode c_Graph_compose 58 = .ok (.aload_n 0, 1) := by decide +kernel
theorem d_Graph_compose_59 : decode c_Graph_compose 59 = .ok (.aload_n 1, 1) := by decide +kernel
theorem d_Graph_compose_60 : decode c_Graph_compose 60 = .ok (.getfield 146, 3) := by decide +kernel
theorem d_Graph_compose_63 : decode c_Graph_compose 63 = .ok (.aload_n 1, 1) := by decide +kernel
theorem d_Graph_compose_64 : decode c_Graph_compose 64 = .ok (.getfield 149, 3) := by decide +kernel
theorem d_Graph_compose_67 : decode c_Graph_compose 67 = .ok (.aload_n 2, 1) := by decide +kernel
theorem d_Graph_compose_68 : decode c_Graph_compose 68 = .ok (.getfield 152, 3) := by decide +kernel
theorem d_Graph_compose_71 : decode c_Graph_compose 71 = .ok (.invokestatic 159, 3) := by decide +kernel
theorem d_Graph_compose_74 : decode c_Graph_compose 74 = .ok (.invokevirtual 67, 3) := by decide +kernel
theorem d_Graph_compose_77 : decode c_Graph_compose 77 = .ok (.putfield 142, 3) := by decide +kernel
theorem d_Graph_compose_80 : decode c_Graph_compose 80 = .ok (.aload_n 1, 1) := by decide +kernel
theorem d_Graph_compose_81 : decode c_Graph_compose 81 = .ok (.getfield 142, 3) := by decide +kernel
theorem d_Graph_compose_84 : decode c_Graph_compose 84 = .ok (.ifnonnull 10, 3) := by decide +kernel
theorem d_Graph_compose_87 : decode c_Graph_compose 87 = .ok (.aload_n 1, 1) := by decide +kernel
theorem d_Graph_compose_88 : decode c_Graph_compose 88 = .ok (.iconst 3, 1) := by decide +kernel
theorem d_Graph_compose_89 : decode c_Graph_compose 89 = .ok (.bipush 8, 2) := by decide +kernel
theorem d_Graph_compose_91 : decode c_Graph_compose 91 = .ok (.invokevirtual 59, 3) := by decide +kernel
theorem d_Graph_compose_94 : decode c_Graph_compose 94 = .ok (.return_, 1) := by decide +kernel
theorem d_Graph_advancePool_0 : decode c_Graph_advancePool 0 = .ok (.aload_n 0, 1) := by decide +kernel
theorem d_Graph_advancePool_1 : decode c_Graph_advancePool 1 = .ok (.getfield 22, 3) := by decide +kernel
theorem d_Graph_advancePool_4 : decode c_Graph_advancePool 4 = .ok (.invokevirtual 84, 3) := by decide +kernel
theorem d_Graph_advancePool_7 : decode c_Graph_advancePool 7 = .ok (.astore_n 1, 1) := by decide +kernel
theorem d_Graph_advancePool_8 : decode c_Graph_advancePool 8 = .ok (.aload_n 1, 1) := by decide +kernel
theorem d_Graph_advancePool_9 : decode c_Graph_advancePool 9 = .ok (.ifnonnull 5, 3) := by decide +kernel
theorem d_Graph_advancePool_12 : decode c_Graph_advancePool 12 = .ok (.iconst 0, 1) := by decide +kernel
theorem d_Graph_advancePool_13 : decode c_Graph_advancePool 13 = .ok (.ireturn, 1) := by decide +kernel
theorem d_Graph_advancePool_14 : decode c_Graph_advancePool 14 = .ok (.aload_n 0, 1) := by decide +kernel
theorem d_Graph_advancePool_15 : decode c_Graph_advancePool 15 = .ok (.aload_n 1, 1) := by decide +kernel
theorem d_Graph_advancePool_16 : decode c_Graph_advancePool 16 = .ok (.invokevirtual 88, 3) := by decide +kernel
theorem d_Graph_advancePool_19 : decode c_Graph_advancePool 19 = .ok (.iconst 1, 1) := by decide +kernel
theorem d_Graph_advancePool_20 : decode c_Graph_advancePool 20 = .ok (.ireturn, 1) := by decide +kernel
theorem d_Graph_placeInPool_0 : decode c_Graph_placeInPool 0 = .ok (.aload_n 0, 1) := by decide +kernel
theorem d_Graph_placeInPool_1 : decode c_Graph_placeInPool 1 = .ok (.getfield 22, 3) := by decide +kernel
theorem d_Graph_placeInPool_4 : decode c_Graph_placeInPool 4 = .ok (.aload_n 1, 1) := by decide +kernel
theorem d_Graph_placeInPool_5 : decode c_Graph_placeInPool 5 = .ok (.invokevirtual 37, 3) := by decide +kernel
theorem d_Graph_placeInPool_8 : decode c_Graph_placeInPool 8 = .ok (.ireturn, 1) := by decide +kernel
theorem d_Graph_poolSize_0 : decode c_Graph_poolSize 0 = .ok (.aload_n 0, 1) := by decide +kernel
theorem d_Graph_poolSize_1 : decode c_Graph_poolSize 1 = .ok (.getfield 22, 3) := by decide +kernel
theorem d_Graph_poolSize_4 : decode c_Graph_poolSize 4 = .ok (.invokevirtual 33, 3) := by decide +kernel
theorem d_Graph_poolSize_7 : decode c_Graph_poolSize 7 = .ok (.ireturn, 1) := by decide +kernel
theorem d_Graph_isFull_0 : decode c_Graph_isFull 0 = .ok (.aload_n 0, 1) := by decide +kernel
theorem d_Graph_isFull_1 : decode c_Graph_isFull 1 = .ok (.getfield 25, 3) := by decide +kernel
theorem d_Graph_isFull_4 : decode c_Graph_isFull 4 = .ok (.bipush 48, 2) := by decide +kernel
theorem d_Graph_isFull_6 : decode c_Graph_isFull 6 = .ok (.if_icmp .lt 7, 3) := by decide +kernel
theorem d_Graph_isFull_9 : decode c_Graph_isFull 9 = .ok (.iconst 1, 1) := by decide +kernel
theorem d_Graph_isFull_10 : decode c_Graph_isFull 10 = .ok (.goto 4, 3) := by decide +kernel
theorem d_Graph_isFull_13 : decode c_Graph_isFull 13 = .ok (.iconst 0, 1) := by decide +kernel
theorem d_Graph_isFull_14 : decode c_Graph_isFull 14 = .ok (.ireturn, 1) := by decide +kernel
theorem d_Graph_addSource_0 : decode c_Graph_addSource 0 = .ok (.aload_n 0, 1) := by decide +kernel
theorem d_Graph_addSource_1 : decode c_Graph_addSource 1 = .ok (.iconst 0, 1) := by decide +kernel
theorem d_Graph_addSource_2 : decode c_Graph_addSource 2 = .ok (.anewarray 9, 3) := by decide +kernel
theorem d_Graph_addSource_5 : decode c_Graph_addSource 5 = .ok (.bipush 9, 2) := by decide +kernel
theorem d_Graph_addSource_7 : decode c_Graph_addSource 7 = .ok (.iconst (-1), 1) := by decide +kernel
theorem d_Graph_addSource_8 : decode c_Graph_addSource 8 = .ok (.iconst 0, 1) := by decide +kernel
theorem d_Graph_addSource_9 : decode c_Graph_addSource 9 = .ok (.iconst 0, 1) := by decide +kernel
theorem d_Graph_addSource_10 : decode c_Graph_addSource 10 = .ok (.invokevirtual 49, 3) := by decide +kernel
theorem d_Graph_addSource_13 : decode c_Graph_addSource 13 = .ok (.areturn, 1) := by decide +kernel
theorem d_Graph_addStage_0 : decode c_Graph_addStage 0 = .ok (.new 9, 3) := by decide +kernel
theorem d_Graph_addStage_3 : decode c_Graph_addStage 3 = .ok (.dup, 1) := by decide +kernel
theorem d_Graph_addStage_4 : decode c_Graph_addStage 4 = .ok (.aload_n 0, 1) := by decide +kernel
theorem d_Graph_addStage_5 : decode c_Graph_addStage 5 = .ok (.getfield 25, 3) := by decide +kernel
theorem d_Graph_addStage_8 : decode c_Graph_addStage 8 = .ok (.iload_n 2, 1) := by decide +kernel
theorem d_Graph_addStage_9 : decode c_Graph_addStage 9 = .ok (.iload_n 3, 1) := by decide +kernel
theorem d_Graph_addStage_10 : decode c_Graph_addStage 10 = .ok (.iload 4, 2) := by decide +kernel
theorem d_Graph_addStage_12 : decode c_Graph_addStage 12 = .ok (.iload 5, 2) := by decide +kernel
theorem d_Graph_addStage_14 : decode c_Graph_addStage 14 = .ok (.aload_n 1, 1) := by decide +kernel
theorem d_Graph_addStage_15 : decode c_Graph_addStage 15 = .ok (.invokespecial 53, 3) := by decide +kernel
theorem d_Graph_addStage_18 : decode c_Graph_addStage 18 = .ok (.astore 6, 2) := by decide +kernel
theorem d_Graph_addStage_20 : decode c_Graph_addStage 20 = .ok (.aload_n 0, 1) := by decide +kernel
theorem d_Graph_addStage_21 : decode c_Graph_addStage 21 = .ok (.getfield 11, 3) := by decide +kernel
theorem d_Graph_addStage_24 : decode c_Graph_addStage 24 = .ok (.aload_n 0, 1) := by decide +kernel
theorem d_Graph_addStage_25 : decode c_Graph_addStage 25 = .ok (.getfield 25, 3) := by decide +kernel
theorem d_Graph_addStage_28 : decode c_Graph_addStage 28 = .ok (.aload 6, 2) := by decide +kernel
theorem d_Graph_addStage_30 : decode c_Graph_addStage 30 = .ok (.aastore, 1) := by decide +kernel
theorem d_Graph_addStage_31 : decode c_Graph_addStage 31 = .ok (.aload_n 0, 1) := by decide +kernel
theorem d_Graph_addStage_32 : decode c_Graph_addStage 32 = .ok (.dup, 1) := by decide +kernel
theorem d_Graph_addStage_33 : decode c_Graph_addStage 33 = .ok (.getfield 25, 3) := by decide +kernel
theorem d_Graph_addStage_36 : decode c_Graph_addStage 36 = .ok (.iconst 1, 1) := by decide +kernel
theorem d_Graph_addStage_37 : decode c_Graph_addStage 37 = .ok (.iadd, 1) := by decide +kernel
theorem d_Graph_addStage_38 : decode c_Graph_addStage 38 = .ok (.putfield 25, 3) := by decide +kernel
theorem d_Graph_addStage_41 : decode c_Graph_addStage 41 = .ok (.aload_n 0, 1) := by decide +kernel
theorem d_Graph_addStage_42 : decode c_Graph_addStage 42 = .ok (.invokevirtual 56, 3) := by decide +kernel
theorem d_Graph_addStage_45 : decode c_Graph_addStage 45 = .ok (.aload 6, 2) := by decide +kernel
theorem d_Graph_addStage_47 : decode c_Graph_addStage 47 = .ok (.areturn, 1) := by decide +kernel
theorem d_Graph_inputsOf_0 : decode c_Graph_inputsOf 0 = .ok (.iconst 1, 1) := by decide +kernel
theorem d_Graph_inputsOf_1 : decode c_Graph_inputsOf 1 = .ok (.anewarray 9, 3) := by decide +kernel
theorem d_Graph_inputsOf_4 : decode c_Graph_inputsOf 4 = .ok (.astore_n 2, 1) := by decide +kernel
theorem d_Graph_inputsOf_5 : decode c_Graph_inputsOf 5 = .ok (.aload_n 2, 1) := by decide +kernel
theorem d_Graph_inputsOf_6 : decode c_Graph_inputsOf 6 = .ok (.iconst 0, 1) := by decide +kernel
theorem d_Graph_inputsOf_7 : decode c_Graph_inputsOf 7 = .ok (.aload_n 0, 1) := by decide +kernel
theorem d_Graph_inputsOf_8 : decode c_Graph_inputsOf 8 = .ok (.getfield 11, 3) := by decide +kernel
theorem d_Graph_inputsOf_11 : decode c_Graph_inputsOf 11 = .ok (.iload_n 1, 1) := by decide +kernel
theorem d_Graph_inputsOf_12 : decode c_Graph_inputsOf 12 = .ok (.aaload, 1) := by decide +kernel
theorem d_Graph_inputsOf_13 : decode c_Graph_inputsOf 13 = .ok (.aastore, 1) := by decide +kernel
theorem d_Graph_inputsOf_14 : decode c_Graph_inputsOf 14 = .ok (.aload_n 2, 1) := by decide +kernel
theorem d_Graph_inputsOf_15 : decode c_Graph_inputsOf 15 = .ok (.areturn, 1) := by decide +kernel
theorem d_Graph_inputsOf2_0 : decode c_Graph_inputsOf2 0 = .ok (.iconst 2, 1) := by decide +kernel
theorem d_Graph_inputsOf2_1 : decode c_Graph_inputsOf2 1 = .ok (.anewarray 9, 3) := by decide +kernel
theorem d_Graph_inputsOf2_4 : decode c_Graph_inputsOf2 4 = .ok (.astore_n 3, 1) := by decide +kernel
theorem d_Graph_inputsOf2_5 : decode c_Graph_inputsOf2 5 = .ok (.aload_n 3, 1) := by decide +kernel
theorem d_Graph_inputsOf2_6 : decode c_Graph_inputsOf2 6 = .ok (.iconst 0, 1) := by decide +kernel
theorem d_Graph_inputsOf2_7 : decode c_Graph_inputsOf2 7 = .ok (.aload_n 0, 1) := by decide +kernel
theorem d_Graph_inputsOf2_8 : decode c_Graph_inputsOf2 8 = .ok (.getfield 11, 3) := by decide +kernel
theorem d_Graph_inputsOf2_11 : decode c_Graph_inputsOf2 11 = .ok (.iload_n 1, 1) := by decide +kernel
theorem d_Graph_inputsOf2_12 : decode c_Graph_inputsOf2 12 = .ok (.aaload, 1) := by decide +kernel
theorem d_Graph_inputsOf2_13 : decode c_Graph_inputsOf2 13 = .ok (.aastore, 1) := by decide +kernel
theorem d_Graph_inputsOf2_14 : decode c_Graph_inputsOf2 14 = .ok (.aload_n 3, 1) := by decide +kernel
theorem d_Graph_inputsOf2_15 : decode c_Graph_inputsOf2 15 = .ok (.iconst 1, 1) := by decide +kernel
theorem d_Graph_inputsOf2_16 : decode c_Graph_inputsOf2 16 = .ok (.aload_n 0, 1) := by decide +kernel
theorem d_Graph_inputsOf2_17 : decode c_Graph_inputsOf2 17 = .ok (.getfield 11, 3) := by decide +kernel
theorem d_Graph_inputsOf2_20 : decode c_Graph_inputsOf2 20 = .ok (.iload_n 2, 1) := by decide +kernel
theorem d_Graph_inputsOf2_21 : decode c_Graph_inputsOf2 21 = .ok (.aaload, 1) := by decide +kernel
theorem d_Graph_inputsOf2_22 : decode c_Graph_inputsOf2 22 = .ok (.aastore, 1) := by decide +kernel
theorem d_Graph_inputsOf2_23 : decode c_Graph_inputsOf2 23 = .ok (.aload_n 3, 1) := by decide +kernel
theorem d_Graph_inputsOf2_24 : decode c_Graph_inputsOf2 24 = .ok (.areturn, 1) := by decide +kernel
theorem d_Graph_hasAll_0 : decode c_Graph_hasAll 0 = .ok (.lload_n 1, 1) := by decide +kernel
theorem d_Graph_hasAll_1 : decode c_Graph_hasAll 1 = .ok (.lconst 0, 1) := by decide +kernel
theorem d_Graph_hasAll_2 : decode c_Graph_hasAll 2 = .ok (.lcmp, 1) := by decide +kernel
theorem d_Graph_hasAll_3 : decode c_Graph_hasAll 3 = .ok (.ifCond .eq 18, 3) := by decide +kernel
theorem d_Graph_hasAll_6 : decode c_Graph_hasAll 6 = .ok (.lload_n 1, 1) := by decide +kernel
theorem d_Graph_hasAll_7 : decode c_Graph_hasAll 7 = .ok (.aload_n 0, 1) := by decide +kernel
theorem d_Graph_hasAll_8 : decode c_Graph_hasAll 8 = .ok (.getfield 25, 3) := by decide +kernel
theorem d_Graph_hasAll_11 : decode c_Graph_hasAll 11 = .ok (.lushr, 1) := by decide +kernel
theorem d_Graph_hasAll_12 : decode c_Graph_hasAll 12 = .ok (.lconst 0, 1) := by decide +kernel
theorem d_Graph_hasAll_13 : decode c_Graph_hasAll 13 = .ok (.lcmp, 1) := by decide +kernel
theorem d_Graph_hasAll_14 : decode c_Graph_hasAll 14 = .ok (.ifCond .ne 7, 3) := by decide +kernel
theorem d_Graph_hasAll_17 : decode c_Graph_hasAll 17 = .ok (.iconst 1, 1) := by decide +kernel
theorem d_Graph_hasAll_18 : decode c_Graph_hasAll 18 = .ok (.goto 4, 3) := by decide +kernel
theorem d_Graph_hasAll_21 : decode c_Graph_hasAll 21 = .ok (.iconst 0, 1) := by decide +kernel
theorem d_Graph_hasAll_22 : decode c_Graph_hasAll 22 = .ok (.ireturn, 1) := by decide +kernel
theorem d_Graph_inputsOfSet_0 : decode c_Graph_inputsOfSet 0 = .ok (.lload_n 1, 1) := by decide +kernel
theorem d_Graph_inputsOfSet_1 : decode c_Graph_inputsOfSet 1 = .ok (.invokestatic 41, 3) := by decide +kernel
theorem d_Graph_inputsOfSet_4 : decode c_Graph_inputsOfSet 4 = .ok (.anewarray 9, 3) := by decide +kernel
theorem d_Graph_inputsOfSet_7 : decode c_Graph_inputsOfSet 7 = .ok (.astore_n 3, 1) := by decide +kernel
theorem d_Graph_inputsOfSet_8 : decode c_Graph_inputsOfSet 8 = .ok (.iconst 0, 1) := by decide +kernel
theorem d_Graph_inputsOfSet_9 : decode c_Graph_inputsOfSet 9 = .ok (.istore 4, 2) := by decide +kernel
theorem d_Graph_inputsOfSet_11 : decode c_Graph_inputsOfSet 11 = .ok (.iconst 0, 1) := by decide +kernel
theorem d_Graph_inputsOfSet_12 : decode c_Graph_inputsOfSet 12 = .ok (.istore 5, 2) := by decide +kernel
theorem d_Graph_inputsOfSet_14 : decode c_Graph_inputsOfSet 14 = .ok (.iload 5, 2) := by decide +kernel
theorem d_Graph_inputsOfSet_16 : decode c_Graph_inputsOfSet 16 = .ok (.aload_n 0, 1) := by decide +kernel
theorem d_Graph_inputsOfSet_17 : decode c_Graph_inputsOfSet 17 = .ok (.getfield 25, 3) := by decide +kernel
theorem d_Graph_inputsOfSet_20 : decode c_Graph_inputsOfSet 20 = .ok (.if_icmp .ge 34, 3) := by decide +kernel
theorem d_Graph_inputsOfSet_23 : decode c_Graph_inputsOfSet 23 = .ok (.lload_n 1, 1) := by decide +kernel
theorem d_Graph_inputsOfSet_24 : decode c_Graph_inputsOfSet 24 = .ok (.iload 5, 2) := by decide +kernel
theorem d_Graph_inputsOfSet_26 : decode c_Graph_inputsOfSet 26 = .ok (.lushr, 1) := by decide +kernel
theorem d_Graph_inputsOfSet_27 : decode c_Graph_inputsOfSet 27 = .ok (.lconst 1, 1) := by decide +kernel
theorem d_Graph_inputsOfSet_28 : decode c_Graph_inputsOfSet 28 = .ok (.land, 1) := by decide +kernel
theorem d_Graph_inputsOfSet_29 : decode c_Graph_inputsOfSet 29 = .ok (.lconst 0, 1) := by decide +kernel
theorem d_Graph_inputsOfSet_30 : decode c_Graph_inputsOfSet 30 = .ok (.lcmp, 1) := by decide +kernel
theorem d_Graph_inputsOfSet_31 : decode c_Graph_inputsOfSet 31 = .ok (.ifCond .eq 17, 3) := by decide +kernel
theorem d_Graph_inputsOfSet_34 : decode c_Graph_inputsOfSet 34 = .ok (.aload_n 3, 1) := by decide +kernel
theorem d_Graph_inputsOfSet_35 : decode c_Graph_inputsOfSet 35 = .ok (.iload 4, 2) := by decide +kernel
theorem d_Graph_inputsOfSet_37 : decode c_Graph_inputsOfSet 37 = .ok (.aload_n 0, 1) := by decide +kernel
theorem d_Graph_inputsOfSet_38 : decode c_Graph_inputsOfSet 38 = .ok (.getfield 11, 3) := by decide +kernel
theorem d_Graph_inputsOfSet_41 : decode c_Graph_inputsOfSet 41 = .ok (.iload 5, 2) := by decide +kernel
theorem d_Graph_inputsOfSet_43 : decode c_Graph_inputsOfSet 43 = .ok (.aaload, 1) := by decide +kernel
theorem d_Graph_inputsOfSet_44 : decode c_Graph_inputsOfSet 44 = .ok (.aastore, 1) := by decide +kernel
theorem d_Graph_inputsOfSet_45 : decode c_Graph_inputsOfSet 45 = .ok (.iinc 4 1, 3) := by decide +kernel
theorem d_Graph_inputsOfSet_48 : decode c_Graph_inputsOfSet 48 = .ok (.iinc 5 1, 3) := by decide +kernel
theorem d_Graph_inputsOfSet_51 : decode c_Graph_inputsOfSet 51 = .ok (.goto (-37), 3) := by decide +kernel
theorem d_Graph_inputsOfSet_54 : decode c_Graph_inputsOfSet 54 = .ok (.aload_n 3, 1) := by decide +kernel
theorem d_Graph_inputsOfSet_55 : decode c_Graph_inputsOfSet 55 = .ok (.areturn, 1) := by decide +kernel
end
section
/-! decode rows (by walk.py) -/
theorem d_Tree_init_0 : decode c_Tree_init 0 = .ok (.aload_n 0, 1) := by decide +kernel
theorem d_Tree_init_1 : decode c_Tree_init 1 = .ok (.invokespecial 1, 3) := by decide +kernel
theorem d_Tree_init_4 : decode c_Tree_init 4 = .ok (.aload_n 0, 1) := by decide +kernel
theorem d_Tree_init_5 : decode c_Tree_init 5 = .ok (.bipush 12, 2) := by decide +kernel
theorem d_Tree_init_7 : decode c_Tree_init 7 = .ok (.anewarray 9, 3) := by decide +kernel
theorem d_Tree_init_10 : decode c_Tree_init 10 = .ok (.putfield 11, 3) := by decide +kernel
theorem d_Tree_init_13 : decode c_Tree_init 13 = .ok (.aload_n 0, 1) := by decide +kernel
theorem d_Tree_init_14 : decode c_Tree_init 14 = .ok (.bipush 30, 2) := by decide +kernel
theorem d_Tree_init_16 : decode c_Tree_init 16 = .ok (.anewarray 15, 3) := by decide +kernel
theorem d_Tree_init_19 : decode c_Tree_init 19 = .ok (.putfield 17, 3) := by decide +kernel
theorem d_Tree_init_22 : decode c_Tree_init 22 = .ok (.return_, 1) := by decide +kernel
theorem d_Tree_findOpen_0 : decode c_Tree_findOpen 0 = .ok (.aload_n 0, 1) := by decide +kernel
theorem d_Tree_findOpen_1 : decode c_Tree_findOpen 1 = .ok (.iload_n 1, 1) := by decide +kernel
theorem d_Tree_findOpen_2 : decode c_Tree_findOpen 2 = .ok (.invokevirtual 28, 3) := by decide +kernel
theorem d_Tree_findOpen_5 : decode c_Tree_findOpen 5 = .ok (.astore_n 2, 1) := by decide +kernel
theorem d_Tree_findOpen_6 : decode c_Tree_findOpen 6 = .ok (.aload_n 2, 1) := by decide +kernel
theorem d_Tree_findOpen_7 : decode c_Tree_findOpen 7 = .ok (.ifnull 14, 3) := by decide +kernel
theorem d_Tree_findOpen_10 : decode c_Tree_findOpen 10 = .ok (.aload_n 2, 1) := by decide +kernel
theorem d_Tree_findOpen_11 : decode c_Tree_findOpen 11 = .ok (.getfield 32, 3) := by decide +kernel
theorem d_Tree_findOpen_14 : decode c_Tree_findOpen 14 = .ok (.ifCond .ne 7, 3) := by decide +kernel
theorem d_Tree_findOpen_17 : decode c_Tree_findOpen 17 = .ok (.aload_n 2, 1) := by decide +kernel
theorem d_Tree_findOpen_18 : decode c_Tree_findOpen 18 = .ok (.goto 4, 3) := by decide +kernel
theorem d_Tree_findOpen_21 : decode c_Tree_findOpen 21 = .ok (.aconst_null, 1) := by decide +kernel
theorem d_Tree_findOpen_22 : decode c_Tree_findOpen 22 = .ok (.areturn, 1) := by decide +kernel
theorem d_Tree_find_0 : decode c_Tree_find 0 = .ok (.iload_n 1, 1) := by decide +kernel
theorem d_Tree_find_1 : decode c_Tree_find 1 = .ok (.ifCond .lt 20, 3) := by decide +kernel
theorem d_Tree_find_4 : decode c_Tree_find 4 = .ok (.iload_n 1, 1) := by decide +kernel
theorem d_Tree_find_5 : decode c_Tree_find 5 = .ok (.aload_n 0, 1) := by decide +kernel
theorem d_Tree_find_6 : decode c_Tree_find 6 = .ok (.getfield 21, 3) := by decide +kernel
theorem d_Tree_find_9 : decode c_Tree_find 9 = .ok (.if_icmp .ge 12, 3) := by decide +kernel
theorem d_Tree_find_12 : decode c_Tree_find 12 = .ok (.aload_n 0, 1) := by decide +kernel
theorem d_Tree_find_13 : decode c_Tree_find 13 = .ok (.getfield 11, 3) := by decide +kernel
theorem d_Tree_find_16 : decode c_Tree_find 16 = .ok (.iload_n 1, 1) := by decide +kernel
theorem d_Tree_find_17 : decode c_Tree_find 17 = .ok (.aaload, 1) := by decide +kernel
theorem d_Tree_find_18 : decode c_Tree_find 18 = .ok (.goto 4, 3) := by decide +kernel
theorem d_Tree_find_21 : decode c_Tree_find 21 = .ok (.aconst_null, 1) := by decide +kernel
theorem d_Tree_find_22 : decode c_Tree_find 22 = .ok (.areturn, 1) := by decide +kernel
theorem d_Scope_isKey_0 : decode c_Scope_isKey 0 = .ok (.iload_n 0, 1) := by decide +kernel
theorem d_Scope_isKey_1 : decode c_Scope_isKey 1 = .ok (.ifCond .lt 12, 3) := by decide +kernel
theorem d_Scope_isKey_4 : decode c_Scope_isKey 4 = .ok (.iload_n 0, 1) := by decide +kernel
theorem d_Scope_isKey_5 : decode c_Scope_isKey 5 = .ok (.iconst 4, 1) := by decide +kernel
theorem d_Scope_isKey_6 : decode c_Scope_isKey 6 = .ok (.if_icmp .ge 7, 3) := by decide +kernel
theorem d_Scope_isKey_9 : decode c_Scope_isKey 9 = .ok (.iconst 1, 1) := by decide +kernel
theorem d_Scope_isKey_10 : decode c_Scope_isKey 10 = .ok (.goto 4, 3) := by decide +kernel
theorem d_Scope_isKey_13 : decode c_Scope_isKey 13 = .ok (.iconst 0, 1) := by decide +kernel
theorem d_Scope_isKey_14 : decode c_Scope_isKey 14 = .ok (.ireturn, 1) := by decide +kernel
theorem d_Scope_keep_0 : decode c_Scope_keep 0 = .ok (.aload_n 0, 1) := by decide +kernel
theorem d_Scope_keep_1 : decode c_Scope_keep 1 = .ok (.getfield 29, 3) := by decide +kernel
theorem d_Scope_keep_4 : decode c_Scope_keep 4 = .ok (.iload_n 1, 1) := by decide +kernel
theorem d_Scope_keep_5 : decode c_Scope_keep 5 = .ok (.iload_n 2, 1) := by decide +kernel
theorem d_Scope_keep_6 : decode c_Scope_keep 6 = .ok (.iastore, 1) := by decide +kernel
theorem d_Scope_keep_7 : decode c_Scope_keep 7 = .ok (.aload_n 0, 1) := by decide +kernel
theorem d_Scope_keep_8 : decode c_Scope_keep 8 = .ok (.getfield 33, 3) := by decide +kernel
theorem d_Scope_keep_11 : decode c_Scope_keep 11 = .ok (.iload_n 1, 1) := by decide +kernel
theorem d_Scope_keep_12 : decode c_Scope_keep 12 = .ok (.iconst 1, 1) := by decide +kernel
theorem d_Scope_keep_13 : decode c_Scope_keep 13 = .ok (.bastore, 1) := by decide +kernel
theorem d_Scope_keep_14 : decode c_Scope_keep 14 = .ok (.return_, 1) := by decide +kernel
theorem d_Tree_hasOpenBelow_0 : decode c_Tree_hasOpenBelow 0 = .ok (.iconst 0, 1) := by decide +kernel
theorem d_Tree_hasOpenBelow_1 : decode c_Tree_hasOpenBelow 1 = .ok (.istore_n 2, 1) := by decide +kernel
theorem d_Tree_hasOpenBelow_2 : decode c_Tree_hasOpenBelow 2 = .ok (.iload_n 2, 1) := by decide +kernel
theorem d_Tree_hasOpenBelow_3 : decode c_Tree_hasOpenBelow 3 = .ok (.aload_n 0, 1) := by decide +kernel
theorem d_Tree_hasOpenBelow_4 : decode c_Tree_hasOpenBelow 4 = .ok (.getfield 21, 3) := by decide +kernel
theorem d_Tree_hasOpenBelow_7 : decode c_Tree_hasOpenBelow 7 = .ok (.if_icmp .ge 36, 3) := by decide +kernel
theorem d_Tree_hasOpenBelow_10 : decode c_Tree_hasOpenBelow 10 = .ok (.aload_n 0, 1) := by decide +kernel
theorem d_Tree_hasOpenBelow_11 : decode c_Tree_hasOpenBelow 11 = .ok (.getfield 11, 3) := by decide +kernel
theorem d_Tree_hasOpenBelow_14 : decode c_Tree_hasOpenBelow 14 = .ok (.iload_n 2, 1) := by decide +kernel
theorem d_Tree_hasOpenBelow_15 : decode c_Tree_hasOpenBelow 15 = .ok (.aaload, 1) := by decide +kernel
theorem d_Tree_hasOpenBelow_16 : decode c_Tree_hasOpenBelow 16 = .ok (.getfield 32, 3) := by decide +kernel
theorem d_Tree_hasOpenBelow_19 : decode c_Tree_hasOpenBelow 19 = .ok (.ifCond .ne 18, 3) := by decide +kernel
theorem d_Tree_hasOpenBelow_22 : decode c_Tree_hasOpenBelow 22 = .ok (.aload_n 0, 1) := by decide +kernel
theorem d_Tree_hasOpenBelow_23 : decode c_Tree_hasOpenBelow 23 = .ok (.getfield 11, 3) := by decide +kernel
theorem d_Tree_hasOpenBelow_26 : decode c_Tree_hasOpenBelow 26 = .ok (.iload_n 2, 1) := by decide +kernel
theorem d_Tree_hasOpenBelow_27 : decode c_Tree_hasOpenBelow 27 = .ok (.aaload, 1) := by decide +kernel
theorem d_Tree_hasOpenBelow_28 : decode c_Tree_hasOpenBelow 28 = .ok (.aload_n 1, 1) := by decide +kernel
theorem d_Tree_hasOpenBelow_29 : decode c_Tree_hasOpenBelow 29 = .ok (.invokevirtual 54, 3) := by decide +kernel
theorem d_Tree_hasOpenBelow_32 : decode c_Tree_hasOpenBelow 32 = .ok (.ifCond .eq 5, 3) := by decide +kernel
theorem d_Tree_hasOpenBelow_35 : decode c_Tree_hasOpenBelow 35 = .ok (.iconst 1, 1) := by decide +kernel
theorem d_Tree_hasOpenBelow_36 : decode c_Tree_hasOpenBelow 36 = .ok (.ireturn, 1) := by decide +kernel
theorem d_Tree_hasOpenBelow_37 : decode c_Tree_hasOpenBelow 37 = .ok (.iinc 2 1, 3) := by decide +kernel
theorem d_Tree_hasOpenBelow_40 : decode c_Tree_hasOpenBelow 40 = .ok (.goto (-38), 3) := by decide +kernel
theorem d_Tree_hasOpenBelow_43 : decode c_Tree_hasOpenBelow 43 = .ok (.iconst 0, 1) := by decide +kernel
theorem d_Tree_hasOpenBelow_44 : decode c_Tree_hasOpenBelow 44 = .ok (.ireturn, 1) := by decide +kernel
theorem d_Scope_isBelow_0 : decode c_Scope_isBelow 0 = .ok (.aload_n 0, 1) := by decide +kernel
theorem d_Scope_isBelow_1 : decode c_Scope_isBelow 1 = .ok (.getfield 15, 3) := by decide +kernel
theorem d_Scope_isBelow_4 : decode c_Scope_isBelow 4 = .ok (.astore_n 2, 1) := by decide +kernel
theorem d_Scope_isBelow_5 : decode c_Scope_isBelow 5 = .ok (.aload_n 2, 1) := by decide +kernel
theorem d_Scope_isBelow_6 : decode c_Scope_isBelow 6 = .ok (.ifnull 18, 3) := by decide +kernel
theorem d_Scope_isBelow_9 : decode c_Scope_isBelow 9 = .ok (.aload_n 2, 1) := by decide +kernel
theorem d_Scope_isBelow_10 : decode c_Scope_isBelow 10 = .ok (.aload_n 1, 1) := by decide +kernel
theorem d_Scope_isBelow_11 : decode c_Scope_isBelow 11 = .ok (.if_acmp .ne 5, 3) := by decide +kernel
theorem d_Scope_isBelow_14 : decode c_Scope_isBelow 14 = .ok (.iconst 1, 1) := by decide +kernel
theorem d_Scope_isBelow_15 : decode c_Scope_isBelow 15 = .ok (.ireturn, 1) := by decide +kernel
theorem d_Scope_isBelow_16 : decode c_Scope_isBelow 16 = .ok (.aload_n 2, 1) := by decide +kernel
theorem d_Scope_isBelow_17 : decode c_Scope_isBelow 17 = .ok (.getfield 15, 3) := by decide +kernel
theorem d_Scope_isBelow_20 : decode c_Scope_isBelow 20 = .ok (.astore_n 2, 1) := by decide +kernel
theorem d_Scope_isBelow_21 : decode c_Scope_isBelow 21 = .ok (.goto (-16), 3) := by decide +kernel
theorem d_Scope_isBelow_24 : decode c_Scope_isBelow 24 = .ok (.iconst 0, 1) := by decide +kernel
theorem d_Scope_isBelow_25 : decode c_Scope_isBelow 25 = .ok (.ireturn, 1) := by decide +kernel
theorem d_Tree_closeAllThatCan_0 : decode c_Tree_closeAllThatCan 0 = .ok (.aload_n 0, 1) := by decide +kernel
theorem d_Tree_closeAllThatCan_1 : decode c_Tree_closeAllThatCan 1 = .ok (.getfield 21, 3) := by decide +kernel
theorem d_Tree_closeAllThatCan_4 : decode c_Tree_closeAllThatCan 4 = .ok (.iconst 1, 1) := by decide +kernel
theorem d_Tree_closeAllThatCan_5 : decode c_Tree_closeAllThatCan 5 = .ok (.isub, 1) := by decide +kernel
theorem d_Tree_closeAllThatCan_6 : decode c_Tree_closeAllThatCan 6 = .ok (.istore_n 2, 1) := by decide +kernel
theorem d_Tree_closeAllThatCan_7 : decode c_Tree_closeAllThatCan 7 = .ok (.iload_n 2, 1) := by decide +kernel
theorem d_Tree_closeAllThatCan_8 : decode c_Tree_closeAllThatCan 8 = .ok (.ifCond .lt 52, 3) := by decide +kernel
theorem d_Tree_closeAllThatCan_11 : decode c_Tree_closeAllThatCan 11 = .ok (.aload_n 0, 1) := by decide +kernel
theorem d_Tree_closeAllThatCan_12 : decode c_Tree_closeAllThatCan 12 = .ok (.getfield 11, 3) := by decide +kernel
theorem d_Tree_closeAllThatCan_15 : decode c_Tree_closeAllThatCan 15 = .ok (.iload_n 2, 1) := by decide +kernel
theorem d_Tree_closeAllThatCan_16 : decode c_Tree_closeAllThatCan 16 = .ok (.aaload, 1) := by decide +kernel
theorem d_Tree_closeAllThatCan_17 : decode c_Tree_closeAllThatCan 17 = .ok (.astore_n 3, 1) := by decide +kernel
theorem d_Tree_closeAllThatCan_18 : decode c_Tree_closeAllThatCan 18 = .ok (.aload_n 3, 1) := by decide +kernel
theorem d_Tree_closeAllThatCan_19 : decode c_Tree_closeAllThatCan 19 = .ok (.getfield 32, 3) := by decide +kernel
theorem d_Tree_closeAllThatCan_22 : decode c_Tree_closeAllThatCan 22 = .ok (.iconst 1, 1) := by decide +kernel
theorem d_Tree_closeAllThatCan_23 : decode c_Tree_closeAllThatCan 23 = .ok (.if_icmp .ne 31, 3) := by decide +kernel
theorem d_Tree_closeAllThatCan_26 : decode c_Tree_closeAllThatCan 26 = .ok (.aload_n 0, 1) := by decide +kernel
theorem d_Tree_closeAllThatCan_27 : decode c_Tree_closeAllThatCan 27 = .ok (.aload_n 3, 1) := by decide +kernel
theorem d_Tree_closeAllThatCan_28 : decode c_Tree_closeAllThatCan 28 = .ok (.iconst 0, 1) := by decide +kernel
theorem d_Tree_closeAllThatCan_29 : decode c_Tree_closeAllThatCan 29 = .ok (.invokevirtual 99, 3) := by decide +kernel
theorem d_Tree_closeAllThatCan_32 : decode c_Tree_closeAllThatCan 32 = .ok (.ifCond .ne 22, 3) := by decide +kernel
theorem d_Tree_closeAllThatCan_35 : decode c_Tree_closeAllThatCan 35 = .ok (.aload_n 0, 1) := by decide +kernel
theorem d_Tree_closeAllThatCan_36 : decode c_Tree_closeAllThatCan 36 = .ok (.aload_n 3, 1) := by decide +kernel
theorem d_Tree_closeAllThatCan_37 : decode c_Tree_closeAllThatCan 37 = .ok (.invokevirtual 102, 3) := by decide +kernel
theorem d_Tree_closeAllThatCan_40 : decode c_Tree_closeAllThatCan 40 = .ok (.ifCond .ne 14, 3) := by decide +kernel
theorem d_Tree_closeAllThatCan_43 : decode c_Tree_closeAllThatCan 43 = .ok (.aload_n 3, 1) := by decide +kernel
theorem d_Tree_closeAllThatCan_44 : decode c_Tree_closeAllThatCan 44 = .ok (.iconst 2, 1) := by decide +kernel
theorem d_Tree_closeAllThatCan_45 : decode c_Tree_closeAllThatCan 45 = .ok (.putfield 32, 3) := by decide +kernel
theorem d_Tree_closeAllThatCan_48 : decode c_Tree_closeAllThatCan 48 = .ok (.aload_n 0, 1) := by decide +kernel
theorem d_Tree_closeAllThatCan_49 : decode c_Tree_closeAllThatCan 49 = .ok (.aload_n 3, 1) := by decide +kernel
theorem d_Tree_closeAllThatCan_50 : decode c_Tree_closeAllThatCan 50 = .ok (.aload_n 1, 1) := by decide +kernel
theorem d_Tree_closeAllThatCan_51 : decode c_Tree_closeAllThatCan 51 = .ok (.invokevirtual 105, 3) := by decide +kernel
theorem d_Tree_closeAllThatCan_54 : decode c_Tree_closeAllThatCan 54 = .ok (.iinc 2 (-1), 3) := by decide +kernel
theorem d_Tree_closeAllThatCan_57 : decode c_Tree_closeAllThatCan 57 = .ok (.goto (-50), 3) := by decide +kernel
theorem d_Tree_closeAllThatCan_60 : decode c_Tree_closeAllThatCan 60 = .ok (.return_, 1) := by decide +kernel
theorem d_Tree_countTasks_0 : decode c_Tree_countTasks 0 = .ok (.iconst 0, 1) := by decide +kernel
theorem d_Tree_countTasks_1 : decode c_Tree_countTasks 1 = .ok (.istore_n 3, 1) := by decide +kernel
theorem d_Tree_countTasks_2 : decode c_Tree_countTasks 2 = .ok (.iconst 0, 1) := by decide +kernel
theorem d_Tree_countTasks_3 : decode c_Tree_countTasks 3 = .ok (.istore 4, 2) := by decide +kernel
theorem d_Tree_countTasks_5 : decode c_Tree_countTasks 5 = .ok (.iload 4, 2) := by decide +kernel
theorem d_Tree_countTasks_7 : decode c_Tree_countTasks 7 = .ok (.aload_n 0, 1) := by decide +kernel
theorem d_Tree_countTasks_8 : decode c_Tree_countTasks 8 = .ok (.getfield 25, 3) := by decide +kernel
theorem d_Tree_countTasks_11 : decode c_Tree_countTasks 11 = .ok (.if_icmp .ge 40, 3) := by decide +kernel
theorem d_Tree_countTasks_14 : decode c_Tree_countTasks 14 = .ok (.aload_n 0, 1) := by decide +kernel
theorem d_Tree_countTasks_15 : decode c_Tree_countTasks 15 = .ok (.getfield 17, 3) := by decide +kernel
theorem d_Tree_countTasks_18 : decode c_Tree_countTasks 18 = .ok (.iload 4, 2) := by decide +kernel
theorem d_Tree_countTasks_20 : decode c_Tree_countTasks 20 = .ok (.aaload, 1) := by decide +kernel
theorem d_Tree_countTasks_21 : decode c_Tree_countTasks 21 = .ok (.getfield 49, 3) := by decide +kernel
theorem d_Tree_countTasks_24 : decode c_Tree_countTasks 24 = .ok (.aload_n 1, 1) := by decide +kernel
theorem d_Tree_countTasks_25 : decode c_Tree_countTasks 25 = .ok (.if_acmp .ne 20, 3) := by decide +kernel
theorem d_Tree_countTasks_28 : decode c_Tree_countTasks 28 = .ok (.aload_n 0, 1) := by decide +kernel
theorem d_Tree_countTasks_29 : decode c_Tree_countTasks 29 = .ok (.getfield 17, 3) := by decide +kernel
theorem d_Tree_countTasks_32 : decode c_Tree_countTasks 32 = .ok (.iload 4, 2) := by decide +kernel
theorem d_Tree_countTasks_34 : decode c_Tree_countTasks 34 = .ok (.aaload, 1) := by decide +kernel
theorem d_Tree_countTasks_35 : decode c_Tree_countTasks 35 = .ok (.getfield 53, 3) := by decide +kernel
theorem d_Tree_countTasks_38 : decode c_Tree_countTasks 38 = .ok (.iload_n 2, 1) := by decide +kernel
theorem d_Tree_countTasks_39 : decode c_Tree_countTasks 39 = .ok (.if_icmp .ne 6, 3) := by decide +kernel
theorem d_Tree_countTasks_42 : decode c_Tree_countTasks 42 = .ok (.iinc 3 1, 3) := by decide +kernel
theorem d_Tree_countTasks_45 : decode c_Tree_countTasks 45 = .ok (.iinc 4 1, 3) := by decide +kernel
theorem d_Tree_countTasks_48 : decode c_Tree_countTasks 48 = .ok (.goto (-43), 3) := by decide +kernel
theorem d_Tree_countTasks_51 : decode c_Tree_countTasks 51 = .ok (.iload_n 3, 1) := by decide +kernel
theorem d_Tree_countTasks_52 : decode c_Tree_countTasks 52 = .ok (.ireturn, 1) := by decide +kernel
theorem d_Tree_hasUnclosedBelow_0 : decode c_Tree_hasUnclosedBelow 0 = .ok (.iconst 0, 1) := by decide +kernel
theorem d_Tree_hasUnclosedBelow_1 : decode c_Tree_hasUnclosedBelow 1 = .ok (.istore_n 2, 1) := by decide +kernel
theorem d_Tree_hasUnclosedBelow_2 : decode c_Tree_hasUnclosedBelow 2 = .ok (.iload_n 2, 1) := by decide +kernel
theorem d_Tree_hasUnclosedBelow_3 : decode c_Tree_hasUnclosedBelow 3 = .ok (.aload_n 0, 1) := by decide +kernel
theorem d_Tree_hasUnclosedBelow_4 : decode c_Tree_hasUnclosedBelow 4 = .ok (.getfield 21, 3) := by decide +kernel
theorem d_Tree_hasUnclosedBelow_7 : decode c_Tree_hasUnclosedBelow 7 = .ok (.if_icmp .ge 37, 3) := by decide +kernel
theorem d_Tree_hasUnclosedBelow_10 : decode c_Tree_hasUnclosedBelow 10 = .ok (.aload_n 0, 1) := by decide +kernel
theorem d_Tree_hasUnclosedBelow_11 : decode c_Tree_hasUnclosedBelow 11 = .ok (.getfield 11, 3) := by decide +kernel
theorem d_Tree_hasUnclosedBelow_14 : decode c_Tree_hasUnclosedBelow 14 = .ok (.iload_n 2, 1) := by decide +kernel
theorem d_Tree_hasUnclosedBelow_15 : decode c_Tree_hasUnclosedBelow 15 = .ok (.aaload, 1) := by decide +kernel
theorem d_Tree_hasUnclosedBelow_16 : decode c_Tree_hasUnclosedBelow 16 = .ok (.getfield 32, 3) := by decide +kernel
theorem d_Tree_hasUnclosedBelow_19 : decode c_Tree_hasUnclosedBelow 19 = .ok (.iconst 2, 1) := by decide +kernel
theorem d_Tree_hasUnclosedBelow_20 : decode c_Tree_hasUnclosedBelow 20 = .ok (.if_icmp .eq 18, 3) := by decide +kernel
theorem d_Tree_hasUnclosedBelow_23 : decode c_Tree_hasUnclosedBelow 23 = .ok (.aload_n 0, 1) := by decide +kernel
theorem d_Tree_hasUnclosedBelow_24 : decode c_Tree_hasUnclosedBelow 24 = .ok (.getfield 11, 3) := by decide +kernel
theorem d_Tree_hasUnclosedBelow_27 : decode c_Tree_hasUnclosedBelow 27 = .ok (.iload_n 2, 1) := by decide +kernel
theorem d_Tree_hasUnclosedBelow_28 : decode c_Tree_hasUnclosedBelow 28 = .ok (.aaload, 1) := by decide +kernel
theorem d_Tree_hasUnclosedBelow_29 : decode c_Tree_hasUnclosedBelow 29 = .ok (.aload_n 1, 1) := by decide +kernel
theorem d_Tree_hasUnclosedBelow_30 : decode c_Tree_hasUnclosedBelow 30 = .ok (.invokevirtual 54, 3) := by decide +kernel
theorem d_Tree_hasUnclosedBelow_33 : decode c_Tree_hasUnclosedBelow 33 = .ok (.ifCond .eq 5, 3) := by decide +kernel
theorem d_Tree_hasUnclosedBelow_36 : decode c_Tree_hasUnclosedBelow 36 = .ok (.iconst 1, 1) := by decide +kernel
theorem d_Tree_hasUnclosedBelow_37 : decode c_Tree_hasUnclosedBelow 37 = .ok (.ireturn, 1) := by decide +kernel
theorem d_Tree_hasUnclosedBelow_38 : decode c_Tree_hasUnclosedBelow 38 = .ok (.iinc 2 1, 3) := by decide +kernel
theorem d_Tree_hasUnclosedBelow_41 : decode c_Tree_hasUnclosedBelow 41 = .ok (.goto (-39), 3) := by decide +kernel
theorem d_Tree_hasUnclosedBelow_44 : decode c_Tree_hasUnclosedBelow 44 = .ok (.iconst 0, 1) := by decide +kernel
theorem d_Tree_hasUnclosedBelow_45 : decode c_Tree_hasUnclosedBelow 45 = .ok (.ireturn, 1) := by decide +kernel
theorem d_Tree_giveResult_0 : decode c_Tree_giveResult 0 = .ok (.aload_n 1, 1) := by decide +kernel
theorem d_Tree_giveResult_1 : decode c_Tree_giveResult 1 = .ok (.getfield 109, 3) := by decide +kernel
theorem d_Tree_giveResult_4 : decode c_Tree_giveResult 4 = .ok (.getfield 113, 3) := by decide +kernel
theorem d_Tree_giveResult_7 : decode c_Tree_giveResult 7 = .ok (.ifCond .eq 4, 3) := by decide +kernel
theorem d_Tree_giveResult_10 : decode c_Tree_giveResult 10 = .ok (.return_, 1) := by decide +kernel
theorem d_Tree_giveResult_11 : decode c_Tree_giveResult 11 = .ok (.aload_n 1, 1) := by decide +kernel
theorem d_Tree_giveResult_12 : decode c_Tree_giveResult 12 = .ok (.getfield 83, 3) := by decide +kernel
theorem d_Tree_giveResult_15 : decode c_Tree_giveResult 15 = .ok (.ifCond .eq 17, 3) := by decide +kernel
theorem d_Tree_giveResult_18 : decode c_Tree_giveResult 18 = .ok (.aload_n 2, 1) := by decide +kernel
theorem d_Tree_giveResult_19 : decode c_Tree_giveResult 19 = .ok (.aload_n 1, 1) := by decide +kernel
theorem d_Tree_giveResult_20 : decode c_Tree_giveResult 20 = .ok (.getfield 109, 3) := by decide +kernel
theorem d_Tree_giveResult_23 : decode c_Tree_giveResult 23 = .ok (.iconst 2, 1) := by decide +kernel
theorem d_Tree_giveResult_24 : decode c_Tree_giveResult 24 = .ok (.bipush 7, 2) := by decide +kernel
theorem d_Tree_giveResult_26 : decode c_Tree_giveResult 26 = .ok (.invokevirtual 116, 3) := by decide +kernel
theorem d_Tree_giveResult_29 : decode c_Tree_giveResult 29 = .ok (.goto 56, 3) := by decide +kernel
theorem d_Tree_giveResult_32 : decode c_Tree_giveResult 32 = .ok (.aload_n 0, 1) := by decide +kernel
theorem d_Tree_giveResult_33 : decode c_Tree_giveResult 33 = .ok (.aload_n 1, 1) := by decide +kernel
theorem d_Tree_giveResult_34 : decode c_Tree_giveResult 34 = .ok (.invokevirtual 122, 3) := by decide +kernel
theorem d_Tree_giveResult_37 : decode c_Tree_giveResult 37 = .ok (.ifCond .eq 20, 3) := by decide +kernel
theorem d_Tree_giveResult_40 : decode c_Tree_giveResult 40 = .ok (.aload_n 2, 1) := by decide +kernel
theorem d_Tree_giveResult_41 : decode c_Tree_giveResult 41 = .ok (.aload_n 1, 1) := by decide +kernel
theorem d_Tree_giveResult_42 : decode c_Tree_giveResult 42 = .ok (.getfield 109, 3) := by decide +kernel
theorem d_Tree_giveResult_45 : decode c_Tree_giveResult 45 = .ok (.iconst 1, 1) := by decide +kernel
theorem d_Tree_giveResult_46 : decode c_Tree_giveResult 46 = .ok (.aload_n 0, 1) := by decide +kernel
theorem d_Tree_giveResult_47 : decode c_Tree_giveResult 47 = .ok (.aload_n 1, 1) := by decide +kernel
theorem d_Tree_giveResult_48 : decode c_Tree_giveResult 48 = .ok (.invokevirtual 125, 3) := by decide +kernel
theorem d_Tree_giveResult_51 : decode c_Tree_giveResult 51 = .ok (.invokevirtual 116, 3) := by decide +kernel
theorem d_Tree_giveResult_54 : decode c_Tree_giveResult 54 = .ok (.goto 31, 3) := by decide +kernel
theorem d_Tree_giveResult_57 : decode c_Tree_giveResult 57 = .ok (.aload_n 0, 1) := by decide +kernel
theorem d_Tree_giveResult_58 : decode c_Tree_giveResult 58 = .ok (.aload_n 1, 1) := by decide +kernel
theorem d_Tree_giveResult_59 : decode c_Tree_giveResult 59 = .ok (.iconst 2, 1) := by decide +kernel
theorem d_Tree_giveResult_60 : decode c_Tree_giveResult 60 = .ok (.invokevirtual 129, 3) := by decide +kernel
theorem d_Tree_giveResult_63 : decode c_Tree_giveResult 63 = .ok (.astore_n 3, 1) := by decide +kernel
theorem d_Tree_giveResult_64 : decode c_Tree_giveResult 64 = .ok (.aload_n 2, 1) := by decide +kernel
theorem d_Tree_giveResult_65 : decode c_Tree_giveResult 65 = .ok (.aload_n 1, 1) := by decide +kernel
theorem d_Tree_giveResult_66 : decode c_Tree_giveResult 66 = .ok (.getfield 109, 3) := by decide +kernel
theorem d_Tree_giveResult_69 : decode c_Tree_giveResult 69 = .ok (.iconst 2, 1) := by decide +kernel
theorem d_Tree_giveResult_70 : decode c_Tree_giveResult 70 = .ok (.aload_n 3, 1) := by decide +kernel
theorem d_Tree_giveResult_71 : decode c_Tree_giveResult 71 = .ok (.ifnonnull 7, 3) := by decide +kernel
theorem d_Tree_giveResult_74 : decode c_Tree_giveResult 74 = .ok (.iconst 0, 1) := by decide +kernel
theorem d_Tree_giveResult_75 : decode c_Tree_giveResult 75 = .ok (.goto 7, 3) := by decide +kernel
theorem d_Tree_giveResult_78 : decode c_Tree_giveResult 78 = .ok (.aload_n 3, 1) := by decide +kernel
theorem d_Tree_giveResult_79 : decode c_Tree_giveResult 79 = .ok (.getfield 133, 3) := by decide +kernel
theorem d_Tree_giveResult_82 : decode c_Tree_giveResult 82 = .ok (.invokevirtual 116, 3) := by decide +kernel
theorem d_Tree_giveResult_85 : decode c_Tree_giveResult 85 = .ok (.return_, 1) := by decide +kernel
theorem d_Tree_succeeded_0 : decode c_Tree_succeeded 0 = .ok (.aload_n 1, 1) := by decide +kernel
theorem d_Tree_succeeded_1 : decode c_Tree_succeeded 1 = .ok (.getfield 136, 3) := by decide +kernel
theorem d_Tree_succeeded_4 : decode c_Tree_succeeded 4 = .ok (.iconst 2, 1) := by decide +kernel
theorem d_Tree_succeeded_5 : decode c_Tree_succeeded 5 = .ok (.if_icmp .ne 18, 3) := by decide +kernel
theorem d_Tree_succeeded_8 : decode c_Tree_succeeded 8 = .ok (.aload_n 0, 1) := by decide +kernel
theorem d_Tree_succeeded_9 : decode c_Tree_succeeded 9 = .ok (.aload_n 1, 1) := by decide +kernel
theorem d_Tree_succeeded_10 : decode c_Tree_succeeded 10 = .ok (.iconst 1, 1) := by decide +kernel
theorem d_Tree_succeeded_11 : decode c_Tree_succeeded 11 = .ok (.invokevirtual 99, 3) := by decide +kernel
theorem d_Tree_succeeded_14 : decode c_Tree_succeeded 14 = .ok (.ifCond .le 7, 3) := by decide +kernel
theorem d_Tree_succeeded_17 : decode c_Tree_succeeded 17 = .ok (.iconst 1, 1) := by decide +kernel
theorem d_Tree_succeeded_18 : decode c_Tree_succeeded 18 = .ok (.goto 4, 3) := by decide +kernel
theorem d_Tree_succeeded_21 : decode c_Tree_succeeded 21 = .ok (.iconst 0, 1) := by decide +kernel
theorem d_Tree_succeeded_22 : decode c_Tree_succeeded 22 = .ok (.ireturn, 1) := by decide +kernel
theorem d_Tree_succeeded_23 : decode c_Tree_succeeded 23 = .ok (.aload_n 0, 1) := by decide +kernel
theorem d_Tree_succeeded_24 : decode c_Tree_succeeded 24 = .ok (.aload_n 1, 1) := by decide +kernel
theorem d_Tree_succeeded_25 : decode c_Tree_succeeded 25 = .ok (.iconst 2, 1) := by decide +kernel
theorem d_Tree_succeeded_26 : decode c_Tree_succeeded 26 = .ok (.invokevirtual 99, 3) := by decide +kernel
theorem d_Tree_succeeded_29 : decode c_Tree_succeeded 29 = .ok (.ifCond .ne 16, 3) := by decide +kernel
theorem d_Tree_succeeded_32 : decode c_Tree_succeeded 32 = .ok (.aload_n 0, 1) := by decide +kernel
theorem d_Tree_succeeded_33 : decode c_Tree_succeeded 33 = .ok (.aload_n 1, 1) := by decide +kernel
theorem d_Tree_succeeded_34 : decode c_Tree_succeeded 34 = .ok (.iconst 3, 1) := by decide +kernel
theorem d_Tree_succeeded_35 : decode c_Tree_succeeded 35 = .ok (.invokevirtual 99, 3) := by decide +kernel
theorem d_Tree_succeeded_38 : decode c_Tree_succeeded 38 = .ok (.ifCond .ne 7, 3) := by decide +kernel
theorem d_Tree_succeeded_41 : decode c_Tree_succeeded 41 = .ok (.iconst 1, 1) := by decide +kernel
theorem d_Tree_succeeded_42 : decode c_Tree_succeeded 42 = .ok (.goto 4, 3) := by decide +kernel
theorem d_Tree_succeeded_45 : decode c_Tree_succeeded 45 = .ok (.iconst 0, 1) := by decide +kernel
theorem d_Tree_succeeded_46 : decode c_Tree_succeeded 46 = .ok (.ireturn, 1) := by decide +kernel
theorem d_Tree_valueOf_0 : decode c_Tree_valueOf 0 = .ok (.aload_n 1, 1) := by decide +kernel
theorem d_Tree_valueOf_1 : decode c_Tree_valueOf 1 = .ok (.getfield 136, 3) := by decide +kernel
theorem d_Tree_valueOf_4 : decode c_Tree_valueOf 4 = .ok (.iconst 2, 1) := by decide +kernel
theorem d_Tree_valueOf_5 : decode c_Tree_valueOf 5 = .ok (.if_icmp .ne 23, 3) := by decide +kernel
theorem d_Tree_valueOf_8 : decode c_Tree_valueOf 8 = .ok (.aload_n 0, 1) := by decide +kernel
theorem d_Tree_valueOf_9 : decode c_Tree_valueOf 9 = .ok (.aload_n 1, 1) := by decide +kernel
theorem d_Tree_valueOf_10 : decode c_Tree_valueOf 10 = .ok (.iconst 1, 1) := by decide +kernel
theorem d_Tree_valueOf_11 : decode c_Tree_valueOf 11 = .ok (.invokevirtual 129, 3) := by decide +kernel
theorem d_Tree_valueOf_14 : decode c_Tree_valueOf 14 = .ok (.astore_n 2, 1) := by decide +kernel
theorem d_Tree_valueOf_15 : decode c_Tree_valueOf 15 = .ok (.aload_n 2, 1) := by decide +kernel
theorem d_Tree_valueOf_16 : decode c_Tree_valueOf 16 = .ok (.ifnonnull 7, 3) := by decide +kernel
theorem d_Tree_valueOf_19 : decode c_Tree_valueOf 19 = .ok (.iconst 0, 1) := by decide +kernel
theorem d_Tree_valueOf_20 : decode c_Tree_valueOf 20 = .ok (.goto 7, 3) := by decide +kernel
theorem d_Tree_valueOf_23 : decode c_Tree_valueOf 23 = .ok (.aload_n 2, 1) := by decide +kernel
theorem d_Tree_valueOf_24 : decode c_Tree_valueOf 24 = .ok (.getfield 133, 3) := by decide +kernel
theorem d_Tree_valueOf_27 : decode c_Tree_valueOf 27 = .ok (.ireturn, 1) := by decide +kernel
theorem d_Tree_valueOf_28 : decode c_Tree_valueOf 28 = .ok (.iconst 0, 1) := by decide +kernel
theorem d_Tree_valueOf_29 : decode c_Tree_valueOf 29 = .ok (.istore_n 2, 1) := by decide +kernel
theorem d_Tree_valueOf_30 : decode c_Tree_valueOf 30 = .ok (.iconst 0, 1) := by decide +kernel
theorem d_Tree_valueOf_31 : decode c_Tree_valueOf 31 = .ok (.istore_n 3, 1) := by decide +kernel
theorem d_Tree_valueOf_32 : decode c_Tree_valueOf 32 = .ok (.iload_n 3, 1) := by decide +kernel
theorem d_Tree_valueOf_33 : decode c_Tree_valueOf 33 = .ok (.aload_n 0, 1) := by decide +kernel
theorem d_Tree_valueOf_34 : decode c_Tree_valueOf 34 = .ok (.getfield 25, 3) := by decide +kernel
theorem d_Tree_valueOf_37 : decode c_Tree_valueOf 37 = .ok (.if_icmp .ge 47, 3) := by decide +kernel
theorem d_Tree_valueOf_40 : decode c_Tree_valueOf 40 = .ok (.aload_n 0, 1) := by decide +kernel
theorem d_Tree_valueOf_41 : decode c_Tree_valueOf 41 = .ok (.getfield 17, 3) := by decide +kernel
theorem d_Tree_valueOf_44 : decode c_Tree_valueOf 44 = .ok (.iload_n 3, 1) := by decide +kernel
theorem d_Tree_valueOf_45 : decode c_Tree_valueOf 45 = .ok (.aaload, 1) := by decide +kernel
theorem d_Tree_valueOf_46 : decode c_Tree_valueOf 46 = .ok (.getfield 49, 3) := by decide +kernel
theorem d_Tree_valueOf_49 : decode c_Tree_valueOf 49 = .ok (.aload_n 1, 1) := by decide +kernel
theorem d_Tree_valueOf_50 : decode c_Tree_valueOf 50 = .ok (.if_acmp .ne 28, 3) := by decide +kernel
theorem d_Tree_valueOf_53 : decode c_Tree_valueOf 53 = .ok (.aload_n 0, 1) := by decide +kernel
theorem d_Tree_valueOf_54 : decode c_Tree_valueOf 54 = .ok (.getfield 17, 3) := by decide +kernel
theorem d_Tree_valueOf_57 : decode c_Tree_valueOf 57 = .ok (.iload_n 3, 1) := by decide +kernel
theorem d_Tree_valueOf_58 : decode c_Tree_valueOf 58 = .ok (.aaload, 1) := by decide +kernel
theorem d_Tree_valueOf_59 : decode c_Tree_valueOf 59 = .ok (.getfield 53, 3) := by decide +kernel
theorem d_Tree_valueOf_62 : decode c_Tree_valueOf 62 = .ok (.iconst 1, 1) := by decide +kernel
theorem d_Tree_valueOf_63 : decode c_Tree_valueOf 63 = .ok (.if_icmp .ne 15, 3) := by decide +kernel
theorem d_Tree_valueOf_66 : decode c_Tree_valueOf 66 = .ok (.iload_n 2, 1) := by decide +kernel
theorem d_Tree_valueOf_67 : decode c_Tree_valueOf 67 = .ok (.aload_n 0, 1) := by decide +kernel
theorem d_Tree_valueOf_68 : decode c_Tree_valueOf 68 = .ok (.getfield 17, 3) := by decide +kernel
theorem d_Tree_valueOf_71 : decode c_Tree_valueOf 71 = .ok (.iload_n 3, 1) := by decide +kernel
theorem d_Tree_valueOf_72 : decode c_Tree_valueOf 72 = .ok (.aaload, 1) := by decide +kernel
theorem d_Tree_valueOf_73 : decode c_Tree_valueOf 73 = .ok (.getfield 133, 3) := by decide +kernel
theorem d_Tree_valueOf_76 : decode c_Tree_valueOf 76 = .ok (.iadd, 1) := by decide +kernel
theorem d_Tree_valueOf_77 : decode c_Tree_valueOf 77 = .ok (.istore_n 2, 1) := by decide +kernel
theorem d_Tree_valueOf_78 : decode c_Tree_valueOf 78 = .ok (.iinc 3 1, 3) := by decide +kernel
theorem d_Tree_valueOf_81 : decode c_Tree_valueOf 81 = .ok (.goto (-49), 3) := by decide +kernel
theorem d_Tree_valueOf_84 : decode c_Tree_valueOf 84 = .ok (.iload_n 2, 1) := by decide +kernel
theorem d_Tree_valueOf_85 : decode c_Tree_valueOf 85 = .ok (.ireturn, 1) := by decide +kernel
theorem d_Tree_firstEnded_0 : decode c_Tree_firstEnded 0 = .ok (.aconst_null, 1) := by decide +kernel
theorem d_Tree_firstEnded_1 : decode c_Tree_firstEnded 1 = .ok (.astore_n 3, 1) := by decide +kernel
theorem d_Tree_firstEnded_2 : decode c_Tree_firstEnded 2 = .ok (.iconst 0, 1) := by decide +kernel
theorem d_Tree_firstEnded_3 : decode c_Tree_firstEnded 3 = .ok (.istore 4, 2) := by decide +kernel
theorem d_Tree_firstEnded_5 : decode c_Tree_firstEnded 5 = .ok (.iload 4, 2) := by decide +kernel
theorem d_Tree_firstEnded_7 : decode c_Tree_firstEnded 7 = .ok (.aload_n 0, 1) := by decide +kernel
theorem d_Tree_firstEnded_8 : decode c_Tree_firstEnded 8 = .ok (.getfield 25, 3) := by decide +kernel
theorem d_Tree_firstEnded_11 : decode c_Tree_firstEnded 11 = .ok (.if_icmp .ge 55, 3) := by decide +kernel
theorem d_Tree_firstEnded_14 : decode c_Tree_firstEnded 14 = .ok (.aload_n 0, 1) := by decide +kernel
theorem d_Tree_firstEnded_15 : decode c_Tree_firstEnded 15 = .ok (.getfield 17, 3) := by decide +kernel
theorem d_Tree_firstEnded_18 : decode c_Tree_firstEnded 18 = .ok (.iload 4, 2) := by decide +kernel
theorem d_Tree_firstEnded_20 : decode c_Tree_firstEnded 20 = .ok (.aaload, 1) := by decide +kernel
theorem d_Tree_firstEnded_21 : decode c_Tree_firstEnded 21 = .ok (.astore 5, 2) := by decide +kernel
theorem d_Tree_firstEnded_23 : decode c_Tree_firstEnded 23 = .ok (.aload 5, 2) := by decide +kernel
theorem d_Tree_firstEnded_25 : decode c_Tree_firstEnded 25 = .ok (.getfield 49, 3) := by decide +kernel
theorem d_Tree_firstEnded_28 : decode c_Tree_firstEnded 28 = .ok (.aload_n 1, 1) := by decide +kernel
theorem d_Tree_firstEnded_29 : decode c_Tree_firstEnded 29 = .ok (.if_acmp .ne 31, 3) := by decide +kernel
theorem d_Tree_firstEnded_32 : decode c_Tree_firstEnded 32 = .ok (.aload 5, 2) := by decide +kernel
theorem d_Tree_firstEnded_34 : decode c_Tree_firstEnded 34 = .ok (.getfield 53, 3) := by decide +kernel
theorem d_Tree_firstEnded_37 : decode c_Tree_firstEnded 37 = .ok (.iload_n 2, 1) := by decide +kernel
theorem d_Tree_firstEnded_38 : decode c_Tree_firstEnded 38 = .ok (.if_icmp .ne 22, 3) := by decide +kernel
theorem d_Tree_firstEnded_41 : decode c_Tree_firstEnded 41 = .ok (.aload_n 3, 1) := by decide +kernel
theorem d_Tree_firstEnded_42 : decode c_Tree_firstEnded 42 = .ok (.ifnull 15, 3) := by decide +kernel
theorem d_Tree_firstEnded_45 : decode c_Tree_firstEnded 45 = .ok (.aload 5, 2) := by decide +kernel
theorem d_Tree_firstEnded_47 : decode c_Tree_firstEnded 47 = .ok (.getfield 92, 3) := by decide +kernel
theorem d_Tree_firstEnded_50 : decode c_Tree_firstEnded 50 = .ok (.aload_n 3, 1) := by decide +kernel
theorem d_Tree_firstEnded_51 : decode c_Tree_firstEnded 51 = .ok (.getfield 92, 3) := by decide +kernel
theorem d_Tree_firstEnded_54 : decode c_Tree_firstEnded 54 = .ok (.if_icmp .ge 6, 3) := by decide +kernel
theorem d_Tree_firstEnded_57 : decode c_Tree_firstEnded 57 = .ok (.aload 5, 2) := by decide +kernel
theorem d_Tree_firstEnded_59 : decode c_Tree_firstEnded 59 = .ok (.astore_n 3, 1) := by decide +kernel
theorem d_Tree_firstEnded_60 : decode c_Tree_firstEnded 60 = .ok (.iinc 4 1, 3) := by decide +kernel
theorem d_Tree_firstEnded_63 : decode c_Tree_firstEnded 63 = .ok (.goto (-58), 3) := by decide +kernel
theorem d_Tree_firstEnded_66 : decode c_Tree_firstEnded 66 = .ok (.aload_n 3, 1) := by decide +kernel
theorem d_Tree_firstEnded_67 : decode c_Tree_firstEnded 67 = .ok (.areturn, 1) := by decide +kernel
theorem d_Tree_stop_0 : decode c_Tree_stop 0 = .ok (.iconst 0, 1) := by decide +kernel
theorem d_Tree_stop_1 : decode c_Tree_stop 1 = .ok (.istore_n 2, 1) := by decide +kernel
theorem d_Tree_stop_2 : decode c_Tree_stop 2 = .ok (.iload_n 2, 1) := by decide +kernel
theorem d_Tree_stop_3 : decode c_Tree_stop 3 = .ok (.aload_n 0, 1) := by decide +kernel
theorem d_Tree_stop_4 : decode c_Tree_stop 4 = .ok (.getfield 21, 3) := by decide +kernel
theorem d_Tree_stop_7 : decode c_Tree_stop 7 = .ok (.if_icmp .ge 47, 3) := by decide +kernel
theorem d_Tree_stop_10 : decode c_Tree_stop 10 = .ok (.aload_n 0, 1) := by decide +kernel
theorem d_Tree_stop_11 : decode c_Tree_stop 11 = .ok (.getfield 11, 3) := by decide +kernel
theorem d_Tree_stop_14 : decode c_Tree_stop 14 = .ok (.iload_n 2, 1) := by decide +kernel
theorem d_Tree_stop_15 : decode c_Tree_stop 15 = .ok (.aaload, 1) := by decide +kernel
theorem d_Tree_stop_16 : decode c_Tree_stop 16 = .ok (.astore_n 3, 1) := by decide +kernel
theorem d_Tree_stop_17 : decode c_Tree_stop 17 = .ok (.aload_n 3, 1) := by decide +kernel
theorem d_Tree_stop_18 : decode c_Tree_stop 18 = .ok (.aload_n 1, 1) := by decide +kernel
theorem d_Tree_stop_19 : decode c_Tree_stop 19 = .ok (.if_acmp .eq 19, 3) := by decide +kernel
theorem d_Tree_stop_22 : decode c_Tree_stop 22 = .ok (.aload_n 3, 1) := by decide +kernel
theorem d_Tree_stop_23 : decode c_Tree_stop 23 = .ok (.getfield 32, 3) := by decide +kernel
theorem d_Tree_stop_26 : decode c_Tree_stop 26 = .ok (.iconst 2, 1) := by decide +kernel
theorem d_Tree_stop_27 : decode c_Tree_stop 27 = .ok (.if_icmp .eq 21, 3) := by decide +kernel
theorem d_Tree_stop_30 : decode c_Tree_stop 30 = .ok (.aload_n 3, 1) := by decide +kernel
theorem d_Tree_stop_31 : decode c_Tree_stop 31 = .ok (.aload_n 1, 1) := by decide +kernel
theorem d_Tree_stop_32 : decode c_Tree_stop 32 = .ok (.invokevirtual 54, 3) := by decide +kernel
theorem d_Tree_stop_35 : decode c_Tree_stop 35 = .ok (.ifCond .eq 13, 3) := by decide +kernel
theorem d_Tree_stop_38 : decode c_Tree_stop 38 = .ok (.aload_n 3, 1) := by decide +kernel
theorem d_Tree_stop_39 : decode c_Tree_stop 39 = .ok (.iconst 1, 1) := by decide +kernel
theorem d_Tree_stop_40 : decode c_Tree_stop 40 = .ok (.putfield 58, 3) := by decide +kernel
theorem d_Tree_stop_43 : decode c_Tree_stop 43 = .ok (.aload_n 0, 1) := by decide +kernel
theorem d_Tree_stop_44 : decode c_Tree_stop 44 = .ok (.aload_n 3, 1) := by decide +kernel
theorem d_Tree_stop_45 : decode c_Tree_stop 45 = .ok (.invokevirtual 62, 3) := by decide +kernel
theorem d_Tree_stop_48 : decode c_Tree_stop 48 = .ok (.iinc 2 1, 3) := by decide +kernel
theorem d_Tree_stop_51 : decode c_Tree_stop 51 = .ok (.goto (-49), 3) := by decide +kernel
theorem d_Tree_stop_54 : decode c_Tree_stop 54 = .ok (.return_, 1) := by decide +kernel
theorem d_Tree_cancelTasks_0 : decode c_Tree_cancelTasks 0 = .ok (.iconst 0, 1) := by decide +kernel
theorem d_Tree_cancelTasks_1 : decode c_Tree_cancelTasks 1 = .ok (.istore_n 2, 1) := by decide +kernel
theorem d_Tree_cancelTasks_2 : decode c_Tree_cancelTasks 2 = .ok (.iload_n 2, 1) := by decide +kernel
theorem d_Tree_cancelTasks_3 : decode c_Tree_cancelTasks 3 = .ok (.aload_n 0, 1) := by decide +kernel
theorem d_Tree_cancelTasks_4 : decode c_Tree_cancelTasks 4 = .ok (.getfield 25, 3) := by decide +kernel
theorem d_Tree_cancelTasks_7 : decode c_Tree_cancelTasks 7 = .ok (.if_icmp .ge 44, 3) := by decide +kernel
theorem d_Tree_cancelTasks_10 : decode c_Tree_cancelTasks 10 = .ok (.aload_n 0, 1) := by decide +kernel
theorem d_Tree_cancelTasks_11 : decode c_Tree_cancelTasks 11 = .ok (.getfield 17, 3) := by decide +kernel
theorem d_Tree_cancelTasks_14 : decode c_Tree_cancelTasks 14 = .ok (.iload_n 2, 1) := by decide +kernel
theorem d_Tree_cancelTasks_15 : decode c_Tree_cancelTasks 15 = .ok (.aaload, 1) := by decide +kernel
theorem d_Tree_cancelTasks_16 : decode c_Tree_cancelTasks 16 = .ok (.getfield 49, 3) := by decide +kernel
theorem d_Tree_cancelTasks_19 : decode c_Tree_cancelTasks 19 = .ok (.aload_n 1, 1) := by decide +kernel
theorem d_Tree_cancelTasks_20 : decode c_Tree_cancelTasks 20 = .ok (.if_acmp .ne 25, 3) := by decide +kernel
theorem d_Tree_cancelTasks_23 : decode c_Tree_cancelTasks 23 = .ok (.aload_n 0, 1) := by decide +kernel
theorem d_Tree_cancelTasks_24 : decode c_Tree_cancelTasks 24 = .ok (.getfield 17, 3) := by decide +kernel
theorem d_Tree_cancelTasks_27 : decode c_Tree_cancelTasks 27 = .ok (.iload_n 2, 1) := by decide +kernel
theorem d_Tree_cancelTasks_28 : decode c_Tree_cancelTasks 28 = .ok (.aaload, 1) := by decide +kernel
theorem d_Tree_cancelTasks_29 : decode c_Tree_cancelTasks 29 = .ok (.getfield 53, 3) := by decide +kernel
theorem d_Tree_cancelTasks_32 : decode c_Tree_cancelTasks 32 = .ok (.ifCond .ne 13, 3) := by decide +kernel
theorem d_Tree_cancelTasks_35 : decode c_Tree_cancelTasks 35 = .ok (.aload_n 0, 1) := by decide +kernel
theorem d_Tree_cancelTasks_36 : decode c_Tree_cancelTasks 36 = .ok (.getfield 17, 3) := by decide +kernel
theorem d_Tree_cancelTasks_39 : decode c_Tree_cancelTasks 39 = .ok (.iload_n 2, 1) := by decide +kernel
theorem d_Tree_cancelTasks_40 : decode c_Tree_cancelTasks 40 = .ok (.aaload, 1) := by decide +kernel
theorem d_Tree_cancelTasks_41 : decode c_Tree_cancelTasks 41 = .ok (.iconst 3, 1) := by decide +kernel
theorem d_Tree_cancelTasks_42 : decode c_Tree_cancelTasks 42 = .ok (.putfield 53, 3) := by decide +kernel
theorem d_Tree_cancelTasks_45 : decode c_Tree_cancelTasks 45 = .ok (.iinc 2 1, 3) := by decide +kernel
theorem d_Tree_cancelTasks_48 : decode c_Tree_cancelTasks 48 = .ok (.goto (-46), 3) := by decide +kernel
theorem d_Tree_cancelTasks_51 : decode c_Tree_cancelTasks 51 = .ok (.return_, 1) := by decide +kernel
theorem d_Tree_passOneTick_0 : decode c_Tree_passOneTick 0 = .ok (.aload_n 0, 1) := by decide +kernel
theorem d_Tree_passOneTick_1 : decode c_Tree_passOneTick 1 = .ok (.dup, 1) := by decide +kernel
theorem d_Tree_passOneTick_2 : decode c_Tree_passOneTick 2 = .ok (.getfield 66, 3) := by decide +kernel
theorem d_Tree_passOneTick_5 : decode c_Tree_passOneTick 5 = .ok (.iconst 1, 1) := by decide +kernel
theorem d_Tree_passOneTick_6 : decode c_Tree_passOneTick 6 = .ok (.iadd, 1) := by decide +kernel
theorem d_Tree_passOneTick_7 : decode c_Tree_passOneTick 7 = .ok (.putfield 66, 3) := by decide +kernel
theorem d_Tree_passOneTick_10 : decode c_Tree_passOneTick 10 = .ok (.aload_n 0, 1) := by decide +kernel
theorem d_Tree_passOneTick_11 : decode c_Tree_passOneTick 11 = .ok (.invokevirtual 69, 3) := by decide +kernel
theorem d_Tree_passOneTick_14 : decode c_Tree_passOneTick 14 = .ok (.iconst 0, 1) := by decide +kernel
theorem d_Tree_passOneTick_15 : decode c_Tree_passOneTick 15 = .ok (.istore_n 1, 1) := by decide +kernel
theorem d_Tree_passOneTick_16 : decode c_Tree_passOneTick 16 = .ok (.iconst 0, 1) := by decide +kernel
theorem d_Tree_passOneTick_17 : decode c_Tree_passOneTick 17 = .ok (.istore_n 2, 1) := by decide +kernel
theorem d_Tree_passOneTick_18 : decode c_Tree_passOneTick 18 = .ok (.iload_n 2, 1) := by decide +kernel
theorem d_Tree_passOneTick_19 : decode c_Tree_passOneTick 19 = .ok (.aload_n 0, 1) := by decide +kernel
theorem d_Tree_passOneTick_20 : decode c_Tree_passOneTick 20 = .ok (.getfield 25, 3) := by decide +kernel
theorem d_Tree_passOneTick_23 : decode c_Tree_passOneTick 23 = .ok (.if_icmp .ge 55, 3) := by decide +kernel
theorem d_Tree_passOneTick_26 : decode c_Tree_passOneTick 26 = .ok (.aload_n 0, 1) := by decide +kernel
theorem d_Tree_passOneTick_27 : decode c_Tree_passOneTick 27 = .ok (.getfield 17, 3) := by decide +kernel
theorem d_Tree_passOneTick_30 : decode c_Tree_passOneTick 30 = .ok (.iload_n 2, 1) := by decide +kernel
theorem d_Tree_passOneTick_31 : decode c_Tree_passOneTick 31 = .ok (.aaload, 1) := by decide +kernel
theorem d_Tree_passOneTick_32 : decode c_Tree_passOneTick 32 = .ok (.getfield 53, 3) := by decide +kernel
theorem d_Tree_passOneTick_35 : decode c_Tree_passOneTick 35 = .ok (.ifCond .ne 37, 3) := by decide +kernel
theorem d_Tree_passOneTick_38 : decode c_Tree_passOneTick 38 = .ok (.aload_n 0, 1) := by decide +kernel
theorem d_Tree_passOneTick_39 : decode c_Tree_passOneTick 39 = .ok (.getfield 17, 3) := by decide +kernel
theorem d_Tree_passOneTick_42 : decode c_Tree_passOneTick 42 = .ok (.iload_n 2, 1) := by decide +kernel
theorem d_Tree_passOneTick_43 : decode c_Tree_passOneTick 43 = .ok (.aaload, 1) := by decide +kernel
theorem d_Tree_passOneTick_44 : decode c_Tree_passOneTick 44 = .ok (.invokevirtual 72, 3) := by decide +kernel
theorem d_Tree_passOneTick_47 : decode c_Tree_passOneTick 47 = .ok (.aload_n 0, 1) := by decide +kernel
theorem d_Tree_passOneTick_48 : decode c_Tree_passOneTick 48 = .ok (.getfield 17, 3) := by decide +kernel
theorem d_Tree_passOneTick_51 : decode c_Tree_passOneTick 51 = .ok (.iload_n 2, 1) := by decide +kernel
theorem d_Tree_passOneTick_52 : decode c_Tree_passOneTick 52 = .ok (.aaload, 1) := by decide +kernel
theorem d_Tree_passOneTick_53 : decode c_Tree_passOneTick 53 = .ok (.getfield 53, 3) := by decide +kernel
theorem d_Tree_passOneTick_56 : decode c_Tree_passOneTick 56 = .ok (.ifCond .eq 16, 3) := by decide +kernel
theorem d_Tree_passOneTick_59 : decode c_Tree_passOneTick 59 = .ok (.aload_n 0, 1) := by decide +kernel
theorem d_Tree_passOneTick_60 : decode c_Tree_passOneTick 60 = .ok (.aload_n 0, 1) := by decide +kernel
theorem d_Tree_passOneTick_61 : decode c_Tree_passOneTick 61 = .ok (.getfield 17, 3) := by decide +kernel
theorem d_Tree_passOneTick_64 : decode c_Tree_passOneTick 64 = .ok (.iload_n 2, 1) := by decide +kernel
theorem d_Tree_passOneTick_65 : decode c_Tree_passOneTick 65 = .ok (.aaload, 1) := by decide +kernel
theorem d_Tree_passOneTick_66 : decode c_Tree_passOneTick 66 = .ok (.invokevirtual 75, 3) := by decide +kernel
theorem d_Tree_passOneTick_69 : decode c_Tree_passOneTick 69 = .ok (.iinc 1 1, 3) := by decide +kernel
theorem d_Tree_passOneTick_72 : decode c_Tree_passOneTick 72 = .ok (.iinc 2 1, 3) := by decide +kernel
theorem d_Tree_passOneTick_75 : decode c_Tree_passOneTick 75 = .ok (.goto (-57), 3) := by decide +kernel
theorem d_Tree_passOneTick_78 : decode c_Tree_passOneTick 78 = .ok (.iload_n 1, 1) := by decide +kernel
theorem d_Tree_passOneTick_79 : decode c_Tree_passOneTick 79 = .ok (.ireturn, 1) := by decide +kernel
theorem d_Tree_stopLateScopes_0 : decode c_Tree_stopLateScopes 0 = .ok (.iconst 0, 1) := by decide +kernel
theorem d_Tree_stopLateScopes_1 : decode c_Tree_stopLateScopes 1 = .ok (.istore_n 1, 1) := by decide +kernel
theorem d_Tree_stopLateScopes_2 : decode c_Tree_stopLateScopes 2 = .ok (.iload_n 1, 1) := by decide +kernel
theorem d_Tree_stopLateScopes_3 : decode c_Tree_stopLateScopes 3 = .ok (.aload_n 0, 1) := by decide +kernel
theorem d_Tree_stopLateScopes_4 : decode c_Tree_stopLateScopes 4 = .ok (.getfield 21, 3) := by decide +kernel
theorem d_Tree_stopLateScopes_7 : decode c_Tree_stopLateScopes 7 = .ok (.if_icmp .ge 45, 3) := by decide +kernel
theorem d_Tree_stopLateScopes_10 : decode c_Tree_stopLateScopes 10 = .ok (.aload_n 0, 1) := by decide +kernel
theorem d_Tree_stopLateScopes_11 : decode c_Tree_stopLateScopes 11 = .ok (.getfield 11, 3) := by decide +kernel
theorem d_Tree_stopLateScopes_14 : decode c_Tree_stopLateScopes 14 = .ok (.iload_n 1, 1) := by decide +kernel
theorem d_Tree_stopLateScopes_15 : decode c_Tree_stopLateScopes 15 = .ok (.aaload, 1) := by decide +kernel
theorem d_Tree_stopLateScopes_16 : decode c_Tree_stopLateScopes 16 = .ok (.astore_n 2, 1) := by decide +kernel
theorem d_Tree_stopLateScopes_17 : decode c_Tree_stopLateScopes 17 = .ok (.aload_n 2, 1) := by decide +kernel
theorem d_Tree_stopLateScopes_18 : decode c_Tree_stopLateScopes 18 = .ok (.getfield 32, 3) := by decide +kernel
theorem d_Tree_stopLateScopes_21 : decode c_Tree_stopLateScopes 21 = .ok (.iconst 2, 1) := by decide +kernel
theorem d_Tree_stopLateScopes_22 : decode c_Tree_stopLateScopes 22 = .ok (.if_icmp .eq 24, 3) := by decide +kernel
theorem d_Tree_stopLateScopes_25 : decode c_Tree_stopLateScopes 25 = .ok (.aload_n 2, 1) := by decide +kernel
theorem d_Tree_stopLateScopes_26 : decode c_Tree_stopLateScopes 26 = .ok (.aload_n 0, 1) := by decide +kernel
theorem d_Tree_stopLateScopes_27 : decode c_Tree_stopLateScopes 27 = .ok (.getfield 66, 3) := by decide +kernel
theorem d_Tree_stopLateScopes_30 : decode c_Tree_stopLateScopes 30 = .ok (.invokevirtual 79, 3) := by decide +kernel
theorem d_Tree_stopLateScopes_33 : decode c_Tree_stopLateScopes 33 = .ok (.ifCond .eq 13, 3) := by decide +kernel
theorem d_Tree_stopLateScopes_36 : decode c_Tree_stopLateScopes 36 = .ok (.aload_n 2, 1) := by decide +kernel
theorem d_Tree_stopLateScopes_37 : decode c_Tree_stopLateScopes 37 = .ok (.iconst 1, 1) := by decide +kernel
theorem d_Tree_stopLateScopes_38 : decode c_Tree_stopLateScopes 38 = .ok (.putfield 83, 3) := by decide +kernel
theorem d_Tree_stopLateScopes_41 : decode c_Tree_stopLateScopes 41 = .ok (.aload_n 0, 1) := by decide +kernel
theorem d_Tree_stopLateScopes_42 : decode c_Tree_stopLateScopes 42 = .ok (.aload_n 2, 1) := by decide +kernel
theorem d_Tree_stopLateScopes_43 : decode c_Tree_stopLateScopes 43 = .ok (.invokevirtual 86, 3) := by decide +kernel
theorem d_Tree_stopLateScopes_46 : decode c_Tree_stopLateScopes 46 = .ok (.iinc 1 1, 3) := by decide +kernel
theorem d_Tree_stopLateScopes_49 : decode c_Tree_stopLateScopes 49 = .ok (.goto (-47), 3) := by decide +kernel
theorem d_Tree_stopLateScopes_52 : decode c_Tree_stopLateScopes 52 = .ok (.return_, 1) := by decide +kernel
theorem d_Scope_isPastDeadline_0 : decode c_Scope_isPastDeadline 0 = .ok (.aload_n 0, 1) := by decide +kernel
theorem d_Scope_isPastDeadline_1 : decode c_Scope_isPastDeadline 1 = .ok (.getfield 22, 3) := by decide +kernel
theorem d_Scope_isPastDeadline_4 : decode c_Scope_isPastDeadline 4 = .ok (.iconst (-1), 1) := by decide +kernel
theorem d_Scope_isPastDeadline_5 : decode c_Scope_isPastDeadline 5 = .ok (.if_icmp .eq 15, 3) := by decide +kernel
theorem d_Scope_isPastDeadline_8 : decode c_Scope_isPastDeadline 8 = .ok (.aload_n 0, 1) := by decide +kernel
theorem d_Scope_isPastDeadline_9 : decode c_Scope_isPastDeadline 9 = .ok (.getfield 22, 3) := by decide +kernel
theorem d_Scope_isPastDeadline_12 : decode c_Scope_isPastDeadline 12 = .ok (.iload_n 1, 1) := by decide +kernel
theorem d_Scope_isPastDeadline_13 : decode c_Scope_isPastDeadline 13 = .ok (.if_icmp .gt 7, 3) := by decide +kernel
theorem d_Scope_isPastDeadline_16 : decode c_Scope_isPastDeadline 16 = .ok (.iconst 1, 1) := by decide +kernel
theorem d_Scope_isPastDeadline_17 : decode c_Scope_isPastDeadline 17 = .ok (.goto 4, 3) := by decide +kernel
theorem d_Scope_isPastDeadline_20 : decode c_Scope_isPastDeadline 20 = .ok (.iconst 0, 1) := by decide +kernel
theorem d_Scope_isPastDeadline_21 : decode c_Scope_isPastDeadline 21 = .ok (.ireturn, 1) := by decide +kernel
theorem d_Task_workOnce_0 : decode c_Task_workOnce 0 = .ok (.aload_n 0, 1) := by decide +kernel
theorem d_Task_workOnce_1 : decode c_Task_workOnce 1 = .ok (.dup, 1) := by decide +kernel
theorem d_Task_workOnce_2 : decode c_Task_workOnce 2 = .ok (.getfield 35, 3) := by decide +kernel
theorem d_Task_workOnce_5 : decode c_Task_workOnce 5 = .ok (.iconst 1, 1) := by decide +kernel
theorem d_Task_workOnce_6 : decode c_Task_workOnce 6 = .ok (.iadd, 1) := by decide +kernel
theorem d_Task_workOnce_7 : decode c_Task_workOnce 7 = .ok (.putfield 35, 3) := by decide +kernel
theorem d_Task_workOnce_10 : decode c_Task_workOnce 10 = .ok (.aload_n 0, 1) := by decide +kernel
theorem d_Task_workOnce_11 : decode c_Task_workOnce 11 = .ok (.getfield 35, 3) := by decide +kernel
theorem d_Task_workOnce_14 : decode c_Task_workOnce 14 = .ok (.aload_n 0, 1) := by decide +kernel
theorem d_Task_workOnce_15 : decode c_Task_workOnce 15 = .ok (.getfield 13, 3) := by decide +kernel
theorem d_Task_workOnce_18 : decode c_Task_workOnce 18 = .ok (.if_icmp .ge 4, 3) := by decide +kernel
theorem d_Task_workOnce_21 : decode c_Task_workOnce 21 = .ok (.return_, 1) := by decide +kernel
theorem d_Task_workOnce_22 : decode c_Task_workOnce 22 = .ok (.aload_n 0, 1) := by decide +kernel
theorem d_Task_workOnce_23 : decode c_Task_workOnce 23 = .ok (.getfield 17, 3) := by decide +kernel
theorem d_Task_workOnce_26 : decode c_Task_workOnce 26 = .ok (.aload_n 0, 1) := by decide +kernel
theorem d_Task_workOnce_27 : decode c_Task_workOnce 27 = .ok (.getfield 20, 3) := by decide +kernel
theorem d_Task_workOnce_30 : decode c_Task_workOnce 30 = .ok (.aload_n 0, 1) := by decide +kernel
theorem d_Task_workOnce_31 : decode c_Task_workOnce 31 = .ok (.getfield 23, 3) := by decide +kernel
theorem d_Task_workOnce_34 : decode c_Task_workOnce 34 = .ok (.invokestatic 38, 3) := by decide +kernel
theorem d_Task_workOnce_37 : decode c_Task_workOnce 37 = .ok (.istore_n 1, 1) := by decide +kernel
theorem d_Task_workOnce_38 : decode c_Task_workOnce 38 = .ok (.aload_n 0, 1) := by decide +kernel
theorem d_Task_workOnce_39 : decode c_Task_workOnce 39 = .ok (.iload_n 1, 1) := by decide +kernel
theorem d_Task_workOnce_40 : decode c_Task_workOnce 40 = .ok (.ifCond .eq 7, 3) := by decide +kernel
theorem d_Task_workOnce_43 : decode c_Task_workOnce 43 = .ok (.iconst 2, 1) := by decide +kernel
theorem d_Task_workOnce_44 : decode c_Task_workOnce 44 = .ok (.goto 4, 3) := by decide +kernel
theorem d_Task_workOnce_47 : decode c_Task_workOnce 47 = .ok (.iconst 1, 1) := by decide +kernel
theorem d_Task_workOnce_48 : decode c_Task_workOnce 48 = .ok (.putfield 32, 3) := by decide +kernel
theorem d_Task_workOnce_51 : decode c_Task_workOnce 51 = .ok (.aload_n 0, 1) := by decide +kernel
theorem d_Task_workOnce_52 : decode c_Task_workOnce 52 = .ok (.iload_n 1, 1) := by decide +kernel
theorem d_Task_workOnce_53 : decode c_Task_workOnce 53 = .ok (.ifCond .eq 7, 3) := by decide +kernel
theorem d_Task_workOnce_56 : decode c_Task_workOnce 56 = .ok (.iload_n 1, 1) := by decide +kernel
theorem d_Task_workOnce_57 : decode c_Task_workOnce 57 = .ok (.goto 18, 3) := by decide +kernel
theorem d_Task_workOnce_60 : decode c_Task_workOnce 60 = .ok (.aload_n 0, 1) := by decide +kernel
theorem d_Task_workOnce_61 : decode c_Task_workOnce 61 = .ok (.getfield 17, 3) := by decide +kernel
theorem d_Task_workOnce_64 : decode c_Task_workOnce 64 = .ok (.aload_n 0, 1) := by decide +kernel
theorem d_Task_workOnce_65 : decode c_Task_workOnce 65 = .ok (.getfield 20, 3) := by decide +kernel
theorem d_Task_workOnce_68 : decode c_Task_workOnce 68 = .ok (.aload_n 0, 1) := by decide +kernel
theorem d_Task_workOnce_69 : decode c_Task_workOnce 69 = .ok (.getfield 23, 3) := by decide +kernel
theorem d_Task_workOnce_72 : decode c_Task_workOnce 72 = .ok (.invokestatic 44, 3) := by decide +kernel
theorem d_Task_workOnce_75 : decode c_Task_workOnce 75 = .ok (.putfield 47, 3) := by decide +kernel
theorem d_Task_workOnce_78 : decode c_Task_workOnce 78 = .ok (.return_, 1) := by decide +kernel
theorem d_Tree_noteEnd_0 : decode c_Tree_noteEnd 0 = .ok (.aload_n 1, 1) := by decide +kernel
theorem d_Tree_noteEnd_1 : decode c_Tree_noteEnd 1 = .ok (.aload_n 0, 1) := by decide +kernel
theorem d_Tree_noteEnd_2 : decode c_Tree_noteEnd 2 = .ok (.getfield 89, 3) := by decide +kernel
theorem d_Tree_noteEnd_5 : decode c_Tree_noteEnd 5 = .ok (.putfield 92, 3) := by decide +kernel
theorem d_Tree_noteEnd_8 : decode c_Tree_noteEnd 8 = .ok (.aload_n 0, 1) := by decide +kernel
theorem d_Tree_noteEnd_9 : decode c_Tree_noteEnd 9 = .ok (.dup, 1) := by decide +kernel
theorem d_Tree_noteEnd_10 : decode c_Tree_noteEnd 10 = .ok (.getfield 89, 3) := by decide +kernel
theorem d_Tree_noteEnd_13 : decode c_Tree_noteEnd 13 = .ok (.iconst 1, 1) := by decide +kernel
theorem d_Tree_noteEnd_14 : decode c_Tree_noteEnd 14 = .ok (.iadd, 1) := by decide +kernel
theorem d_Tree_noteEnd_15 : decode c_Tree_noteEnd 15 = .ok (.putfield 89, 3) := by decide +kernel
theorem d_Tree_noteEnd_18 : decode c_Tree_noteEnd 18 = .ok (.aload_n 1, 1) := by decide +kernel
theorem d_Tree_noteEnd_19 : decode c_Tree_noteEnd 19 = .ok (.getfield 49, 3) := by decide +kernel
theorem d_Tree_noteEnd_22 : decode c_Tree_noteEnd 22 = .ok (.aload_n 1, 1) := by decide +kernel
theorem d_Tree_noteEnd_23 : decode c_Tree_noteEnd 23 = .ok (.invokevirtual 95, 3) := by decide +kernel
theorem d_Tree_noteEnd_26 : decode c_Tree_noteEnd 26 = .ok (.ifCond .eq 11, 3) := by decide +kernel
theorem d_Tree_noteEnd_29 : decode c_Tree_noteEnd 29 = .ok (.aload_n 0, 1) := by decide +kernel
theorem d_Tree_noteEnd_30 : decode c_Tree_noteEnd 30 = .ok (.aload_n 1, 1) := by decide +kernel
theorem d_Tree_noteEnd_31 : decode c_Tree_noteEnd 31 = .ok (.getfield 49, 3) := by decide +kernel
theorem d_Tree_noteEnd_34 : decode c_Tree_noteEnd 34 = .ok (.invokevirtual 86, 3) := by decide +kernel
theorem d_Tree_noteEnd_37 : decode c_Tree_noteEnd 37 = .ok (.return_, 1) := by decide +kernel
theorem d_Scope_isStoppedBy_0 : decode c_Scope_isStoppedBy 0 = .ok (.aload_n 0, 1) := by decide +kernel
theorem d_Scope_isStoppedBy_1 : decode c_Scope_isStoppedBy 1 = .ok (.getfield 19, 3) := by decide +kernel
theorem d_Scope_isStoppedBy_4 : decode c_Scope_isStoppedBy 4 = .ok (.iconst 1, 1) := by decide +kernel
theorem d_Scope_isStoppedBy_5 : decode c_Scope_isStoppedBy 5 = .ok (.if_icmp .ne 11, 3) := by decide +kernel
theorem d_Scope_isStoppedBy_8 : decode c_Scope_isStoppedBy 8 = .ok (.aload_n 1, 1) := by decide +kernel
theorem d_Scope_isStoppedBy_9 : decode c_Scope_isStoppedBy 9 = .ok (.getfield 46, 3) := by decide +kernel
theorem d_Scope_isStoppedBy_12 : decode c_Scope_isStoppedBy 12 = .ok (.iconst 2, 1) := by decide +kernel
theorem d_Scope_isStoppedBy_13 : decode c_Scope_isStoppedBy 13 = .ok (.if_icmp .eq 19, 3) := by decide +kernel
theorem d_Scope_isStoppedBy_16 : decode c_Scope_isStoppedBy 16 = .ok (.aload_n 0, 1) := by decide +kernel
theorem d_Scope_isStoppedBy_17 : decode c_Scope_isStoppedBy 17 = .ok (.getfield 19, 3) := by decide +kernel
theorem d_Scope_isStoppedBy_20 : decode c_Scope_isStoppedBy 20 = .ok (.iconst 2, 1) := by decide +kernel
theorem d_Scope_isStoppedBy_21 : decode c_Scope_isStoppedBy 21 = .ok (.if_icmp .ne 15, 3) := by decide +kernel
theorem d_Scope_isStoppedBy_24 : decode c_Scope_isStoppedBy 24 = .ok (.aload_n 1, 1) := by decide +kernel
theorem d_Scope_isStoppedBy_25 : decode c_Scope_isStoppedBy 25 = .ok (.getfield 46, 3) := by decide +kernel
theorem d_Scope_isStoppedBy_28 : decode c_Scope_isStoppedBy 28 = .ok (.iconst 1, 1) := by decide +kernel
theorem d_Scope_isStoppedBy_29 : decode c_Scope_isStoppedBy 29 = .ok (.if_icmp .ne 7, 3) := by decide +kernel
theorem d_Scope_isStoppedBy_32 : decode c_Scope_isStoppedBy 32 = .ok (.iconst 1, 1) := by decide +kernel
theorem d_Scope_isStoppedBy_33 : decode c_Scope_isStoppedBy 33 = .ok (.goto 4, 3) := by decide +kernel
theorem d_Scope_isStoppedBy_36 : decode c_Scope_isStoppedBy 36 = .ok (.iconst 0, 1) := by decide +kernel
theorem d_Scope_isStoppedBy_37 : decode c_Scope_isStoppedBy 37 = .ok (.ireturn, 1) := by decide +kernel
theorem d_Tree_findTask_0 : decode c_Tree_findTask 0 = .ok (.iload_n 1, 1) := by decide +kernel
theorem d_Tree_findTask_1 : decode c_Tree_findTask 1 = .ok (.ifCond .lt 20, 3) := by decide +kernel
theorem d_Tree_findTask_4 : decode c_Tree_findTask 4 = .ok (.iload_n 1, 1) := by decide +kernel
theorem d_Tree_findTask_5 : decode c_Tree_findTask 5 = .ok (.aload_n 0, 1) := by decide +kernel
theorem d_Tree_findTask_6 : decode c_Tree_findTask 6 = .ok (.getfield 25, 3) := by decide +kernel
theorem d_Tree_findTask_9 : decode c_Tree_findTask 9 = .ok (.if_icmp .ge 12, 3) := by decide +kernel
theorem d_Tree_findTask_12 : decode c_Tree_findTask 12 = .ok (.aload_n 0, 1) := by decide +kernel
theorem d_Tree_findTask_13 : decode c_Tree_findTask 13 = .ok (.getfield 17, 3) := by decide +kernel
theorem d_Tree_findTask_16 : decode c_Tree_findTask 16 = .ok (.iload_n 1, 1) := by decide +kernel
theorem d_Tree_findTask_17 : decode c_Tree_findTask 17 = .ok (.aaload, 1) := by decide +kernel
theorem d_Tree_findTask_18 : decode c_Tree_findTask 18 = .ok (.goto 4, 3) := by decide +kernel
theorem d_Tree_findTask_21 : decode c_Tree_findTask 21 = .ok (.aconst_null, 1) := by decide +kernel
theorem d_Tree_findTask_22 : decode c_Tree_findTask 22 = .ok (.areturn, 1) := by decide +kernel
theorem d_Tree_isFullOfScopes_0 : decode c_Tree_isFullOfScopes 0 = .ok (.aload_n 0, 1) := by decide +kernel
theorem d_Tree_isFullOfScopes_1 : decode c_Tree_isFullOfScopes 1 = .ok (.getfield 21, 3) := by decide +kernel
theorem d_Tree_isFullOfScopes_4 : decode c_Tree_isFullOfScopes 4 = .ok (.bipush 12, 2) := by decide +kernel
theorem d_Tree_isFullOfScopes_6 : decode c_Tree_isFullOfScopes 6 = .ok (.if_icmp .lt 7, 3) := by decide +kernel
theorem d_Tree_isFullOfScopes_9 : decode c_Tree_isFullOfScopes 9 = .ok (.iconst 1, 1) := by decide +kernel
theorem d_Tree_isFullOfScopes_10 : decode c_Tree_isFullOfScopes 10 = .ok (.goto 4, 3) := by decide +kernel
theorem d_Tree_isFullOfScopes_13 : decode c_Tree_isFullOfScopes 13 = .ok (.iconst 0, 1) := by decide +kernel
theorem d_Tree_isFullOfScopes_14 : decode c_Tree_isFullOfScopes 14 = .ok (.ireturn, 1) := by decide +kernel
theorem d_Tree_addScope_0 : decode c_Tree_addScope 0 = .ok (.aload_n 1, 1) := by decide +kernel
theorem d_Tree_addScope_1 : decode c_Tree_addScope 1 = .ok (.iload_n 3, 1) := by decide +kernel
theorem d_Tree_addScope_2 : decode c_Tree_addScope 2 = .ok (.invokestatic 35, 3) := by decide +kernel
theorem d_Tree_addScope_5 : decode c_Tree_addScope 5 = .ok (.istore 5, 2) := by decide +kernel
theorem d_Tree_addScope_7 : decode c_Tree_addScope 7 = .ok (.aload_n 0, 1) := by decide +kernel
theorem d_Tree_addScope_8 : decode c_Tree_addScope 8 = .ok (.getfield 11, 3) := by decide +kernel
theorem d_Tree_addScope_11 : decode c_Tree_addScope 11 = .ok (.aload_n 0, 1) := by decide +kernel
theorem d_Tree_addScope_12 : decode c_Tree_addScope 12 = .ok (.getfield 21, 3) := by decide +kernel
theorem d_Tree_addScope_15 : decode c_Tree_addScope 15 = .ok (.new 9, 3) := by decide +kernel
theorem d_Tree_addScope_18 : decode c_Tree_addScope 18 = .ok (.dup, 1) := by decide +kernel
theorem d_Tree_addScope_19 : decode c_Tree_addScope 19 = .ok (.aload_n 0, 1) := by decide +kernel
theorem d_Tree_addScope_20 : decode c_Tree_addScope 20 = .ok (.getfield 21, 3) := by decide +kernel
theorem d_Tree_addScope_23 : decode c_Tree_addScope 23 = .ok (.aload_n 1, 1) := by decide +kernel
theorem d_Tree_addScope_24 : decode c_Tree_addScope 24 = .ok (.iload_n 2, 1) := by decide +kernel
theorem d_Tree_addScope_25 : decode c_Tree_addScope 25 = .ok (.iload 5, 2) := by decide +kernel
theorem d_Tree_addScope_27 : decode c_Tree_addScope 27 = .ok (.aload 4, 2) := by decide +kernel
theorem d_Tree_addScope_29 : decode c_Tree_addScope 29 = .ok (.invokespecial 39, 3) := by decide +kernel
theorem d_Tree_addScope_32 : decode c_Tree_addScope 32 = .ok (.aastore, 1) := by decide +kernel
theorem d_Tree_addScope_33 : decode c_Tree_addScope 33 = .ok (.aload_n 0, 1) := by decide +kernel
theorem d_Tree_addScope_34 : decode c_Tree_addScope 34 = .ok (.dup, 1) := by decide +kernel
theorem d_Tree_addScope_35 : decode c_Tree_addScope 35 = .ok (.getfield 21, 3) := by decide +kernel
theorem d_Tree_addScope_38 : decode c_Tree_addScope 38 = .ok (.iconst 1, 1) := by decide +kernel
theorem d_Tree_addScope_39 : decode c_Tree_addScope 39 = .ok (.iadd, 1) := by decide +kernel
theorem d_Tree_addScope_40 : decode c_Tree_addScope 40 = .ok (.putfield 21, 3) := by decide +kernel
theorem d_Tree_addScope_43 : decode c_Tree_addScope 43 = .ok (.aload_n 0, 1) := by decide +kernel
theorem d_Tree_addScope_44 : decode c_Tree_addScope 44 = .ok (.getfield 21, 3) := by decide +kernel
theorem d_Tree_addScope_47 : decode c_Tree_addScope 47 = .ok (.iconst 1, 1) := by decide +kernel
theorem d_Tree_addScope_48 : decode c_Tree_addScope 48 = .ok (.isub, 1) := by decide +kernel
theorem d_Tree_addScope_49 : decode c_Tree_addScope 49 = .ok (.ireturn, 1) := by decide +kernel
theorem d_Scope_effectiveDeadline_0 : decode c_Scope_effectiveDeadline 0 = .ok (.aload_n 0, 1) := by decide +kernel
theorem d_Scope_effectiveDeadline_1 : decode c_Scope_effectiveDeadline 1 = .ok (.ifnull 11, 3) := by decide +kernel
theorem d_Scope_effectiveDeadline_4 : decode c_Scope_effectiveDeadline 4 = .ok (.aload_n 0, 1) := by decide +kernel
theorem d_Scope_effectiveDeadline_5 : decode c_Scope_effectiveDeadline 5 = .ok (.getfield 22, 3) := by decide +kernel
theorem d_Scope_effectiveDeadline_8 : decode c_Scope_effectiveDeadline 8 = .ok (.iconst (-1), 1) := by decide +kernel
theorem d_Scope_effectiveDeadline_9 : decode c_Scope_effectiveDeadline 9 = .ok (.if_icmp .ne 13, 3) := by decide +kernel
theorem d_Scope_effectiveDeadline_12 : decode c_Scope_effectiveDeadline 12 = .ok (.iload_n 1, 1) := by decide +kernel
theorem d_Scope_effectiveDeadline_13 : decode c_Scope_effectiveDeadline 13 = .ok (.ifCond .ge 7, 3) := by decide +kernel
theorem d_Scope_effectiveDeadline_16 : decode c_Scope_effectiveDeadline 16 = .ok (.iconst (-1), 1) := by decide +kernel
theorem d_Scope_effectiveDeadline_17 : decode c_Scope_effectiveDeadline 17 = .ok (.goto 4, 3) := by decide +kernel
theorem d_Scope_effectiveDeadline_20 : decode c_Scope_effectiveDeadline 20 = .ok (.iload_n 1, 1) := by decide +kernel
theorem d_Scope_effectiveDeadline_21 : decode c_Scope_effectiveDeadline 21 = .ok (.ireturn, 1) := by decide +kernel
theorem d_Scope_effectiveDeadline_22 : decode c_Scope_effectiveDeadline 22 = .ok (.iload_n 1, 1) := by decide +kernel
theorem d_Scope_effectiveDeadline_23 : decode c_Scope_effectiveDeadline 23 = .ok (.ifCond .ge 10, 3) := by decide +kernel
theorem d_Scope_effectiveDeadline_26 : decode c_Scope_effectiveDeadline 26 = .ok (.aload_n 0, 1) := by decide +kernel
theorem d_Scope_effectiveDeadline_27 : decode c_Scope_effectiveDeadline 27 = .ok (.getfield 22, 3) := by decide +kernel
theorem d_Scope_effectiveDeadline_30 : decode c_Scope_effectiveDeadline 30 = .ok (.goto 11, 3) := by decide +kernel
theorem d_Scope_effectiveDeadline_33 : decode c_Scope_effectiveDeadline 33 = .ok (.iload_n 1, 1) := by decide +kernel
theorem d_Scope_effectiveDeadline_34 : decode c_Scope_effectiveDeadline 34 = .ok (.aload_n 0, 1) := by decide +kernel
theorem d_Scope_effectiveDeadline_35 : decode c_Scope_effectiveDeadline 35 = .ok (.getfield 22, 3) := by decide +kernel
theorem d_Scope_effectiveDeadline_38 : decode c_Scope_effectiveDeadline 38 = .ok (.invokestatic 40, 3) := by decide +kernel
theorem d_Scope_effectiveDeadline_41 : decode c_Scope_effectiveDeadline 41 = .ok (.ireturn, 1) := by decide +kernel
theorem d_Scope_init_0 : decode c_Scope_init 0 = .ok (.aload_n 0, 1) := by decide +kernel
theorem d_Scope_init_1 : decode c_Scope_init 1 = .ok (.invokespecial 3, 3) := by decide +kernel
theorem d_Scope_init_4 : decode c_Scope_init 4 = .ok (.aload_n 0, 1) := by decide +kernel
theorem d_Scope_init_5 : decode c_Scope_init 5 = .ok (.iload_n 1, 1) := by decide +kernel
theorem d_Scope_init_6 : decode c_Scope_init 6 = .ok (.putfield 9, 3) := by decide +kernel
theorem d_Scope_init_9 : decode c_Scope_init 9 = .ok (.aload_n 0, 1) := by decide +kernel
theorem d_Scope_init_10 : decode c_Scope_init 10 = .ok (.aload_n 2, 1) := by decide +kernel
theorem d_Scope_init_11 : decode c_Scope_init 11 = .ok (.putfield 15, 3) := by decide +kernel
theorem d_Scope_init_14 : decode c_Scope_init 14 = .ok (.aload_n 0, 1) := by decide +kernel
theorem d_Scope_init_15 : decode c_Scope_init 15 = .ok (.iload_n 3, 1) := by decide +kernel
theorem d_Scope_init_16 : decode c_Scope_init 16 = .ok (.putfield 19, 3) := by decide +kernel
theorem d_Scope_init_19 : decode c_Scope_init 19 = .ok (.aload_n 0, 1) := by decide +kernel
theorem d_Scope_init_20 : decode c_Scope_init 20 = .ok (.iload 4, 2) := by decide +kernel
theorem d_Scope_init_22 : decode c_Scope_init 22 = .ok (.putfield 22, 3) := by decide +kernel
theorem d_Scope_init_25 : decode c_Scope_init 25 = .ok (.aload_n 0, 1) := by decide +kernel
theorem d_Scope_init_26 : decode c_Scope_init 26 = .ok (.aload 5, 2) := by decide +kernel
theorem d_Scope_init_28 : decode c_Scope_init 28 = .ok (.putfield 25, 3) := by decide +kernel
theorem d_Scope_init_31 : decode c_Scope_init 31 = .ok (.aload_n 0, 1) := by decide +kernel
theorem d_Scope_init_32 : decode c_Scope_init 32 = .ok (.iconst 4, 1) := by decide +kernel
theorem d_Scope_init_33 : decode c_Scope_init 33 = .ok (.newarray .int, 2) := by decide +kernel
theorem d_Scope_init_35 : decode c_Scope_init 35 = .ok (.putfield 29, 3) := by decide +kernel
theorem d_Scope_init_38 : decode c_Scope_init 38 = .ok (.aload_n 0, 1) := by decide +kernel
theorem d_Scope_init_39 : decode c_Scope_init 39 = .ok (.iconst 4, 1) := by decide +kernel
theorem d_Scope_init_40 : decode c_Scope_init 40 = .ok (.newarray .boolean, 2) := by decide +kernel
theorem d_Scope_init_42 : decode c_Scope_init 42 = .ok (.putfield 33, 3) := by decide +kernel
theorem d_Scope_init_45 : decode c_Scope_init 45 = .ok (.aload_n 0, 1) := by decide +kernel
theorem d_Scope_init_46 : decode c_Scope_init 46 = .ok (.iconst 0, 1) := by decide +kernel
theorem d_Scope_init_47 : decode c_Scope_init 47 = .ok (.putfield 37, 3) := by decide +kernel
theorem d_Scope_init_50 : decode c_Scope_init 50 = .ok (.return_, 1) := by decide +kernel
theorem d_Task_isCost_0 : decode c_Task_isCost 0 = .ok (.iload_n 0, 1) := by decide +kernel
theorem d_Task_isCost_1 : decode c_Task_isCost 1 = .ok (.iconst 1, 1) := by decide +kernel
theorem d_Task_isCost_2 : decode c_Task_isCost 2 = .ok (.if_icmp .lt 13, 3) := by decide +kernel
theorem d_Task_isCost_5 : decode c_Task_isCost 5 = .ok (.iload_n 0, 1) := by decide +kernel
theorem d_Task_isCost_6 : decode c_Task_isCost 6 = .ok (.bipush 50, 2) := by decide +kernel
theorem d_Task_isCost_8 : decode c_Task_isCost 8 = .ok (.if_icmp .gt 7, 3) := by decide +kernel
theorem d_Task_isCost_11 : decode c_Task_isCost 11 = .ok (.iconst 1, 1) := by decide +kernel
theorem d_Task_isCost_12 : decode c_Task_isCost 12 = .ok (.goto 4, 3) := by decide +kernel
theorem d_Task_isCost_15 : decode c_Task_isCost 15 = .ok (.iconst 0, 1) := by decide +kernel
theorem d_Task_isCost_16 : decode c_Task_isCost 16 = .ok (.ireturn, 1) := by decide +kernel
theorem d_Tree_isFullOfTasks_0 : decode c_Tree_isFullOfTasks 0 = .ok (.aload_n 0, 1) := by decide +kernel
theorem d_Tree_isFullOfTasks_1 : decode c_Tree_isFullOfTasks 1 = .ok (.getfield 25, 3) := by decide +kernel
theorem d_Tree_isFullOfTasks_4 : decode c_Tree_isFullOfTasks 4 = .ok (.bipush 30, 2) := by decide +kernel
theorem d_Tree_isFullOfTasks_6 : decode c_Tree_isFullOfTasks 6 = .ok (.if_icmp .lt 7, 3) := by decide +kernel
theorem d_Tree_isFullOfTasks_9 : decode c_Tree_isFullOfTasks 9 = .ok (.iconst 1, 1) := by decide +kernel
theorem d_Tree_isFullOfTasks_10 : decode c_Tree_isFullOfTasks 10 = .ok (.goto 4, 3) := by decide +kernel
theorem d_Tree_isFullOfTasks_13 : decode c_Tree_isFullOfTasks 13 = .ok (.iconst 0, 1) := by decide +kernel
theorem d_Tree_isFullOfTasks_14 : decode c_Tree_isFullOfTasks 14 = .ok (.ireturn, 1) := by decide +kernel
theorem d_Tree_addTask_0 : decode c_Tree_addTask 0 = .ok (.aload_n 0, 1) := by decide +kernel
theorem d_Tree_addTask_1 : decode c_Tree_addTask 1 = .ok (.getfield 17, 3) := by decide +kernel
theorem d_Tree_addTask_4 : decode c_Tree_addTask 4 = .ok (.aload_n 0, 1) := by decide +kernel
theorem d_Tree_addTask_5 : decode c_Tree_addTask 5 = .ok (.getfield 25, 3) := by decide +kernel
theorem d_Tree_addTask_8 : decode c_Tree_addTask 8 = .ok (.new 15, 3) := by decide +kernel
theorem d_Tree_addTask_11 : decode c_Tree_addTask 11 = .ok (.dup, 1) := by decide +kernel
theorem d_Tree_addTask_12 : decode c_Tree_addTask 12 = .ok (.aload_n 1, 1) := by decide +kernel
theorem d_Tree_addTask_13 : decode c_Tree_addTask 13 = .ok (.iload_n 2, 1) := by decide +kernel
theorem d_Tree_addTask_14 : decode c_Tree_addTask 14 = .ok (.iload_n 3, 1) := by decide +kernel
theorem d_Tree_addTask_15 : decode c_Tree_addTask 15 = .ok (.iload 4, 2) := by decide +kernel
theorem d_Tree_addTask_17 : decode c_Tree_addTask 17 = .ok (.aload_n 1, 1) := by decide +kernel
theorem d_Tree_addTask_18 : decode c_Tree_addTask 18 = .ok (.iconst 0, 1) := by decide +kernel
theorem d_Tree_addTask_19 : decode c_Tree_addTask 19 = .ok (.invokevirtual 42, 3) := by decide +kernel
theorem d_Tree_addTask_22 : decode c_Tree_addTask 22 = .ok (.invokespecial 46, 3) := by decide +kernel
theorem d_Tree_addTask_25 : decode c_Tree_addTask 25 = .ok (.aastore, 1) := by decide +kernel
theorem d_Tree_addTask_26 : decode c_Tree_addTask 26 = .ok (.aload_n 0, 1) := by decide +kernel
theorem d_Tree_addTask_27 : decode c_Tree_addTask 27 = .ok (.dup, 1) := by decide +kernel
theorem d_Tree_addTask_28 : decode c_Tree_addTask 28 = .ok (.getfield 25, 3) := by decide +kernel
theorem d_Tree_addTask_31 : decode c_Tree_addTask 31 = .ok (.iconst 1, 1) := by decide +kernel
theorem d_Tree_addTask_32 : decode c_Tree_addTask 32 = .ok (.iadd, 1) := by decide +kernel
theorem d_Tree_addTask_33 : decode c_Tree_addTask 33 = .ok (.putfield 25, 3) := by decide +kernel
theorem d_Tree_addTask_36 : decode c_Tree_addTask 36 = .ok (.aload_n 0, 1) := by decide +kernel
theorem d_Tree_addTask_37 : decode c_Tree_addTask 37 = .ok (.getfield 25, 3) := by decide +kernel
theorem d_Tree_addTask_40 : decode c_Tree_addTask 40 = .ok (.iconst 1, 1) := by decide +kernel
theorem d_Tree_addTask_41 : decode c_Tree_addTask 41 = .ok (.isub, 1) := by decide +kernel
theorem d_Tree_addTask_42 : decode c_Tree_addTask 42 = .ok (.ireturn, 1) := by decide +kernel
theorem d_Scope_lookUp_0 : decode c_Scope_lookUp 0 = .ok (.aload_n 0, 1) := by decide +kernel
theorem d_Scope_lookUp_1 : decode c_Scope_lookUp 1 = .ok (.astore_n 2, 1) := by decide +kernel
theorem d_Scope_lookUp_2 : decode c_Scope_lookUp 2 = .ok (.aload_n 2, 1) := by decide +kernel
theorem d_Scope_lookUp_3 : decode c_Scope_lookUp 3 = .ok (.ifnull 27, 3) := by decide +kernel
theorem d_Scope_lookUp_6 : decode c_Scope_lookUp 6 = .ok (.aload_n 2, 1) := by decide +kernel
theorem d_Scope_lookUp_7 : decode c_Scope_lookUp 7 = .ok (.getfield 33, 3) := by decide +kernel
theorem d_Scope_lookUp_10 : decode c_Scope_lookUp 10 = .ok (.iload_n 1, 1) := by decide +kernel
theorem d_Scope_lookUp_11 : decode c_Scope_lookUp 11 = .ok (.baload, 1) := by decide +kernel
theorem d_Scope_lookUp_12 : decode c_Scope_lookUp 12 = .ok (.ifCond .eq 10, 3) := by decide +kernel
theorem d_Scope_lookUp_15 : decode c_Scope_lookUp 15 = .ok (.aload_n 2, 1) := by decide +kernel
theorem d_Scope_lookUp_16 : decode c_Scope_lookUp 16 = .ok (.getfield 29, 3) := by decide +kernel
theorem d_Scope_lookUp_19 : decode c_Scope_lookUp 19 = .ok (.iload_n 1, 1) := by decide +kernel
theorem d_Scope_lookUp_20 : decode c_Scope_lookUp 20 = .ok (.iaload, 1) := by decide +kernel
theorem d_Scope_lookUp_21 : decode c_Scope_lookUp 21 = .ok (.ireturn, 1) := by decide +kernel
theorem d_Scope_lookUp_22 : decode c_Scope_lookUp 22 = .ok (.aload_n 2, 1) := by decide +kernel
theorem d_Scope_lookUp_23 : decode c_Scope_lookUp 23 = .ok (.getfield 15, 3) := by decide +kernel
theorem d_Scope_lookUp_26 : decode c_Scope_lookUp 26 = .ok (.astore_n 2, 1) := by decide +kernel
theorem d_Scope_lookUp_27 : decode c_Scope_lookUp 27 = .ok (.goto (-25), 3) := by decide +kernel
theorem d_Scope_lookUp_30 : decode c_Scope_lookUp 30 = .ok (.iconst 0, 1) := by decide +kernel
theorem d_Scope_lookUp_31 : decode c_Scope_lookUp 31 = .ok (.ireturn, 1) := by decide +kernel
theorem d_Task_init_0 : decode c_Task_init 0 = .ok (.aload_n 0, 1) := by decide +kernel
theorem d_Task_init_1 : decode c_Task_init 1 = .ok (.invokespecial 1, 3) := by decide +kernel
theorem d_Task_init_4 : decode c_Task_init 4 = .ok (.aload_n 0, 1) := by decide +kernel
theorem d_Task_init_5 : decode c_Task_init 5 = .ok (.aload_n 1, 1) := by decide +kernel
theorem d_Task_init_6 : decode c_Task_init 6 = .ok (.putfield 7, 3) := by decide +kernel
theorem d_Task_init_9 : decode c_Task_init 9 = .ok (.aload_n 0, 1) := by decide +kernel
theorem d_Task_init_10 : decode c_Task_init 10 = .ok (.iload_n 2, 1) := by decide +kernel
theorem d_Task_init_11 : decode c_Task_init 11 = .ok (.putfield 13, 3) := by decide +kernel
theorem d_Task_init_14 : decode c_Task_init 14 = .ok (.aload_n 0, 1) := by decide +kernel
theorem d_Task_init_15 : decode c_Task_init 15 = .ok (.iload_n 3, 1) := by decide +kernel
theorem d_Task_init_16 : decode c_Task_init 16 = .ok (.putfield 17, 3) := by decide +kernel
theorem d_Task_init_19 : decode c_Task_init 19 = .ok (.aload_n 0, 1) := by decide +kernel
theorem d_Task_init_20 : decode c_Task_init 20 = .ok (.iload 4, 2) := by decide +kernel
theorem d_Task_init_22 : decode c_Task_init 22 = .ok (.putfield 20, 3) := by decide +kernel
theorem d_Task_init_25 : decode c_Task_init 25 = .ok (.aload_n 0, 1) := by decide +kernel
theorem d_Task_init_26 : decode c_Task_init 26 = .ok (.iload 5, 2) := by decide +kernel
theorem d_Task_init_28 : decode c_Task_init 28 = .ok (.putfield 23, 3) := by decide +kernel
theorem d_Task_init_31 : decode c_Task_init 31 = .ok (.aload_n 0, 1) := by decide +kernel
theorem d_Task_init_32 : decode c_Task_init 32 = .ok (.aload_n 1, 1) := by decide +kernel
theorem d_Task_init_33 : decode c_Task_init 33 = .ok (.getfield 26, 3) := by decide +kernel
theorem d_Task_init_36 : decode c_Task_init 36 = .ok (.ifCond .eq 7, 3) := by decide +kernel
theorem d_Task_init_39 : decode c_Task_init 39 = .ok (.iconst 3, 1) := by decide +kernel
theorem d_Task_init_40 : decode c_Task_init 40 = .ok (.goto 4, 3) := by decide +kernel
theorem d_Task_init_43 : decode c_Task_init 43 = .ok (.iconst 0, 1) := by decide +kernel
theorem d_Task_init_44 : decode c_Task_init 44 = .ok (.putfield 32, 3) := by decide +kernel
theorem d_Task_init_47 : decode c_Task_init 47 = .ok (.return_, 1) := by decide +kernel
end
section
/-! decode rows (by walk.py) -/
theorem d_Ps_init_0 : decode c_Ps_init 0 = .ok (.aload_n 0, 1) := by decide +kernel
theorem d_Ps_init_1 : decode c_Ps_init 1 = .ok (.invokespecial 1, 3) := by decide +kernel
theorem d_Ps_init_4 : decode c_Ps_init 4 = .ok (.aload_n 0, 1) := by decide +kernel
theorem d_Ps_init_5 : decode c_Ps_init 5 = .ok (.new 7, 3) := by decide +kernel
theorem d_Ps_init_8 : decode c_Ps_init 8 = .ok (.dup, 1) := by decide +kernel
theorem d_Ps_init_9 : decode c_Ps_init 9 = .ok (.invokespecial 9, 3) := by decide +kernel
theorem d_Ps_init_12 : decode c_Ps_init 12 = .ok (.putfield 10, 3) := by decide +kernel
theorem d_Ps_init_15 : decode c_Ps_init 15 = .ok (.aload_n 0, 1) := by decide +kernel
theorem d_Ps_init_16 : decode c_Ps_init 16 = .ok (.new 16, 3) := by decide +kernel
theorem d_Ps_init_19 : decode c_Ps_init 19 = .ok (.dup, 1) := by decide +kernel
theorem d_Ps_init_20 : decode c_Ps_init 20 = .ok (.invokespecial 18, 3) := by decide +kernel
theorem d_Ps_init_23 : decode c_Ps_init 23 = .ok (.putfield 19, 3) := by decide +kernel
theorem d_Ps_init_26 : decode c_Ps_init 26 = .ok (.return_, 1) := by decide +kernel
theorem d_Ps_complete_0 : decode c_Ps_complete 0 = .ok (.aload_n 0, 1) := by decide +kernel
theorem d_Ps_complete_1 : decode c_Ps_complete 1 = .ok (.getfield 10, 3) := by decide +kernel
theorem d_Ps_complete_4 : decode c_Ps_complete 4 = .ok (.iload_n 1, 1) := by decide +kernel
theorem d_Ps_complete_5 : decode c_Ps_complete 5 = .ok (.iconst 1, 1) := by decide +kernel
theorem d_Ps_complete_6 : decode c_Ps_complete 6 = .ok (.iload_n 2, 1) := by decide +kernel
theorem d_Ps_complete_7 : decode c_Ps_complete 7 = .ok (.invokevirtual 80, 3) := by decide +kernel
theorem d_Ps_complete_10 : decode c_Ps_complete 10 = .ok (.istore_n 3, 1) := by decide +kernel
theorem d_Ps_complete_11 : decode c_Ps_complete 11 = .ok (.aload_n 0, 1) := by decide +kernel
theorem d_Ps_complete_12 : decode c_Ps_complete 12 = .ok (.getfield 10, 3) := by decide +kernel
theorem d_Ps_complete_15 : decode c_Ps_complete 15 = .ok (.invokevirtual 64, 3) := by decide +kernel
theorem d_Ps_complete_18 : decode c_Ps_complete 18 = .ok (.iload_n 3, 1) := by decide +kernel
theorem d_Ps_complete_19 : decode c_Ps_complete 19 = .ok (.ireturn, 1) := by decide +kernel
theorem d_Ps_fail_0 : decode c_Ps_fail 0 = .ok (.iload_n 2, 1) := by decide +kernel
theorem d_Ps_fail_1 : decode c_Ps_fail 1 = .ok (.iconst 1, 1) := by decide +kernel
theorem d_Ps_fail_2 : decode c_Ps_fail 2 = .ok (.if_icmp .lt 26, 3) := by decide +kernel
theorem d_Ps_fail_5 : decode c_Ps_fail 5 = .ok (.iload_n 2, 1) := by decide +kernel
theorem d_Ps_fail_6 : decode c_Ps_fail 6 = .ok (.bipush 9, 2) := by decide +kernel
theorem d_Ps_fail_8 : decode c_Ps_fail 8 = .ok (.if_icmp .gt 20, 3) := by decide +kernel
theorem d_Ps_fail_11 : decode c_Ps_fail 11 = .ok (.aload_n 0, 1) := by decide +kernel
theorem d_Ps_fail_12 : decode c_Ps_fail 12 = .ok (.getfield 10, 3) := by decide +kernel
theorem d_Ps_fail_15 : decode c_Ps_fail 15 = .ok (.iload_n 1, 1) := by decide +kernel
theorem d_Ps_fail_16 : decode c_Ps_fail 16 = .ok (.iconst 2, 1) := by decide +kernel
theorem d_Ps_fail_17 : decode c_Ps_fail 17 = .ok (.iload_n 2, 1) := by decide +kernel
theorem d_Ps_fail_18 : decode c_Ps_fail 18 = .ok (.invokevirtual 80, 3) := by decide +kernel
theorem d_Ps_fail_21 : decode c_Ps_fail 21 = .ok (.ifCond .eq 7, 3) := by decide +kernel
theorem d_Ps_fail_24 : decode c_Ps_fail 24 = .ok (.iconst 1, 1) := by decide +kernel
theorem d_Ps_fail_25 : decode c_Ps_fail 25 = .ok (.goto 4, 3) := by decide +kernel
theorem d_Ps_fail_28 : decode c_Ps_fail 28 = .ok (.iconst 0, 1) := by decide +kernel
theorem d_Ps_fail_29 : decode c_Ps_fail 29 = .ok (.istore_n 3, 1) := by decide +kernel
theorem d_Ps_fail_30 : decode c_Ps_fail 30 = .ok (.aload_n 0, 1) := by decide +kernel
theorem d_Ps_fail_31 : decode c_Ps_fail 31 = .ok (.getfield 10, 3) := by decide +kernel
theorem d_Ps_fail_34 : decode c_Ps_fail 34 = .ok (.invokevirtual 64, 3) := by decide +kernel
theorem d_Ps_fail_37 : decode c_Ps_fail 37 = .ok (.iload_n 3, 1) := by decide +kernel
theorem d_Ps_fail_38 : decode c_Ps_fail 38 = .ok (.ireturn, 1) := by decide +kernel
theorem d_Ps_cancel_0 : decode c_Ps_cancel 0 = .ok (.aload_n 0, 1) := by decide +kernel
theorem d_Ps_cancel_1 : decode c_Ps_cancel 1 = .ok (.getfield 10, 3) := by decide +kernel
theorem d_Ps_cancel_4 : decode c_Ps_cancel 4 = .ok (.iload_n 1, 1) := by decide +kernel
theorem d_Ps_cancel_5 : decode c_Ps_cancel 5 = .ok (.iconst 2, 1) := by decide +kernel
theorem d_Ps_cancel_6 : decode c_Ps_cancel 6 = .ok (.iconst 0, 1) := by decide +kernel
theorem d_Ps_cancel_7 : decode c_Ps_cancel 7 = .ok (.invokevirtual 80, 3) := by decide +kernel
theorem d_Ps_cancel_10 : decode c_Ps_cancel 10 = .ok (.istore_n 2, 1) := by decide +kernel
theorem d_Ps_cancel_11 : decode c_Ps_cancel 11 = .ok (.aload_n 0, 1) := by decide +kernel
theorem d_Ps_cancel_12 : decode c_Ps_cancel 12 = .ok (.getfield 10, 3) := by decide +kernel
theorem d_Ps_cancel_15 : decode c_Ps_cancel 15 = .ok (.invokevirtual 64, 3) := by decide +kernel
theorem d_Ps_cancel_18 : decode c_Ps_cancel 18 = .ok (.iload_n 2, 1) := by decide +kernel
theorem d_Ps_cancel_19 : decode c_Ps_cancel 19 = .ok (.ireturn, 1) := by decide +kernel
theorem d_Ps_work_0 : decode c_Ps_work 0 = .ok (.iload_n 1, 1) := by decide +kernel
theorem d_Ps_work_1 : decode c_Ps_work 1 = .ok (.invokestatic 84, 3) := by decide +kernel
theorem d_Ps_work_4 : decode c_Ps_work 4 = .ok (.ifCond .ne 5, 3) := by decide +kernel
theorem d_Ps_work_7 : decode c_Ps_work 7 = .ok (.iconst (-1), 1) := by decide +kernel
theorem d_Ps_work_8 : decode c_Ps_work 8 = .ok (.ireturn, 1) := by decide +kernel
theorem d_Ps_work_9 : decode c_Ps_work 9 = .ok (.iconst 0, 1) := by decide +kernel
theorem d_Ps_work_10 : decode c_Ps_work 10 = .ok (.istore_n 2, 1) := by decide +kernel
theorem d_Ps_work_11 : decode c_Ps_work 11 = .ok (.iload_n 2, 1) := by decide +kernel
theorem d_Ps_work_12 : decode c_Ps_work 12 = .ok (.iload_n 1, 1) := by decide +kernel
theorem d_Ps_work_13 : decode c_Ps_work 13 = .ok (.if_icmp .ge 26, 3) := by decide +kernel
theorem d_Ps_work_16 : decode c_Ps_work 16 = .ok (.aload_n 0, 1) := by decide +kernel
theorem d_Ps_work_17 : decode c_Ps_work 17 = .ok (.getfield 10, 3) := by decide +kernel
theorem d_Ps_work_20 : decode c_Ps_work 20 = .ok (.invokevirtual 87, 3) := by decide +kernel
theorem d_Ps_work_23 : decode c_Ps_work 23 = .ok (.ifCond .eq 16, 3) := by decide +kernel
theorem d_Ps_work_26 : decode c_Ps_work 26 = .ok (.aload_n 0, 1) := by decide +kernel
theorem d_Ps_work_27 : decode c_Ps_work 27 = .ok (.getfield 10, 3) := by decide +kernel
theorem d_Ps_work_30 : decode c_Ps_work 30 = .ok (.invokevirtual 64, 3) := by decide +kernel
theorem d_Ps_work_33 : decode c_Ps_work 33 = .ok (.iinc 2 1, 3) := by decide +kernel
theorem d_Ps_work_36 : decode c_Ps_work 36 = .ok (.goto (-25), 3) := by decide +kernel
theorem d_Ps_work_39 : decode c_Ps_work 39 = .ok (.iload_n 2, 1) := by decide +kernel
theorem d_Ps_work_40 : decode c_Ps_work 40 = .ok (.ireturn, 1) := by decide +kernel
theorem d_Ps_isStepCount_0 : decode c_Ps_isStepCount 0 = .ok (.iload_n 0, 1) := by decide +kernel
theorem d_Ps_isStepCount_1 : decode c_Ps_isStepCount 1 = .ok (.ifCond .lt 13, 3) := by decide +kernel
theorem d_Ps_isStepCount_4 : decode c_Ps_isStepCount 4 = .ok (.iload_n 0, 1) := by decide +kernel
theorem d_Ps_isStepCount_5 : decode c_Ps_isStepCount 5 = .ok (.bipush 60, 2) := by decide +kernel
theorem d_Ps_isStepCount_7 : decode c_Ps_isStepCount 7 = .ok (.if_icmp .gt 7, 3) := by decide +kernel
theorem d_Ps_isStepCount_10 : decode c_Ps_isStepCount 10 = .ok (.iconst 1, 1) := by decide +kernel
theorem d_Ps_isStepCount_11 : decode c_Ps_isStepCount 11 = .ok (.goto 4, 3) := by decide +kernel
theorem d_Ps_isStepCount_14 : decode c_Ps_isStepCount 14 = .ok (.iconst 0, 1) := by decide +kernel
theorem d_Ps_isStepCount_15 : decode c_Ps_isStepCount 15 = .ok (.ireturn, 1) := by decide +kernel
theorem d_Ps_stage_0 : decode c_Ps_stage 0 = .ok (.aload_n 0, 1) := by decide +kernel
theorem d_Ps_stage_1 : decode c_Ps_stage 1 = .ok (.getfield 10, 3) := by decide +kernel
theorem d_Ps_stage_4 : decode c_Ps_stage 4 = .ok (.iload_n 1, 1) := by decide +kernel
theorem d_Ps_stage_5 : decode c_Ps_stage 5 = .ok (.invokevirtual 90, 3) := by decide +kernel
theorem d_Ps_stage_8 : decode c_Ps_stage 8 = .ok (.astore_n 3, 1) := by decide +kernel
theorem d_Ps_stage_9 : decode c_Ps_stage 9 = .ok (.aload_n 3, 1) := by decide +kernel
theorem d_Ps_stage_10 : decode c_Ps_stage 10 = .ok (.ifnonnull 5, 3) := by decide +kernel
theorem d_Ps_stage_13 : decode c_Ps_stage 13 = .ok (.iconst (-1), 1) := by decide +kernel
theorem d_Ps_stage_14 : decode c_Ps_stage 14 = .ok (.ireturn, 1) := by decide +kernel
theorem d_Ps_stage_15 : decode c_Ps_stage 15 = .ok (.iload_n 2, 1) := by decide +kernel
theorem d_Ps_stage_16 : decode c_Ps_stage 16 = .ok (.tableswitch 56 0 3 #[32, 37, 42, 47], 32) := by decide +kernel
theorem d_Ps_stage_48 : decode c_Ps_stage 48 = .ok (.aload_n 3, 1) := by decide +kernel
theorem d_Ps_stage_49 : decode c_Ps_stage 49 = .ok (.getfield 96, 3) := by decide +kernel
theorem d_Ps_stage_52 : decode c_Ps_stage 52 = .ok (.ireturn, 1) := by decide +kernel
theorem d_Ps_stage_53 : decode c_Ps_stage 53 = .ok (.aload_n 3, 1) := by decide +kernel
theorem d_Ps_stage_54 : decode c_Ps_stage 54 = .ok (.getfield 106, 3) := by decide +kernel
theorem d_Ps_stage_57 : decode c_Ps_stage 57 = .ok (.ireturn, 1) := by decide +kernel
theorem d_Ps_stage_58 : decode c_Ps_stage 58 = .ok (.aload_n 3, 1) := by decide +kernel
theorem d_Ps_stage_59 : decode c_Ps_stage 59 = .ok (.getfield 109, 3) := by decide +kernel
theorem d_Ps_stage_62 : decode c_Ps_stage 62 = .ok (.ireturn, 1) := by decide +kernel
theorem d_Ps_stage_63 : decode c_Ps_stage 63 = .ok (.aload_n 0, 1) := by decide +kernel
theorem d_Ps_stage_64 : decode c_Ps_stage 64 = .ok (.getfield 10, 3) := by decide +kernel
theorem d_Ps_stage_67 : decode c_Ps_stage 67 = .ok (.aload_n 3, 1) := by decide +kernel
theorem d_Ps_stage_68 : decode c_Ps_stage 68 = .ok (.invokevirtual 112, 3) := by decide +kernel
theorem d_Ps_stage_71 : decode c_Ps_stage 71 = .ok (.ireturn, 1) := by decide +kernel
theorem d_Ps_stage_72 : decode c_Ps_stage 72 = .ok (.iconst (-1), 1) := by decide +kernel
theorem d_Ps_stage_73 : decode c_Ps_stage 73 = .ok (.ireturn, 1) := by decide +kernel
theorem d_Ps_count_0 : decode c_Ps_count 0 = .ok (.iload_n 1, 1) := by decide +kernel
theorem d_Ps_count_1 : decode c_Ps_count 1 = .ok (.tableswitch 75 0 4 #[35, 43, 51, 59, 67], 35) := by decide +kernel
theorem d_Ps_count_36 : decode c_Ps_count 36 = .ok (.aload_n 0, 1) := by decide +kernel
theorem d_Ps_count_37 : decode c_Ps_count 37 = .ok (.getfield 10, 3) := by decide +kernel
theorem d_Ps_count_40 : decode c_Ps_count 40 = .ok (.getfield 116, 3) := by decide +kernel
theorem d_Ps_count_43 : decode c_Ps_count 43 = .ok (.ireturn, 1) := by decide +kernel
theorem d_Ps_count_44 : decode c_Ps_count 44 = .ok (.aload_n 0, 1) := by decide +kernel
theorem d_Ps_count_45 : decode c_Ps_count 45 = .ok (.getfield 10, 3) := by decide +kernel
theorem d_Ps_count_48 : decode c_Ps_count 48 = .ok (.invokevirtual 119, 3) := by decide +kernel
theorem d_Ps_count_51 : decode c_Ps_count 51 = .ok (.ireturn, 1) := by decide +kernel
theorem d_Ps_count_52 : decode c_Ps_count 52 = .ok (.aload_n 0, 1) := by decide +kernel
theorem d_Ps_count_53 : decode c_Ps_count 53 = .ok (.getfield 19, 3) := by decide +kernel
theorem d_Ps_count_56 : decode c_Ps_count 56 = .ok (.getfield 123, 3) := by decide +kernel
theorem d_Ps_count_59 : decode c_Ps_count 59 = .ok (.ireturn, 1) := by decide +kernel
theorem d_Ps_count_60 : decode c_Ps_count 60 = .ok (.aload_n 0, 1) := by decide +kernel
theorem d_Ps_count_61 : decode c_Ps_count 61 = .ok (.getfield 19, 3) := by decide +kernel
theorem d_Ps_count_64 : decode c_Ps_count 64 = .ok (.getfield 126, 3) := by decide +kernel
theorem d_Ps_count_67 : decode c_Ps_count 67 = .ok (.ireturn, 1) := by decide +kernel
theorem d_Ps_count_68 : decode c_Ps_count 68 = .ok (.aload_n 0, 1) := by decide +kernel
theorem d_Ps_count_69 : decode c_Ps_count 69 = .ok (.getfield 19, 3) := by decide +kernel
theorem d_Ps_count_72 : decode c_Ps_count 72 = .ok (.getfield 129, 3) := by decide +kernel
theorem d_Ps_count_75 : decode c_Ps_count 75 = .ok (.ireturn, 1) := by decide +kernel
theorem d_Ps_count_76 : decode c_Ps_count 76 = .ok (.iconst (-1), 1) := by decide +kernel
theorem d_Ps_count_77 : decode c_Ps_count 77 = .ok (.ireturn, 1) := by decide +kernel
theorem d_Ps_bind_0 : decode c_Ps_bind 0 = .ok (.aload_n 0, 1) := by decide +kernel
theorem d_Ps_bind_1 : decode c_Ps_bind 1 = .ok (.getfield 19, 3) := by decide +kernel
theorem d_Ps_bind_4 : decode c_Ps_bind 4 = .ok (.iload_n 1, 1) := by decide +kernel
theorem d_Ps_bind_5 : decode c_Ps_bind 5 = .ok (.invokevirtual 132, 3) := by decide +kernel
theorem d_Ps_bind_8 : decode c_Ps_bind 8 = .ok (.astore 4, 2) := by decide +kernel
theorem d_Ps_bind_10 : decode c_Ps_bind 10 = .ok (.aload 4, 2) := by decide +kernel
theorem d_Ps_bind_12 : decode c_Ps_bind 12 = .ok (.ifnull 10, 3) := by decide +kernel
theorem d_Ps_bind_15 : decode c_Ps_bind 15 = .ok (.iload_n 2, 1) := by decide +kernel
theorem d_Ps_bind_16 : decode c_Ps_bind 16 = .ok (.invokestatic 151, 3) := by decide +kernel
theorem d_Ps_bind_19 : decode c_Ps_bind 19 = .ok (.ifCond .ne 5, 3) := by decide +kernel
theorem d_Ps_bind_22 : decode c_Ps_bind 22 = .ok (.iconst 0, 1) := by decide +kernel
theorem d_Ps_bind_23 : decode c_Ps_bind 23 = .ok (.ireturn, 1) := by decide +kernel
theorem d_Ps_bind_24 : decode c_Ps_bind 24 = .ok (.aload 4, 2) := by decide +kernel
theorem d_Ps_bind_26 : decode c_Ps_bind 26 = .ok (.iload_n 2, 1) := by decide +kernel
theorem d_Ps_bind_27 : decode c_Ps_bind 27 = .ok (.iload_n 3, 1) := by decide +kernel
theorem d_Ps_bind_28 : decode c_Ps_bind 28 = .ok (.invokevirtual 154, 3) := by decide +kernel
theorem d_Ps_bind_31 : decode c_Ps_bind 31 = .ok (.iconst 1, 1) := by decide +kernel
theorem d_Ps_bind_32 : decode c_Ps_bind 32 = .ok (.ireturn, 1) := by decide +kernel
theorem d_Ps_joinScope_0 : decode c_Ps_joinScope 0 = .ok (.aload_n 0, 1) := by decide +kernel
theorem d_Ps_joinScope_1 : decode c_Ps_joinScope 1 = .ok (.getfield 19, 3) := by decide +kernel
theorem d_Ps_joinScope_4 : decode c_Ps_joinScope 4 = .ok (.iload_n 1, 1) := by decide +kernel
theorem d_Ps_joinScope_5 : decode c_Ps_joinScope 5 = .ok (.invokevirtual 132, 3) := by decide +kernel
theorem d_Ps_joinScope_8 : decode c_Ps_joinScope 8 = .ok (.astore_n 2, 1) := by decide +kernel
theorem d_Ps_joinScope_9 : decode c_Ps_joinScope 9 = .ok (.aload_n 2, 1) := by decide +kernel
theorem d_Ps_joinScope_10 : decode c_Ps_joinScope 10 = .ok (.ifnull 14, 3) := by decide +kernel
theorem d_Ps_joinScope_13 : decode c_Ps_joinScope 13 = .ok (.aload_n 0, 1) := by decide +kernel
theorem d_Ps_joinScope_14 : decode c_Ps_joinScope 14 = .ok (.getfield 19, 3) := by decide +kernel
theorem d_Ps_joinScope_17 : decode c_Ps_joinScope 17 = .ok (.aload_n 2, 1) := by decide +kernel
theorem d_Ps_joinScope_18 : decode c_Ps_joinScope 18 = .ok (.invokevirtual 174, 3) := by decide +kernel
theorem d_Ps_joinScope_21 : decode c_Ps_joinScope 21 = .ok (.ifCond .eq 5, 3) := by decide +kernel
theorem d_Ps_joinScope_24 : decode c_Ps_joinScope 24 = .ok (.iconst 0, 1) := by decide +kernel
theorem d_Ps_joinScope_25 : decode c_Ps_joinScope 25 = .ok (.ireturn, 1) := by decide +kernel
theorem d_Ps_joinScope_26 : decode c_Ps_joinScope 26 = .ok (.aload_n 2, 1) := by decide +kernel
theorem d_Ps_joinScope_27 : decode c_Ps_joinScope 27 = .ok (.iconst 1, 1) := by decide +kernel
theorem d_Ps_joinScope_28 : decode c_Ps_joinScope 28 = .ok (.putfield 178, 3) := by decide +kernel
theorem d_Ps_joinScope_31 : decode c_Ps_joinScope 31 = .ok (.aload_n 0, 1) := by decide +kernel
theorem d_Ps_joinScope_32 : decode c_Ps_joinScope 32 = .ok (.getfield 19, 3) := by decide +kernel
theorem d_Ps_joinScope_35 : decode c_Ps_joinScope 35 = .ok (.aload_n 0, 1) := by decide +kernel
theorem d_Ps_joinScope_36 : decode c_Ps_joinScope 36 = .ok (.getfield 10, 3) := by decide +kernel
theorem d_Ps_joinScope_39 : decode c_Ps_joinScope 39 = .ok (.invokevirtual 179, 3) := by decide +kernel
theorem d_Ps_joinScope_42 : decode c_Ps_joinScope 42 = .ok (.aload_n 0, 1) := by decide +kernel
theorem d_Ps_joinScope_43 : decode c_Ps_joinScope 43 = .ok (.getfield 10, 3) := by decide +kernel
theorem d_Ps_joinScope_46 : decode c_Ps_joinScope 46 = .ok (.invokevirtual 64, 3) := by decide +kernel
theorem d_Ps_joinScope_49 : decode c_Ps_joinScope 49 = .ok (.iconst 1, 1) := by decide +kernel
theorem d_Ps_joinScope_50 : decode c_Ps_joinScope 50 = .ok (.ireturn, 1) := by decide +kernel
theorem d_Ps_cancelScope_0 : decode c_Ps_cancelScope 0 = .ok (.aload_n 0, 1) := by decide +kernel
theorem d_Ps_cancelScope_1 : decode c_Ps_cancelScope 1 = .ok (.getfield 19, 3) := by decide +kernel
theorem d_Ps_cancelScope_4 : decode c_Ps_cancelScope 4 = .ok (.iload_n 1, 1) := by decide +kernel
theorem d_Ps_cancelScope_5 : decode c_Ps_cancelScope 5 = .ok (.invokevirtual 145, 3) := by decide +kernel
theorem d_Ps_cancelScope_8 : decode c_Ps_cancelScope 8 = .ok (.astore_n 2, 1) := by decide +kernel
theorem d_Ps_cancelScope_9 : decode c_Ps_cancelScope 9 = .ok (.aload_n 2, 1) := by decide +kernel
theorem d_Ps_cancelScope_10 : decode c_Ps_cancelScope 10 = .ok (.ifnull 11, 3) := by decide +kernel
theorem d_Ps_cancelScope_13 : decode c_Ps_cancelScope 13 = .ok (.aload_n 2, 1) := by decide +kernel
theorem d_Ps_cancelScope_14 : decode c_Ps_cancelScope 14 = .ok (.getfield 178, 3) := by decide +kernel
theorem d_Ps_cancelScope_17 : decode c_Ps_cancelScope 17 = .ok (.iconst 2, 1) := by decide +kernel
theorem d_Ps_cancelScope_18 : decode c_Ps_cancelScope 18 = .ok (.if_icmp .ne 5, 3) := by decide +kernel
theorem d_Ps_cancelScope_21 : decode c_Ps_cancelScope 21 = .ok (.iconst 0, 1) := by decide +kernel
theorem d_Ps_cancelScope_22 : decode c_Ps_cancelScope 22 = .ok (.ireturn, 1) := by decide +kernel
theorem d_Ps_cancelScope_23 : decode c_Ps_cancelScope 23 = .ok (.aload_n 0, 1) := by decide +kernel
theorem d_Ps_cancelScope_24 : decode c_Ps_cancelScope 24 = .ok (.getfield 19, 3) := by decide +kernel
theorem d_Ps_cancelScope_27 : decode c_Ps_cancelScope 27 = .ok (.aload_n 2, 1) := by decide +kernel
theorem d_Ps_cancelScope_28 : decode c_Ps_cancelScope 28 = .ok (.invokevirtual 183, 3) := by decide +kernel
theorem d_Ps_cancelScope_31 : decode c_Ps_cancelScope 31 = .ok (.aload_n 0, 1) := by decide +kernel
theorem d_Ps_cancelScope_32 : decode c_Ps_cancelScope 32 = .ok (.getfield 19, 3) := by decide +kernel
theorem d_Ps_cancelScope_35 : decode c_Ps_cancelScope 35 = .ok (.aload_n 0, 1) := by decide +kernel
theorem d_Ps_cancelScope_36 : decode c_Ps_cancelScope 36 = .ok (.getfield 10, 3) := by decide +kernel
theorem d_Ps_cancelScope_39 : decode c_Ps_cancelScope 39 = .ok (.invokevirtual 179, 3) := by decide +kernel
theorem d_Ps_cancelScope_42 : decode c_Ps_cancelScope 42 = .ok (.aload_n 0, 1) := by decide +kernel
theorem d_Ps_cancelScope_43 : decode c_Ps_cancelScope 43 = .ok (.getfield 10, 3) := by decide +kernel
theorem d_Ps_cancelScope_46 : decode c_Ps_cancelScope 46 = .ok (.invokevirtual 64, 3) := by decide +kernel
theorem d_Ps_cancelScope_49 : decode c_Ps_cancelScope 49 = .ok (.iconst 1, 1) := by decide +kernel
theorem d_Ps_cancelScope_50 : decode c_Ps_cancelScope 50 = .ok (.ireturn, 1) := by decide +kernel
theorem d_Ps_tick_0 : decode c_Ps_tick 0 = .ok (.iload_n 1, 1) := by decide +kernel
theorem d_Ps_tick_1 : decode c_Ps_tick 1 = .ok (.invokestatic 84, 3) := by decide +kernel
theorem d_Ps_tick_4 : decode c_Ps_tick 4 = .ok (.ifCond .ne 5, 3) := by decide +kernel
theorem d_Ps_tick_7 : decode c_Ps_tick 7 = .ok (.iconst (-1), 1) := by decide +kernel
theorem d_Ps_tick_8 : decode c_Ps_tick 8 = .ok (.ireturn, 1) := by decide +kernel
theorem d_Ps_tick_9 : decode c_Ps_tick 9 = .ok (.iconst 0, 1) := by decide +kernel
theorem d_Ps_tick_10 : decode c_Ps_tick 10 = .ok (.istore_n 2, 1) := by decide +kernel
theorem d_Ps_tick_11 : decode c_Ps_tick 11 = .ok (.iconst 0, 1) := by decide +kernel
theorem d_Ps_tick_12 : decode c_Ps_tick 12 = .ok (.istore_n 3, 1) := by decide +kernel
theorem d_Ps_tick_13 : decode c_Ps_tick 13 = .ok (.iload_n 3, 1) := by decide +kernel
theorem d_Ps_tick_14 : decode c_Ps_tick 14 = .ok (.iload_n 1, 1) := by decide +kernel
theorem d_Ps_tick_15 : decode c_Ps_tick 15 = .ok (.if_icmp .ge 37, 3) := by decide +kernel
theorem d_Ps_tick_18 : decode c_Ps_tick 18 = .ok (.iload_n 2, 1) := by decide +kernel
theorem d_Ps_tick_19 : decode c_Ps_tick 19 = .ok (.aload_n 0, 1) := by decide +kernel
theorem d_Ps_tick_20 : decode c_Ps_tick 20 = .ok (.getfield 19, 3) := by decide +kernel
theorem d_Ps_tick_23 : decode c_Ps_tick 23 = .ok (.invokevirtual 187, 3) := by decide +kernel
theorem d_Ps_tick_26 : decode c_Ps_tick 26 = .ok (.iadd, 1) := by decide +kernel
theorem d_Ps_tick_27 : decode c_Ps_tick 27 = .ok (.istore_n 2, 1) := by decide +kernel
theorem d_Ps_tick_28 : decode c_Ps_tick 28 = .ok (.aload_n 0, 1) := by decide +kernel
theorem d_Ps_tick_29 : decode c_Ps_tick 29 = .ok (.getfield 19, 3) := by decide +kernel
theorem d_Ps_tick_32 : decode c_Ps_tick 32 = .ok (.aload_n 0, 1) := by decide +kernel
theorem d_Ps_tick_33 : decode c_Ps_tick 33 = .ok (.getfield 10, 3) := by decide +kernel
theorem d_Ps_tick_36 : decode c_Ps_tick 36 = .ok (.invokevirtual 179, 3) := by decide +kernel
theorem d_Ps_tick_39 : decode c_Ps_tick 39 = .ok (.aload_n 0, 1) := by decide +kernel
theorem d_Ps_tick_40 : decode c_Ps_tick 40 = .ok (.getfield 10, 3) := by decide +kernel
theorem d_Ps_tick_43 : decode c_Ps_tick 43 = .ok (.invokevirtual 64, 3) := by decide +kernel
theorem d_Ps_tick_46 : decode c_Ps_tick 46 = .ok (.iinc 3 1, 3) := by decide +kernel
theorem d_Ps_tick_49 : decode c_Ps_tick 49 = .ok (.goto (-36), 3) := by decide +kernel
theorem d_Ps_tick_52 : decode c_Ps_tick 52 = .ok (.iload_n 2, 1) := by decide +kernel
theorem d_Ps_tick_53 : decode c_Ps_tick 53 = .ok (.ireturn, 1) := by decide +kernel
theorem d_Ps_scope_0 : decode c_Ps_scope 0 = .ok (.aload_n 0, 1) := by decide +kernel
theorem d_Ps_scope_1 : decode c_Ps_scope 1 = .ok (.getfield 19, 3) := by decide +kernel
theorem d_Ps_scope_4 : decode c_Ps_scope 4 = .ok (.iload_n 1, 1) := by decide +kernel
theorem d_Ps_scope_5 : decode c_Ps_scope 5 = .ok (.invokevirtual 145, 3) := by decide +kernel
theorem d_Ps_scope_8 : decode c_Ps_scope 8 = .ok (.astore_n 3, 1) := by decide +kernel
theorem d_Ps_scope_9 : decode c_Ps_scope 9 = .ok (.aload_n 3, 1) := by decide +kernel
theorem d_Ps_scope_10 : decode c_Ps_scope 10 = .ok (.ifnonnull 5, 3) := by decide +kernel
theorem d_Ps_scope_13 : decode c_Ps_scope 13 = .ok (.iconst (-1), 1) := by decide +kernel
theorem d_Ps_scope_14 : decode c_Ps_scope 14 = .ok (.ireturn, 1) := by decide +kernel
theorem d_Ps_scope_15 : decode c_Ps_scope 15 = .ok (.iload_n 2, 1) := by decide +kernel
theorem d_Ps_scope_16 : decode c_Ps_scope 16 = .ok (.tableswitch 104 0 5 #[40, 45, 53, 58, 68, 94], 40) := by decide +kernel
theorem d_Ps_scope_56 : decode c_Ps_scope 56 = .ok (.aload_n 3, 1) := by decide +kernel
theorem d_Ps_scope_57 : decode c_Ps_scope 57 = .ok (.getfield 178, 3) := by decide +kernel
theorem d_Ps_scope_60 : decode c_Ps_scope 60 = .ok (.ireturn, 1) := by decide +kernel
theorem d_Ps_scope_61 : decode c_Ps_scope 61 = .ok (.aload_n 3, 1) := by decide +kernel
theorem d_Ps_scope_62 : decode c_Ps_scope 62 = .ok (.getfield 190, 3) := by decide +kernel
theorem d_Ps_scope_65 : decode c_Ps_scope 65 = .ok (.getfield 38, 3) := by decide +kernel
theorem d_Ps_scope_68 : decode c_Ps_scope 68 = .ok (.ireturn, 1) := by decide +kernel
theorem d_Ps_scope_69 : decode c_Ps_scope 69 = .ok (.aload_n 3, 1) := by decide +kernel
theorem d_Ps_scope_70 : decode c_Ps_scope 70 = .ok (.getfield 194, 3) := by decide +kernel
theorem d_Ps_scope_73 : decode c_Ps_scope 73 = .ok (.ireturn, 1) := by decide +kernel
theorem d_Ps_scope_74 : decode c_Ps_scope 74 = .ok (.aload_n 0, 1) := by decide +kernel
theorem d_Ps_scope_75 : decode c_Ps_scope 75 = .ok (.getfield 19, 3) := by decide +kernel
theorem d_Ps_scope_78 : decode c_Ps_scope 78 = .ok (.aload_n 3, 1) := by decide +kernel
theorem d_Ps_scope_79 : decode c_Ps_scope 79 = .ok (.iconst 0, 1) := by decide +kernel
theorem d_Ps_scope_80 : decode c_Ps_scope 80 = .ok (.invokevirtual 197, 3) := by decide +kernel
theorem d_Ps_scope_83 : decode c_Ps_scope 83 = .ok (.ireturn, 1) := by decide +kernel
theorem d_Ps_scope_84 : decode c_Ps_scope 84 = .ok (.aload_n 3, 1) := by decide +kernel
theorem d_Ps_scope_85 : decode c_Ps_scope 85 = .ok (.getfield 201, 3) := by decide +kernel
theorem d_Ps_scope_88 : decode c_Ps_scope 88 = .ok (.ifCond .eq 7, 3) := by decide +kernel
theorem d_Ps_scope_91 : decode c_Ps_scope 91 = .ok (.iconst 1, 1) := by decide +kernel
theorem d_Ps_scope_92 : decode c_Ps_scope 92 = .ok (.goto 4, 3) := by decide +kernel
theorem d_Ps_scope_95 : decode c_Ps_scope 95 = .ok (.iconst 0, 1) := by decide +kernel
theorem d_Ps_scope_96 : decode c_Ps_scope 96 = .ok (.aload_n 3, 1) := by decide +kernel
theorem d_Ps_scope_97 : decode c_Ps_scope 97 = .ok (.getfield 205, 3) := by decide +kernel
theorem d_Ps_scope_100 : decode c_Ps_scope 100 = .ok (.ifCond .eq 7, 3) := by decide +kernel
theorem d_Ps_scope_103 : decode c_Ps_scope 103 = .ok (.iconst 2, 1) := by decide +kernel
theorem d_Ps_scope_104 : decode c_Ps_scope 104 = .ok (.goto 4, 3) := by decide +kernel
theorem d_Ps_scope_107 : decode c_Ps_scope 107 = .ok (.iconst 0, 1) := by decide +kernel
theorem d_Ps_scope_108 : decode c_Ps_scope 108 = .ok (.iadd, 1) := by decide +kernel
theorem d_Ps_scope_109 : decode c_Ps_scope 109 = .ok (.ireturn, 1) := by decide +kernel
theorem d_Ps_scope_110 : decode c_Ps_scope 110 = .ok (.aload_n 0, 1) := by decide +kernel
theorem d_Ps_scope_111 : decode c_Ps_scope 111 = .ok (.getfield 19, 3) := by decide +kernel
theorem d_Ps_scope_114 : decode c_Ps_scope 114 = .ok (.aload_n 3, 1) := by decide +kernel
theorem d_Ps_scope_115 : decode c_Ps_scope 115 = .ok (.iconst 2, 1) := by decide +kernel
theorem d_Ps_scope_116 : decode c_Ps_scope 116 = .ok (.invokevirtual 197, 3) := by decide +kernel
theorem d_Ps_scope_119 : decode c_Ps_scope 119 = .ok (.ireturn, 1) := by decide +kernel
theorem d_Ps_scope_120 : decode c_Ps_scope 120 = .ok (.iconst (-1), 1) := by decide +kernel
theorem d_Ps_scope_121 : decode c_Ps_scope 121 = .ok (.ireturn, 1) := by decide +kernel
theorem d_Ps_task_0 : decode c_Ps_task 0 = .ok (.aload_n 0, 1) := by decide +kernel
theorem d_Ps_task_1 : decode c_Ps_task 1 = .ok (.getfield 19, 3) := by decide +kernel
theorem d_Ps_task_4 : decode c_Ps_task 4 = .ok (.iload_n 1, 1) := by decide +kernel
theorem d_Ps_task_5 : decode c_Ps_task 5 = .ok (.invokevirtual 214, 3) := by decide +kernel
theorem d_Ps_task_8 : decode c_Ps_task 8 = .ok (.astore_n 3, 1) := by decide +kernel
theorem d_Ps_task_9 : decode c_Ps_task 9 = .ok (.aload_n 3, 1) := by decide +kernel
theorem d_Ps_task_10 : decode c_Ps_task 10 = .ok (.ifnonnull 5, 3) := by decide +kernel
theorem d_Ps_task_13 : decode c_Ps_task 13 = .ok (.iconst (-1), 1) := by decide +kernel
theorem d_Ps_task_14 : decode c_Ps_task 14 = .ok (.ireturn, 1) := by decide +kernel
theorem d_Ps_task_15 : decode c_Ps_task 15 = .ok (.iload_n 2, 1) := by decide +kernel
theorem d_Ps_task_16 : decode c_Ps_task 16 = .ok (.tableswitch 55 0 3 #[32, 37, 45, 50], 32) := by decide +kernel
theorem d_Ps_task_48 : decode c_Ps_task 48 = .ok (.aload_n 3, 1) := by decide +kernel
theorem d_Ps_task_49 : decode c_Ps_task 49 = .ok (.getfield 218, 3) := by decide +kernel
theorem d_Ps_task_52 : decode c_Ps_task 52 = .ok (.ireturn, 1) := by decide +kernel
theorem d_Ps_task_53 : decode c_Ps_task 53 = .ok (.aload_n 3, 1) := by decide +kernel
theorem d_Ps_task_54 : decode c_Ps_task 54 = .ok (.getfield 219, 3) := by decide +kernel
theorem d_Ps_task_57 : decode c_Ps_task 57 = .ok (.getfield 223, 3) := by decide +kernel
theorem d_Ps_task_60 : decode c_Ps_task 60 = .ok (.ireturn, 1) := by decide +kernel
theorem d_Ps_task_61 : decode c_Ps_task 61 = .ok (.aload_n 3, 1) := by decide +kernel
theorem d_Ps_task_62 : decode c_Ps_task 62 = .ok (.getfield 224, 3) := by decide +kernel
theorem d_Ps_task_65 : decode c_Ps_task 65 = .ok (.ireturn, 1) := by decide +kernel
theorem d_Ps_task_66 : decode c_Ps_task 66 = .ok (.aload_n 3, 1) := by decide +kernel
theorem d_Ps_task_67 : decode c_Ps_task 67 = .ok (.getfield 227, 3) := by decide +kernel
theorem d_Ps_task_70 : decode c_Ps_task 70 = .ok (.ireturn, 1) := by decide +kernel
theorem d_Ps_task_71 : decode c_Ps_task 71 = .ok (.iconst (-1), 1) := by decide +kernel
theorem d_Ps_task_72 : decode c_Ps_task 72 = .ok (.ireturn, 1) := by decide +kernel
theorem d_Ps_source_0 : decode c_Ps_source 0 = .ok (.aload_n 0, 1) := by decide +kernel
theorem d_Ps_source_1 : decode c_Ps_source 1 = .ok (.getfield 10, 3) := by decide +kernel
theorem d_Ps_source_4 : decode c_Ps_source 4 = .ok (.invokevirtual 23, 3) := by decide +kernel
theorem d_Ps_source_7 : decode c_Ps_source 7 = .ok (.ifCond .eq 13, 3) := by decide +kernel
theorem d_Ps_source_10 : decode c_Ps_source 10 = .ok (.new 27, 3) := by decide +kernel
theorem d_Ps_source_13 : decode c_Ps_source 13 = .ok (.dup, 1) := by decide +kernel
theorem d_Ps_source_14 : decode c_Ps_source 14 = .ok (.ldc 29, 2) := by decide +kernel
theorem d_Ps_source_16 : decode c_Ps_source 16 = .ok (.invokespecial 31, 3) := by decide +kernel
theorem d_Ps_source_19 : decode c_Ps_source 19 = .ok (.athrow, 1) := by decide +kernel
theorem d_Ps_source_20 : decode c_Ps_source 20 = .ok (.aload_n 0, 1) := by decide +kernel
theorem d_Ps_source_21 : decode c_Ps_source 21 = .ok (.getfield 10, 3) := by decide +kernel
theorem d_Ps_source_24 : decode c_Ps_source 24 = .ok (.invokevirtual 34, 3) := by decide +kernel
theorem d_Ps_source_27 : decode c_Ps_source 27 = .ok (.getfield 38, 3) := by decide +kernel
theorem d_Ps_source_30 : decode c_Ps_source 30 = .ok (.ireturn, 1) := by decide +kernel
theorem d_Ps_then_0 : decode c_Ps_then 0 = .ok (.aload_n 0, 1) := by decide +kernel
theorem d_Ps_then_1 : decode c_Ps_then 1 = .ok (.getfield 10, 3) := by decide +kernel
theorem d_Ps_then_4 : decode c_Ps_then 4 = .ok (.iload_n 1, 1) := by decide +kernel
theorem d_Ps_then_5 : decode c_Ps_then 5 = .ok (.invokevirtual 44, 3) := by decide +kernel
theorem d_Ps_then_8 : decode c_Ps_then 8 = .ok (.ifCond .eq 19, 3) := by decide +kernel
theorem d_Ps_then_11 : decode c_Ps_then 11 = .ok (.iload_n 2, 1) := by decide +kernel
theorem d_Ps_then_12 : decode c_Ps_then 12 = .ok (.ifCond .lt 15, 3) := by decide +kernel
theorem d_Ps_then_15 : decode c_Ps_then 15 = .ok (.iload_n 2, 1) := by decide +kernel
theorem d_Ps_then_16 : decode c_Ps_then 16 = .ok (.iconst 4, 1) := by decide +kernel
theorem d_Ps_then_17 : decode c_Ps_then 17 = .ok (.if_icmp .gt 10, 3) := by decide +kernel
theorem d_Ps_then_20 : decode c_Ps_then 20 = .ok (.iload_n 3, 1) := by decide +kernel
theorem d_Ps_then_21 : decode c_Ps_then 21 = .ok (.invokestatic 48, 3) := by decide +kernel
theorem d_Ps_then_24 : decode c_Ps_then 24 = .ok (.ifCond .ne 13, 3) := by decide +kernel
theorem d_Ps_then_27 : decode c_Ps_then 27 = .ok (.new 51, 3) := by decide +kernel
theorem d_Ps_then_30 : decode c_Ps_then 30 = .ok (.dup, 1) := by decide +kernel
theorem d_Ps_then_31 : decode c_Ps_then 31 = .ok (.ldc 53, 2) := by decide +kernel
theorem d_Ps_then_33 : decode c_Ps_then 33 = .ok (.invokespecial 55, 3) := by decide +kernel
theorem d_Ps_then_36 : decode c_Ps_then 36 = .ok (.athrow, 1) := by decide +kernel
theorem d_Ps_then_37 : decode c_Ps_then 37 = .ok (.aload_n 0, 1) := by decide +kernel
theorem d_Ps_then_38 : decode c_Ps_then 38 = .ok (.getfield 10, 3) := by decide +kernel
theorem d_Ps_then_41 : decode c_Ps_then 41 = .ok (.invokevirtual 23, 3) := by decide +kernel
theorem d_Ps_then_44 : decode c_Ps_then 44 = .ok (.ifCond .eq 13, 3) := by decide +kernel
theorem d_Ps_then_47 : decode c_Ps_then 47 = .ok (.new 27, 3) := by decide +kernel
theorem d_Ps_then_50 : decode c_Ps_then 50 = .ok (.dup, 1) := by decide +kernel
theorem d_Ps_then_51 : decode c_Ps_then 51 = .ok (.ldc 29, 2) := by decide +kernel
theorem d_Ps_then_53 : decode c_Ps_then 53 = .ok (.invokespecial 31, 3) := by decide +kernel
theorem d_Ps_then_56 : decode c_Ps_then 56 = .ok (.athrow, 1) := by decide +kernel
theorem d_Ps_then_57 : decode c_Ps_then 57 = .ok (.aload_n 0, 1) := by decide +kernel
theorem d_Ps_then_58 : decode c_Ps_then 58 = .ok (.getfield 10, 3) := by decide +kernel
theorem d_Ps_then_61 : decode c_Ps_then 61 = .ok (.aload_n 0, 1) := by decide +kernel
theorem d_Ps_then_62 : decode c_Ps_then 62 = .ok (.getfield 10, 3) := by decide +kernel
theorem d_Ps_then_65 : decode c_Ps_then 65 = .ok (.iload_n 1, 1) := by decide +kernel
theorem d_Ps_then_66 : decode c_Ps_then 66 = .ok (.invokevirtual 56, 3) := by decide +kernel
theorem d_Ps_then_69 : decode c_Ps_then 69 = .ok (.iload_n 2, 1) := by decide +kernel
theorem d_Ps_then_70 : decode c_Ps_then 70 = .ok (.iload_n 3, 1) := by decide +kernel
theorem d_Ps_then_71 : decode c_Ps_then 71 = .ok (.iload 4, 2) := by decide +kernel
theorem d_Ps_then_73 : decode c_Ps_then 73 = .ok (.iload 5, 2) := by decide +kernel
theorem d_Ps_then_75 : decode c_Ps_then 75 = .ok (.invokevirtual 60, 3) := by decide +kernel
theorem d_Ps_then_78 : decode c_Ps_then 78 = .ok (.astore 6, 2) := by decide +kernel
theorem d_Ps_then_80 : decode c_Ps_then 80 = .ok (.aload_n 0, 1) := by decide +kernel
theorem d_Ps_then_81 : decode c_Ps_then 81 = .ok (.getfield 10, 3) := by decide +kernel
theorem d_Ps_then_84 : decode c_Ps_then 84 = .ok (.invokevirtual 64, 3) := by decide +kernel
theorem d_Ps_then_87 : decode c_Ps_then 87 = .ok (.aload 6, 2) := by decide +kernel
theorem d_Ps_then_89 : decode c_Ps_then 89 = .ok (.getfield 38, 3) := by decide +kernel
theorem d_Ps_then_92 : decode c_Ps_then 92 = .ok (.ireturn, 1) := by decide +kernel
theorem d_Ps_both_0 : decode c_Ps_both 0 = .ok (.aload_n 0, 1) := by decide +kernel
theorem d_Ps_both_1 : decode c_Ps_both 1 = .ok (.getfield 10, 3) := by decide +kernel
theorem d_Ps_both_4 : decode c_Ps_both 4 = .ok (.iload_n 1, 1) := by decide +kernel
theorem d_Ps_both_5 : decode c_Ps_both 5 = .ok (.invokevirtual 44, 3) := by decide +kernel
theorem d_Ps_both_8 : decode c_Ps_both 8 = .ok (.ifCond .eq 33, 3) := by decide +kernel
theorem d_Ps_both_11 : decode c_Ps_both 11 = .ok (.aload_n 0, 1) := by decide +kernel
theorem d_Ps_both_12 : decode c_Ps_both 12 = .ok (.getfield 10, 3) := by decide +kernel
theorem d_Ps_both_15 : decode c_Ps_both 15 = .ok (.iload_n 2, 1) := by decide +kernel
theorem d_Ps_both_16 : decode c_Ps_both 16 = .ok (.invokevirtual 44, 3) := by decide +kernel
theorem d_Ps_both_19 : decode c_Ps_both 19 = .ok (.ifCond .eq 22, 3) := by decide +kernel
theorem d_Ps_both_22 : decode c_Ps_both 22 = .ok (.iload_n 3, 1) := by decide +kernel
theorem d_Ps_both_23 : decode c_Ps_both 23 = .ok (.iconst 5, 1) := by decide +kernel
theorem d_Ps_both_24 : decode c_Ps_both 24 = .ok (.if_icmp .lt 17, 3) := by decide +kernel
theorem d_Ps_both_27 : decode c_Ps_both 27 = .ok (.iload_n 3, 1) := by decide +kernel
theorem d_Ps_both_28 : decode c_Ps_both 28 = .ok (.bipush 6, 2) := by decide +kernel
theorem d_Ps_both_30 : decode c_Ps_both 30 = .ok (.if_icmp .gt 11, 3) := by decide +kernel
theorem d_Ps_both_33 : decode c_Ps_both 33 = .ok (.iload 4, 2) := by decide +kernel
theorem d_Ps_both_35 : decode c_Ps_both 35 = .ok (.invokestatic 48, 3) := by decide +kernel
theorem d_Ps_both_38 : decode c_Ps_both 38 = .ok (.ifCond .ne 13, 3) := by decide +kernel
theorem d_Ps_both_41 : decode c_Ps_both 41 = .ok (.new 51, 3) := by decide +kernel
theorem d_Ps_both_44 : decode c_Ps_both 44 = .ok (.dup, 1) := by decide +kernel
theorem d_Ps_both_45 : decode c_Ps_both 45 = .ok (.ldc 53, 2) := by decide +kernel
theorem d_Ps_both_47 : decode c_Ps_both 47 = .ok (.invokespecial 55, 3) := by decide +kernel
theorem d_Ps_both_50 : decode c_Ps_both 50 = .ok (.athrow, 1) := by decide +kernel
theorem d_Ps_both_51 : decode c_Ps_both 51 = .ok (.aload_n 0, 1) := by decide +kernel
theorem d_Ps_both_52 : decode c_Ps_both 52 = .ok (.getfield 10, 3) := by decide +kernel
theorem d_Ps_both_55 : decode c_Ps_both 55 = .ok (.invokevirtual 23, 3) := by decide +kernel
theorem d_Ps_both_58 : decode c_Ps_both 58 = .ok (.ifCond .eq 13, 3) := by decide +kernel
theorem d_Ps_both_61 : decode c_Ps_both 61 = .ok (.new 27, 3) := by decide +kernel
theorem d_Ps_both_64 : decode c_Ps_both 64 = .ok (.dup, 1) := by decide +kernel
theorem d_Ps_both_65 : decode c_Ps_both 65 = .ok (.ldc 29, 2) := by decide +kernel
theorem d_Ps_both_67 : decode c_Ps_both 67 = .ok (.invokespecial 31, 3) := by decide +kernel
theorem d_Ps_both_70 : decode c_Ps_both 70 = .ok (.athrow, 1) := by decide +kernel
theorem d_Ps_both_71 : decode c_Ps_both 71 = .ok (.aload_n 0, 1) := by decide +kernel
theorem d_Ps_both_72 : decode c_Ps_both 72 = .ok (.getfield 10, 3) := by decide +kernel
theorem d_Ps_both_75 : decode c_Ps_both 75 = .ok (.aload_n 0, 1) := by decide +kernel
theorem d_Ps_both_76 : decode c_Ps_both 76 = .ok (.getfield 10, 3) := by decide +kernel
theorem d_Ps_both_79 : decode c_Ps_both 79 = .ok (.iload_n 1, 1) := by decide +kernel
theorem d_Ps_both_80 : decode c_Ps_both 80 = .ok (.iload_n 2, 1) := by decide +kernel
theorem d_Ps_both_81 : decode c_Ps_both 81 = .ok (.invokevirtual 67, 3) := by decide +kernel
theorem d_Ps_both_84 : decode c_Ps_both 84 = .ok (.iload_n 3, 1) := by decide +kernel
theorem d_Ps_both_85 : decode c_Ps_both 85 = .ok (.iload 4, 2) := by decide +kernel
theorem d_Ps_both_87 : decode c_Ps_both 87 = .ok (.iload 5, 2) := by decide +kernel
theorem d_Ps_both_89 : decode c_Ps_both 89 = .ok (.iload 6, 2) := by decide +kernel
theorem d_Ps_both_91 : decode c_Ps_both 91 = .ok (.invokevirtual 60, 3) := by decide +kernel
theorem d_Ps_both_94 : decode c_Ps_both 94 = .ok (.astore 7, 2) := by decide +kernel
theorem d_Ps_both_96 : decode c_Ps_both 96 = .ok (.aload_n 0, 1) := by decide +kernel
theorem d_Ps_both_97 : decode c_Ps_both 97 = .ok (.getfield 10, 3) := by decide +kernel
theorem d_Ps_both_100 : decode c_Ps_both 100 = .ok (.invokevirtual 64, 3) := by decide +kernel
theorem d_Ps_both_103 : decode c_Ps_both 103 = .ok (.aload 7, 2) := by decide +kernel
theorem d_Ps_both_105 : decode c_Ps_both 105 = .ok (.getfield 38, 3) := by decide +kernel
theorem d_Ps_both_108 : decode c_Ps_both 108 = .ok (.ireturn, 1) := by decide +kernel
theorem d_Ps_several_0 : decode c_Ps_several 0 = .ok (.aload_n 0, 1) := by decide +kernel
theorem d_Ps_several_1 : decode c_Ps_several 1 = .ok (.getfield 10, 3) := by decide +kernel
theorem d_Ps_several_4 : decode c_Ps_several 4 = .ok (.lload_n 1, 1) := by decide +kernel
theorem d_Ps_several_5 : decode c_Ps_several 5 = .ok (.invokevirtual 70, 3) := by decide +kernel
theorem d_Ps_several_8 : decode c_Ps_several 8 = .ok (.ifCond .eq 15, 3) := by decide +kernel
theorem d_Ps_several_11 : decode c_Ps_several 11 = .ok (.iload_n 3, 1) := by decide +kernel
theorem d_Ps_several_12 : decode c_Ps_several 12 = .ok (.bipush 7, 2) := by decide +kernel
theorem d_Ps_several_14 : decode c_Ps_several 14 = .ok (.if_icmp .lt 9, 3) := by decide +kernel
theorem d_Ps_several_17 : decode c_Ps_several 17 = .ok (.iload_n 3, 1) := by decide +kernel
theorem d_Ps_several_18 : decode c_Ps_several 18 = .ok (.bipush 8, 2) := by decide +kernel
theorem d_Ps_several_20 : decode c_Ps_several 20 = .ok (.if_icmp .le 13, 3) := by decide +kernel
theorem d_Ps_several_23 : decode c_Ps_several 23 = .ok (.new 51, 3) := by decide +kernel
theorem d_Ps_several_26 : decode c_Ps_several 26 = .ok (.dup, 1) := by decide +kernel
theorem d_Ps_several_27 : decode c_Ps_several 27 = .ok (.ldc 74, 2) := by decide +kernel
theorem d_Ps_several_29 : decode c_Ps_several 29 = .ok (.invokespecial 55, 3) := by decide +kernel
theorem d_Ps_several_32 : decode c_Ps_several 32 = .ok (.athrow, 1) := by decide +kernel
theorem d_Ps_several_33 : decode c_Ps_several 33 = .ok (.aload_n 0, 1) := by decide +kernel
theorem d_Ps_several_34 : decode c_Ps_several 34 = .ok (.getfield 10, 3) := by decide +kernel
theorem d_Ps_several_37 : decode c_Ps_several 37 = .ok (.invokevirtual 23, 3) := by decide +kernel
theorem d_Ps_several_40 : decode c_Ps_several 40 = .ok (.ifCond .eq 13, 3) := by decide +kernel
theorem d_Ps_several_43 : decode c_Ps_several 43 = .ok (.new 27, 3) := by decide +kernel
theorem d_Ps_several_46 : decode c_Ps_several 46 = .ok (.dup, 1) := by decide +kernel
theorem d_Ps_several_47 : decode c_Ps_several 47 = .ok (.ldc 29, 2) := by decide +kernel
theorem d_Ps_several_49 : decode c_Ps_several 49 = .ok (.invokespecial 31, 3) := by decide +kernel
theorem d_Ps_several_52 : decode c_Ps_several 52 = .ok (.athrow, 1) := by decide +kernel
theorem d_Ps_several_53 : decode c_Ps_several 53 = .ok (.aload_n 0, 1) := by decide +kernel
theorem d_Ps_several_54 : decode c_Ps_several 54 = .ok (.getfield 10, 3) := by decide +kernel
theorem d_Ps_several_57 : decode c_Ps_several 57 = .ok (.aload_n 0, 1) := by decide +kernel
theorem d_Ps_several_58 : decode c_Ps_several 58 = .ok (.getfield 10, 3) := by decide +kernel
theorem d_Ps_several_61 : decode c_Ps_several 61 = .ok (.lload_n 1, 1) := by decide +kernel
theorem d_Ps_several_62 : decode c_Ps_several 62 = .ok (.invokevirtual 76, 3) := by decide +kernel
theorem d_Ps_several_65 : decode c_Ps_several 65 = .ok (.iload_n 3, 1) := by decide +kernel
theorem d_Ps_several_66 : decode c_Ps_several 66 = .ok (.iconst (-1), 1) := by decide +kernel
theorem d_Ps_several_67 : decode c_Ps_several 67 = .ok (.iconst 0, 1) := by decide +kernel
theorem d_Ps_several_68 : decode c_Ps_several 68 = .ok (.iconst 0, 1) := by decide +kernel
theorem d_Ps_several_69 : decode c_Ps_several 69 = .ok (.invokevirtual 60, 3) := by decide +kernel
theorem d_Ps_several_72 : decode c_Ps_several 72 = .ok (.astore 4, 2) := by decide +kernel
theorem d_Ps_several_74 : decode c_Ps_several 74 = .ok (.aload_n 0, 1) := by decide +kernel
theorem d_Ps_several_75 : decode c_Ps_several 75 = .ok (.getfield 10, 3) := by decide +kernel
theorem d_Ps_several_78 : decode c_Ps_several 78 = .ok (.invokevirtual 64, 3) := by decide +kernel
theorem d_Ps_several_81 : decode c_Ps_several 81 = .ok (.aload 4, 2) := by decide +kernel
theorem d_Ps_several_83 : decode c_Ps_several 83 = .ok (.getfield 38, 3) := by decide +kernel
theorem d_Ps_several_86 : decode c_Ps_several 86 = .ok (.ireturn, 1) := by decide +kernel
theorem d_Ps_join_0 : decode c_Ps_join 0 = .ok (.aload_n 0, 1) := by decide +kernel
theorem d_Ps_join_1 : decode c_Ps_join 1 = .ok (.getfield 10, 3) := by decide +kernel
theorem d_Ps_join_4 : decode c_Ps_join 4 = .ok (.iload_n 1, 1) := by decide +kernel
theorem d_Ps_join_5 : decode c_Ps_join 5 = .ok (.invokevirtual 90, 3) := by decide +kernel
theorem d_Ps_join_8 : decode c_Ps_join 8 = .ok (.astore_n 2, 1) := by decide +kernel
theorem d_Ps_join_9 : decode c_Ps_join 9 = .ok (.aload_n 2, 1) := by decide +kernel
theorem d_Ps_join_10 : decode c_Ps_join 10 = .ok (.ifnonnull 13, 3) := by decide +kernel
theorem d_Ps_join_13 : decode c_Ps_join 13 = .ok (.new 51, 3) := by decide +kernel
theorem d_Ps_join_16 : decode c_Ps_join 16 = .ok (.dup, 1) := by decide +kernel
theorem d_Ps_join_17 : decode c_Ps_join 17 = .ok (.ldc 94, 2) := by decide +kernel
theorem d_Ps_join_19 : decode c_Ps_join 19 = .ok (.invokespecial 55, 3) := by decide +kernel
theorem d_Ps_join_22 : decode c_Ps_join 22 = .ok (.athrow, 1) := by decide +kernel
theorem d_Ps_join_23 : decode c_Ps_join 23 = .ok (.aload_n 2, 1) := by decide +kernel
theorem d_Ps_join_24 : decode c_Ps_join 24 = .ok (.getfield 96, 3) := by decide +kernel
theorem d_Ps_join_27 : decode c_Ps_join 27 = .ok (.ifCond .ne 13, 3) := by decide +kernel
theorem d_Ps_join_30 : decode c_Ps_join 30 = .ok (.new 99, 3) := by decide +kernel
theorem d_Ps_join_33 : decode c_Ps_join 33 = .ok (.dup, 1) := by decide +kernel
theorem d_Ps_join_34 : decode c_Ps_join 34 = .ok (.ldc 101, 2) := by decide +kernel
theorem d_Ps_join_36 : decode c_Ps_join 36 = .ok (.invokespecial 103, 3) := by decide +kernel
theorem d_Ps_join_39 : decode c_Ps_join 39 = .ok (.athrow, 1) := by decide +kernel
theorem d_Ps_join_40 : decode c_Ps_join 40 = .ok (.aload_n 2, 1) := by decide +kernel
theorem d_Ps_join_41 : decode c_Ps_join 41 = .ok (.getfield 96, 3) := by decide +kernel
theorem d_Ps_join_44 : decode c_Ps_join 44 = .ok (.iconst 1, 1) := by decide +kernel
theorem d_Ps_join_45 : decode c_Ps_join 45 = .ok (.if_icmp .eq 13, 3) := by decide +kernel
theorem d_Ps_join_48 : decode c_Ps_join 48 = .ok (.new 27, 3) := by decide +kernel
theorem d_Ps_join_51 : decode c_Ps_join 51 = .ok (.dup, 1) := by decide +kernel
theorem d_Ps_join_52 : decode c_Ps_join 52 = .ok (.ldc 104, 2) := by decide +kernel
theorem d_Ps_join_54 : decode c_Ps_join 54 = .ok (.invokespecial 31, 3) := by decide +kernel
theorem d_Ps_join_57 : decode c_Ps_join 57 = .ok (.athrow, 1) := by decide +kernel
theorem d_Ps_join_58 : decode c_Ps_join 58 = .ok (.aload_n 2, 1) := by decide +kernel
theorem d_Ps_join_59 : decode c_Ps_join 59 = .ok (.getfield 106, 3) := by decide +kernel
theorem d_Ps_join_62 : decode c_Ps_join 62 = .ok (.ireturn, 1) := by decide +kernel
theorem d_Ps_open_0 : decode c_Ps_open 0 = .ok (.iload_n 1, 1) := by decide +kernel
theorem d_Ps_open_1 : decode c_Ps_open 1 = .ok (.iconst (-1), 1) := by decide +kernel
theorem d_Ps_open_2 : decode c_Ps_open 2 = .ok (.if_icmp .eq 14, 3) := by decide +kernel
theorem d_Ps_open_5 : decode c_Ps_open 5 = .ok (.aload_n 0, 1) := by decide +kernel
theorem d_Ps_open_6 : decode c_Ps_open 6 = .ok (.getfield 19, 3) := by decide +kernel
theorem d_Ps_open_9 : decode c_Ps_open 9 = .ok (.iload_n 1, 1) := by decide +kernel
theorem d_Ps_open_10 : decode c_Ps_open 10 = .ok (.invokevirtual 132, 3) := by decide +kernel
theorem d_Ps_open_13 : decode c_Ps_open 13 = .ok (.ifnull 7, 3) := by decide +kernel
theorem d_Ps_open_16 : decode c_Ps_open 16 = .ok (.iconst 1, 1) := by decide +kernel
theorem d_Ps_open_17 : decode c_Ps_open 17 = .ok (.goto 4, 3) := by decide +kernel
theorem d_Ps_open_20 : decode c_Ps_open 20 = .ok (.iconst 0, 1) := by decide +kernel
theorem d_Ps_open_21 : decode c_Ps_open 21 = .ok (.istore 4, 2) := by decide +kernel
theorem d_Ps_open_23 : decode c_Ps_open 23 = .ok (.iload 4, 2) := by decide +kernel
theorem d_Ps_open_25 : decode c_Ps_open 25 = .ok (.ifCond .eq 12, 3) := by decide +kernel
theorem d_Ps_open_28 : decode c_Ps_open 28 = .ok (.iload_n 2, 1) := by decide +kernel
theorem d_Ps_open_29 : decode c_Ps_open 29 = .ok (.ifCond .lt 8, 3) := by decide +kernel
theorem d_Ps_open_32 : decode c_Ps_open 32 = .ok (.iload_n 2, 1) := by decide +kernel
theorem d_Ps_open_33 : decode c_Ps_open 33 = .ok (.iconst 2, 1) := by decide +kernel
theorem d_Ps_open_34 : decode c_Ps_open 34 = .ok (.if_icmp .le 13, 3) := by decide +kernel
theorem d_Ps_open_37 : decode c_Ps_open 37 = .ok (.new 51, 3) := by decide +kernel
theorem d_Ps_open_40 : decode c_Ps_open 40 = .ok (.dup, 1) := by decide +kernel
theorem d_Ps_open_41 : decode c_Ps_open 41 = .ok (.ldc 138, 2) := by decide +kernel
theorem d_Ps_open_43 : decode c_Ps_open 43 = .ok (.invokespecial 55, 3) := by decide +kernel
theorem d_Ps_open_46 : decode c_Ps_open 46 = .ok (.athrow, 1) := by decide +kernel
theorem d_Ps_open_47 : decode c_Ps_open 47 = .ok (.aload_n 0, 1) := by decide +kernel
theorem d_Ps_open_48 : decode c_Ps_open 48 = .ok (.getfield 19, 3) := by decide +kernel
theorem d_Ps_open_51 : decode c_Ps_open 51 = .ok (.invokevirtual 140, 3) := by decide +kernel
theorem d_Ps_open_54 : decode c_Ps_open 54 = .ok (.ifCond .ne 13, 3) := by decide +kernel
theorem d_Ps_open_57 : decode c_Ps_open 57 = .ok (.aload_n 0, 1) := by decide +kernel
theorem d_Ps_open_58 : decode c_Ps_open 58 = .ok (.getfield 10, 3) := by decide +kernel
theorem d_Ps_open_61 : decode c_Ps_open 61 = .ok (.invokevirtual 23, 3) := by decide +kernel
theorem d_Ps_open_64 : decode c_Ps_open 64 = .ok (.ifCond .eq 13, 3) := by decide +kernel
theorem d_Ps_open_67 : decode c_Ps_open 67 = .ok (.new 27, 3) := by decide +kernel
theorem d_Ps_open_70 : decode c_Ps_open 70 = .ok (.dup, 1) := by decide +kernel
theorem d_Ps_open_71 : decode c_Ps_open 71 = .ok (.ldc 143, 2) := by decide +kernel
theorem d_Ps_open_73 : decode c_Ps_open 73 = .ok (.invokespecial 31, 3) := by decide +kernel
theorem d_Ps_open_76 : decode c_Ps_open 76 = .ok (.athrow, 1) := by decide +kernel
theorem d_Ps_open_77 : decode c_Ps_open 77 = .ok (.aload_n 0, 1) := by decide +kernel
theorem d_Ps_open_78 : decode c_Ps_open 78 = .ok (.getfield 19, 3) := by decide +kernel
theorem d_Ps_open_81 : decode c_Ps_open 81 = .ok (.aload_n 0, 1) := by decide +kernel
theorem d_Ps_open_82 : decode c_Ps_open 82 = .ok (.getfield 19, 3) := by decide +kernel
theorem d_Ps_open_85 : decode c_Ps_open 85 = .ok (.iload_n 1, 1) := by decide +kernel
theorem d_Ps_open_86 : decode c_Ps_open 86 = .ok (.invokevirtual 145, 3) := by decide +kernel
theorem d_Ps_open_89 : decode c_Ps_open 89 = .ok (.iload_n 2, 1) := by decide +kernel
theorem d_Ps_open_90 : decode c_Ps_open 90 = .ok (.iload_n 3, 1) := by decide +kernel
theorem d_Ps_open_91 : decode c_Ps_open 91 = .ok (.aload_n 0, 1) := by decide +kernel
theorem d_Ps_open_92 : decode c_Ps_open 92 = .ok (.getfield 10, 3) := by decide +kernel
theorem d_Ps_open_95 : decode c_Ps_open 95 = .ok (.invokevirtual 34, 3) := by decide +kernel
theorem d_Ps_open_98 : decode c_Ps_open 98 = .ok (.invokevirtual 147, 3) := by decide +kernel
theorem d_Ps_open_101 : decode c_Ps_open 101 = .ok (.ireturn, 1) := by decide +kernel
theorem d_Ps_fork_0 : decode c_Ps_fork 0 = .ok (.aload_n 0, 1) := by decide +kernel
theorem d_Ps_fork_1 : decode c_Ps_fork 1 = .ok (.getfield 19, 3) := by decide +kernel
theorem d_Ps_fork_4 : decode c_Ps_fork 4 = .ok (.iload_n 1, 1) := by decide +kernel
theorem d_Ps_fork_5 : decode c_Ps_fork 5 = .ok (.invokevirtual 132, 3) := by decide +kernel
theorem d_Ps_fork_8 : decode c_Ps_fork 8 = .ok (.astore 5, 2) := by decide +kernel
theorem d_Ps_fork_10 : decode c_Ps_fork 10 = .ok (.aload 5, 2) := by decide +kernel
theorem d_Ps_fork_12 : decode c_Ps_fork 12 = .ok (.ifnull 17, 3) := by decide +kernel
theorem d_Ps_fork_15 : decode c_Ps_fork 15 = .ok (.iload_n 2, 1) := by decide +kernel
theorem d_Ps_fork_16 : decode c_Ps_fork 16 = .ok (.invokestatic 158, 3) := by decide +kernel
theorem d_Ps_fork_19 : decode c_Ps_fork 19 = .ok (.ifCond .eq 10, 3) := by decide +kernel
theorem d_Ps_fork_22 : decode c_Ps_fork 22 = .ok (.iload_n 3, 1) := by decide +kernel
theorem d_Ps_fork_23 : decode c_Ps_fork 23 = .ok (.invokestatic 48, 3) := by decide +kernel
theorem d_Ps_fork_26 : decode c_Ps_fork 26 = .ok (.ifCond .ne 13, 3) := by decide +kernel
theorem d_Ps_fork_29 : decode c_Ps_fork 29 = .ok (.new 51, 3) := by decide +kernel
theorem d_Ps_fork_32 : decode c_Ps_fork 32 = .ok (.dup, 1) := by decide +kernel
theorem d_Ps_fork_33 : decode c_Ps_fork 33 = .ok (.ldc 163, 2) := by decide +kernel
theorem d_Ps_fork_35 : decode c_Ps_fork 35 = .ok (.invokespecial 55, 3) := by decide +kernel
theorem d_Ps_fork_38 : decode c_Ps_fork 38 = .ok (.athrow, 1) := by decide +kernel
theorem d_Ps_fork_39 : decode c_Ps_fork 39 = .ok (.aload_n 0, 1) := by decide +kernel
theorem d_Ps_fork_40 : decode c_Ps_fork 40 = .ok (.getfield 19, 3) := by decide +kernel
theorem d_Ps_fork_43 : decode c_Ps_fork 43 = .ok (.invokevirtual 165, 3) := by decide +kernel
theorem d_Ps_fork_46 : decode c_Ps_fork 46 = .ok (.ifCond .eq 13, 3) := by decide +kernel
theorem d_Ps_fork_49 : decode c_Ps_fork 49 = .ok (.new 27, 3) := by decide +kernel
theorem d_Ps_fork_52 : decode c_Ps_fork 52 = .ok (.dup, 1) := by decide +kernel
theorem d_Ps_fork_53 : decode c_Ps_fork 53 = .ok (.ldc 168, 2) := by decide +kernel
theorem d_Ps_fork_55 : decode c_Ps_fork 55 = .ok (.invokespecial 31, 3) := by decide +kernel
theorem d_Ps_fork_58 : decode c_Ps_fork 58 = .ok (.athrow, 1) := by decide +kernel
theorem d_Ps_fork_59 : decode c_Ps_fork 59 = .ok (.aload_n 0, 1) := by decide +kernel
theorem d_Ps_fork_60 : decode c_Ps_fork 60 = .ok (.getfield 19, 3) := by decide +kernel
theorem d_Ps_fork_63 : decode c_Ps_fork 63 = .ok (.aload 5, 2) := by decide +kernel
theorem d_Ps_fork_65 : decode c_Ps_fork 65 = .ok (.iload_n 2, 1) := by decide +kernel
theorem d_Ps_fork_66 : decode c_Ps_fork 66 = .ok (.iload_n 3, 1) := by decide +kernel
theorem d_Ps_fork_67 : decode c_Ps_fork 67 = .ok (.iload 4, 2) := by decide +kernel
theorem d_Ps_fork_69 : decode c_Ps_fork 69 = .ok (.invokevirtual 170, 3) := by decide +kernel
theorem d_Ps_fork_72 : decode c_Ps_fork 72 = .ok (.ireturn, 1) := by decide +kernel
theorem d_Ps_bound_0 : decode c_Ps_bound 0 = .ok (.aload_n 0, 1) := by decide +kernel
theorem d_Ps_bound_1 : decode c_Ps_bound 1 = .ok (.getfield 19, 3) := by decide +kernel
theorem d_Ps_bound_4 : decode c_Ps_bound 4 = .ok (.iload_n 1, 1) := by decide +kernel
theorem d_Ps_bound_5 : decode c_Ps_bound 5 = .ok (.invokevirtual 145, 3) := by decide +kernel
theorem d_Ps_bound_8 : decode c_Ps_bound 8 = .ok (.astore_n 3, 1) := by decide +kernel
theorem d_Ps_bound_9 : decode c_Ps_bound 9 = .ok (.aload_n 3, 1) := by decide +kernel
theorem d_Ps_bound_10 : decode c_Ps_bound 10 = .ok (.ifnull 10, 3) := by decide +kernel
theorem d_Ps_bound_13 : decode c_Ps_bound 13 = .ok (.iload_n 2, 1) := by decide +kernel
theorem d_Ps_bound_14 : decode c_Ps_bound 14 = .ok (.invokestatic 151, 3) := by decide +kernel
theorem d_Ps_bound_17 : decode c_Ps_bound 17 = .ok (.ifCond .ne 13, 3) := by decide +kernel
theorem d_Ps_bound_20 : decode c_Ps_bound 20 = .ok (.new 51, 3) := by decide +kernel
theorem d_Ps_bound_23 : decode c_Ps_bound 23 = .ok (.dup, 1) := by decide +kernel
theorem d_Ps_bound_24 : decode c_Ps_bound 24 = .ok (.ldc 208, 2) := by decide +kernel
theorem d_Ps_bound_26 : decode c_Ps_bound 26 = .ok (.invokespecial 55, 3) := by decide +kernel
theorem d_Ps_bound_29 : decode c_Ps_bound 29 = .ok (.athrow, 1) := by decide +kernel
theorem d_Ps_bound_30 : decode c_Ps_bound 30 = .ok (.aload_n 3, 1) := by decide +kernel
theorem d_Ps_bound_31 : decode c_Ps_bound 31 = .ok (.iload_n 2, 1) := by decide +kernel
theorem d_Ps_bound_32 : decode c_Ps_bound 32 = .ok (.invokevirtual 210, 3) := by decide +kernel
theorem d_Ps_bound_35 : decode c_Ps_bound 35 = .ok (.ireturn, 1) := by decide +kernel
end
section
/-! What the methods do, as functions on stores: Functions, Stage, StageQueue. -/
def fn_has (f : Int32) : Int32 := if f < 0 then 0 else if 5 < f then 0 else 1
def fn_thr (f a x : Int32) : Int32 := if f = 2 then (if x = a then 1 + (a &&& 7) else 0) else if f = 3 then 1 + (a &&& 7) else if f = 5 then (if a = 0 then 9 else 0) else 0
def fn_mk (f a x : Int32) : Int32 := if f = 0 then x + a else if f = 1 then x * a else if f = 4 then a else if f = 5 then (if a = 0 then 0 else x / a) else x
def st_become (σ : ps_S) (k : Nat) (u v : Int32) : ps_S := ps_sI (ps_sI σ 3 k 6 u) 3 k 7 v
def st_follow (σ : ps_S) (k j : Nat) : ps_S := st_become σ k (if ps_I σ 3 j 6 = 1 then 1 else 3) (ps_I σ 3 j 7)
def st_use (σ : ps_S) (k : Nat) (x : Int32) : ps_S := if fn_thr (ps_I σ 3 k 2) (ps_I σ 3 k 3) x = 0 then st_become σ k 1 (fn_mk (ps_I σ 3 k 2) (ps_I σ 3 k 3) x) else st_become σ k 3 (fn_thr (ps_I σ 3 k 2) (ps_I σ 3 k 3) x)
def st_apply (σ : ps_S) (k j : Nat) : ps_S := if ps_I σ 3 j 6 = 1 then st_use σ k (ps_I σ 3 j 7) else st_follow σ k j
def st_recover (σ : ps_S) (k j : Nat) : ps_S := if ps_I σ 3 j 6 = 1 then st_follow σ k j else st_use σ k (ps_I σ 3 j 7)
def st_handle (σ : ps_S) (k j : Nat) : ps_S := st_use σ k (if ps_I σ 3 j 6 = 1 then ps_I σ 3 j 7 else -1 - ps_I σ 3 j 7)
def st_watch (σ : ps_S) (k j : Nat) : ps_S := if ps_I σ 3 j 6 = 1 ∧ ¬ fn_thr (ps_I σ 3 k 2) (ps_I σ 3 k 3) (ps_I σ 3 j 7) = 0 then st_become σ k 3 (fn_thr (ps_I σ 3 k 2) (ps_I σ 3 k 3) (ps_I σ 3 j 7)) else st_follow σ k j
def st_combine (σ : ps_S) (k i j : Nat) : ps_S := if ps_I σ 3 i 6 = 1 then (if ps_I σ 3 j 6 = 1 then st_use σ k (ps_I σ 3 i 7 + ps_I σ 3 j 7) else st_follow σ k j) else st_follow σ k i
def st_pool (σ : ps_S) (k : Nat) : Int32 := if ps_I σ 3 k 4 = 0 then 0 else if ps_R σ 3 k 9 = none then 1 else 0
def q_app (σ : ps_S) (q r k f n : Nat) : ps_S := if n < 48 then ps_sI (ps_sR σ 4 r ((f + n) % 48) (some (3, k))) 2 q 2 (nI (n + 1)) else σ
def q_take (σ : ps_S) (q f n : Nat) : ps_S := if n = 0 then σ else ps_sI (ps_sI σ 2 q 1 (nI ((f + 1) % 48))) 2 q 2 (nI (n - 1))
/-- the place, from i on, of stage k in the ring r that begins at f: of the next m -/
def q_place (σ : ps_S) (r k f : Nat) : Nat → Nat → Int32
  | 0, _ => -1
  | m + 1, i => if ps_R σ 4 r ((f + i) % 48) = some (3, k) then nI i else q_place σ r k f m (i + 1)
theorem q_ix {f n : Nat} (h1 : f < 48) (h2 : n ≤ 48) : nI f + nI n - (nI f + nI n) / 48 * 48 = nI ((f + n) % 48) := by
  rw [nI_add]
  exact pk_rem (a := f + n) (d := 48) (by omega) (by decide) (by decide)
theorem q_in {σ : ps_S} {r m : Nat} (h : ps_L σ 4 r = 48) (hm : m < 48) : vp_in (nI m) (ps_L σ 4 r) := by
  rw [h]
  exact vp_in_nI hm (by decide)
theorem q_keep {σ : ps_S} {q : Nat} {x v : Int32} (h : ps_I σ 2 q 2 = v) : ps_I (ps_sI σ 2 q 1 x) 2 q 2 = v := by
  show ps_up (ps_I σ) 2 q 1 x 2 q 2 = v
  rw [ps_up_self]
  exact h
end
section
set_option maxHeartbeats 8000000 in
set_option maxRecDepth 100000 in
/-- Functions.has -/
theorem k_Fn_has (l : Launch) (D : va_G) (ca : Nat → ClassId) (A : Nat → Prop) (σ : ps_S) (f : Int32)  : ∀ adr, ps_M l y_Fn_has c_Fn_has 1 (Option.some Jvm.ClassFile.FieldType.boolean) { frames := 0, cells := 0, slots := 0, locals := 0 } D ca A adr σ [ps_int f] (fun rv σ' => rv = some (ps_int (fn_has f)) ∧ σ' = σ) := by
  intro adr
  refine ps_M.of (by decide +kernel) (Nat.le_of_ble_eq_true rfl) ?_
  intro p_ e_ s_ m_ args_ below_ meth_ c_ E hr hlk hnm
  refine pv_iload_n E d_Fn_has_0 rfl rfl ?_
  refine pv_if_lt (tgt := 13) E d_Fn_has_1 rfl (fun h1 => ?_) (fun h1 => ?_)
  · skip
    refine pv_iconst (v := 0) E d_Fn_has_13 (by decide) ?_
    exact pv_zret E hr hlk d_Fn_has_14 (by first | rfl | (apply ps_zb; assumption)) (by decide) (by decide) ⟨by simp [fn_has, h1], rfl⟩
  · skip
    refine pv_iload_n E d_Fn_has_4 rfl rfl ?_
    refine pv_iconst (v := 5) E d_Fn_has_5 (by decide) ?_
    refine pv_icmp_gt (tgt := 13) E d_Fn_has_6 rfl (fun h6 => ?_) (fun h6 => ?_)
    · skip
      refine pv_iconst (v := 0) E d_Fn_has_13 (by decide) ?_
      exact pv_zret E hr hlk d_Fn_has_14 (by first | rfl | (apply ps_zb; assumption)) (by decide) (by decide) ⟨by simp [fn_has, h1, h6], rfl⟩
    · skip
      refine pv_iconst (v := 1) E d_Fn_has_9 (by decide) ?_
      refine pv_goto (tgt := 14) E d_Fn_has_10 rfl ?_
      exact pv_zret E hr hlk d_Fn_has_14 (by first | rfl | (apply ps_zb; assumption)) (by decide) (by decide) ⟨by simp [fn_has, h1, h6], rfl⟩
set_option maxHeartbeats 8000000 in
set_option maxRecDepth 100000 in
theorem k_Fn_thrownFor (l : Launch) (D : va_G) (ca : Nat → ClassId) (A : Nat → Prop) (σ : ps_S) (f a x : Int32)  : ∀ adr, ps_M l y_Fn_thrownFor c_Fn_thrownFor 3 (Option.some Jvm.ClassFile.FieldType.int) { frames := 0, cells := 0, slots := 0, locals := 0 } D ca A adr σ [ps_int f, ps_int a, ps_int x] (fun rv σ' => rv = some (ps_int (fn_thr f a x)) ∧ σ' = σ) := by
  intro adr
  refine ps_M.of (by decide +kernel) (Nat.le_of_ble_eq_true rfl) ?_
  intro p_ e_ s_ m_ args_ below_ meth_ c_ E hr hlk hnm
  refine pv_iload_n E d_Fn_thrownFor_0 rfl rfl ?_
  by_cases h1_2 : f = 2
  · refine pv_tableAt (tgt := 32) E 2 h1_2 d_Fn_thrownFor_1 (by decide) (by decide) rfl rfl ?_
    refine pv_iload_n E d_Fn_thrownFor_32 rfl rfl ?_
    refine pv_iload_n E d_Fn_thrownFor_33 rfl rfl ?_
    refine pv_icmp_ne (tgt := 46) E d_Fn_thrownFor_34 rfl (fun h34 => ?_) (fun h34 => ?_)
    · skip
      refine pv_iconst (v := 0) E d_Fn_thrownFor_46 (by decide) ?_
      exact pv_iret E hr hlk d_Fn_thrownFor_47 (by decide) (by decide) ⟨by simp [fn_thr, h1_2, h34], rfl⟩
    · skip
      refine pv_iconst (v := 1) E d_Fn_thrownFor_37 (by decide) ?_
      refine pv_iload_n E d_Fn_thrownFor_38 rfl rfl ?_
      refine pv_bipush (v := 7) E d_Fn_thrownFor_39 (by decide) ?_
      refine pv_iand E d_Fn_thrownFor_41 ?_
      refine pv_iadd E d_Fn_thrownFor_42 ?_
      refine pv_goto (tgt := 47) E d_Fn_thrownFor_43 rfl ?_
      exact pv_iret E hr hlk d_Fn_thrownFor_47 (by decide) (by decide) ⟨by simp [fn_thr, h1_2, h34], rfl⟩
  by_cases h1_3 : f = 3
  · refine pv_tableAt (tgt := 48) E 3 h1_3 d_Fn_thrownFor_1 (by decide) (by decide) rfl rfl ?_
    refine pv_iconst (v := 1) E d_Fn_thrownFor_48 (by decide) ?_
    refine pv_iload_n E d_Fn_thrownFor_49 rfl rfl ?_
    refine pv_bipush (v := 7) E d_Fn_thrownFor_50 (by decide) ?_
    refine pv_iand E d_Fn_thrownFor_52 ?_
    refine pv_iadd E d_Fn_thrownFor_53 ?_
    exact pv_iret E hr hlk d_Fn_thrownFor_54 (by decide) (by decide) ⟨by simp [fn_thr, h1_2, h1_3], rfl⟩
  by_cases h1_4 : f = 4
  · refine pv_tableAt (tgt := 66) E 4 h1_4 d_Fn_thrownFor_1 (by decide) (by decide) rfl rfl ?_
    refine pv_iconst (v := 0) E d_Fn_thrownFor_66 (by decide) ?_
    exact pv_iret E hr hlk d_Fn_thrownFor_67 (by decide) (by decide) ⟨by simp [fn_thr, h1_2, h1_3, h1_4], rfl⟩
  by_cases h1_5 : f = 5
  · refine pv_tableAt (tgt := 55) E 5 h1_5 d_Fn_thrownFor_1 (by decide) (by decide) rfl rfl ?_
    refine pv_iload_n E d_Fn_thrownFor_55 rfl rfl ?_
    refine pv_if_ne (tgt := 64) E d_Fn_thrownFor_56 rfl (fun h56 => ?_) (fun h56 => ?_)
    · skip
      refine pv_iconst (v := 0) E d_Fn_thrownFor_64 (by decide) ?_
      exact pv_iret E hr hlk d_Fn_thrownFor_65 (by decide) (by decide) ⟨by simp [fn_thr, h1_2, h1_3, h1_4, h1_5, h56], rfl⟩
    · skip
      refine pv_bipush (v := 9) E d_Fn_thrownFor_59 (by decide) ?_
      refine pv_goto (tgt := 65) E d_Fn_thrownFor_61 rfl ?_
      exact pv_iret E hr hlk d_Fn_thrownFor_65 (by decide) (by decide) ⟨by simp [fn_thr, h1_2, h1_3, h1_4, h1_5, h56], rfl⟩
  refine pv_tableOut (tgt := 66) E d_Fn_thrownFor_1 (by have e2 := lv_neT h1_2 (show Int32.toInt 2 = 2 by decide); have e3 := lv_neT h1_3 (show Int32.toInt 3 = 3 by decide); have e4 := lv_neT h1_4 (show Int32.toInt 4 = 4 by decide); have e5 := lv_neT h1_5 (show Int32.toInt 5 = 5 by decide); omega) rfl ?_
  refine pv_iconst (v := 0) E d_Fn_thrownFor_66 (by decide) ?_
  exact pv_iret E hr hlk d_Fn_thrownFor_67 (by decide) (by decide) ⟨by simp [fn_thr, h1_2, h1_3, h1_4, h1_5], rfl⟩
set_option maxHeartbeats 8000000 in
set_option maxRecDepth 100000 in
theorem k_Fn_madeOf (l : Launch) (D : va_G) (ca : Nat → ClassId) (A : Nat → Prop) (σ : ps_S) (f a x : Int32)  : ∀ adr, ps_M l y_Fn_madeOf c_Fn_madeOf 3 (Option.some Jvm.ClassFile.FieldType.int) { frames := 0, cells := 0, slots := 0, locals := 0 } D ca A adr σ [ps_int f, ps_int a, ps_int x] (fun rv σ' => rv = some (ps_int (fn_mk f a x)) ∧ σ' = σ) := by
  intro adr
  refine ps_M.of (by decide +kernel) (Nat.le_of_ble_eq_true rfl) ?_
  intro p_ e_ s_ m_ args_ below_ meth_ c_ E hr hlk hnm
  refine pv_iload_n E d_Fn_madeOf_0 rfl rfl ?_
  by_cases h1_0 : f = 0
  · refine pv_tableAt (tgt := 40) E 0 h1_0 d_Fn_madeOf_1 (by decide) (by decide) rfl rfl ?_
    refine pv_iload_n E d_Fn_madeOf_40 rfl rfl ?_
    refine pv_iload_n E d_Fn_madeOf_41 rfl rfl ?_
    refine pv_iadd E d_Fn_madeOf_42 ?_
    exact pv_iret E hr hlk d_Fn_madeOf_43 (by decide) (by decide) ⟨by simp [fn_mk, h1_0], rfl⟩
  by_cases h1_1 : f = 1
  · refine pv_tableAt (tgt := 44) E 1 h1_1 d_Fn_madeOf_1 (by decide) (by decide) rfl rfl ?_
    refine pv_iload_n E d_Fn_madeOf_44 rfl rfl ?_
    refine pv_iload_n E d_Fn_madeOf_45 rfl rfl ?_
    refine pv_imul E d_Fn_madeOf_46 ?_
    exact pv_iret E hr hlk d_Fn_madeOf_47 (by decide) (by decide) ⟨by simp [fn_mk, h1_0, h1_1], rfl⟩
  by_cases h1_2 : f = 2
  · refine pv_tableAt (tgt := 62) E 2 h1_2 d_Fn_madeOf_1 (by decide) (by decide) rfl rfl ?_
    refine pv_iload_n E d_Fn_madeOf_62 rfl rfl ?_
    exact pv_iret E hr hlk d_Fn_madeOf_63 (by decide) (by decide) ⟨by simp [fn_mk, h1_0, h1_1, h1_2], rfl⟩
  by_cases h1_3 : f = 3
  · refine pv_tableAt (tgt := 62) E 3 h1_3 d_Fn_madeOf_1 (by decide) (by decide) rfl rfl ?_
    refine pv_iload_n E d_Fn_madeOf_62 rfl rfl ?_
    exact pv_iret E hr hlk d_Fn_madeOf_63 (by decide) (by decide) ⟨by simp [fn_mk, h1_0, h1_1, h1_2, h1_3], rfl⟩
  by_cases h1_4 : f = 4
  · refine pv_tableAt (tgt := 48) E 4 h1_4 d_Fn_madeOf_1 (by decide) (by decide) rfl rfl ?_
    refine pv_iload_n E d_Fn_madeOf_48 rfl rfl ?_
    exact pv_iret E hr hlk d_Fn_madeOf_49 (by decide) (by decide) ⟨by simp [fn_mk, h1_0, h1_1, h1_2, h1_3, h1_4], rfl⟩
  by_cases h1_5 : f = 5
  · refine pv_tableAt (tgt := 50) E 5 h1_5 d_Fn_madeOf_1 (by decide) (by decide) rfl rfl ?_
    refine pv_iload_n E d_Fn_madeOf_50 rfl rfl ?_
    refine pv_if_ne (tgt := 58) E d_Fn_madeOf_51 rfl (fun h51 => ?_) (fun h51 => ?_)
    · skip
      refine pv_iload_n E d_Fn_madeOf_58 rfl rfl ?_
      refine pv_iload_n E d_Fn_madeOf_59 rfl rfl ?_
      refine pv_idiv E d_Fn_madeOf_60 (h51) ?_
      exact pv_iret E hr hlk d_Fn_madeOf_61 (by decide) (by decide) ⟨by simp [fn_mk, h1_0, h1_1, h1_2, h1_3, h1_4, h1_5, h51], rfl⟩
    · skip
      refine pv_iconst (v := 0) E d_Fn_madeOf_54 (by decide) ?_
      refine pv_goto (tgt := 61) E d_Fn_madeOf_55 rfl ?_
      exact pv_iret E hr hlk d_Fn_madeOf_61 (by decide) (by decide) ⟨by simp [fn_mk, h1_0, h1_1, h1_2, h1_3, h1_4, h1_5, h51], rfl⟩
  refine pv_tableOut (tgt := 62) E d_Fn_madeOf_1 (by have e0 := lv_neT h1_0 (show Int32.toInt 0 = 0 by decide); have e1 := lv_neT h1_1 (show Int32.toInt 1 = 1 by decide); have e2 := lv_neT h1_2 (show Int32.toInt 2 = 2 by decide); have e3 := lv_neT h1_3 (show Int32.toInt 3 = 3 by decide); have e4 := lv_neT h1_4 (show Int32.toInt 4 = 4 by decide); have e5 := lv_neT h1_5 (show Int32.toInt 5 = 5 by decide); omega) rfl ?_
  refine pv_iload_n E d_Fn_madeOf_62 rfl rfl ?_
  exact pv_iret E hr hlk d_Fn_madeOf_63 (by decide) (by decide) ⟨by simp [fn_mk, h1_0, h1_1, h1_2, h1_3, h1_4, h1_5], rfl⟩
set_option maxHeartbeats 8000000 in
set_option maxRecDepth 100000 in
theorem k_Stage_become (l : Launch) (D : va_G) (ca : Nat → ClassId) (A : Nat → Prop) (σ : ps_S) (k : Nat) (u v : Int32)  : ∀ adr, ps_M l y_Stage_become c_Stage_become 3 (Option.none : Option Jvm.ClassFile.FieldType) { frames := 0, cells := 0, slots := 0, locals := 0 } D ca A adr σ [ps_ref (some (3, k)), ps_int u, ps_int v] (fun rv σ' => rv = none ∧ σ' = st_become σ k u v) := by
  intro adr
  refine ps_M.of (by decide +kernel) (Nat.le_of_ble_eq_true rfl) ?_
  intro p_ e_ s_ m_ args_ below_ meth_ c_ E hr hlk hnm
  refine pv_aload_n E d_Stage_become_0 rfl rfl ?_
  refine pv_iload_n E d_Stage_become_1 rfl rfl ?_
  refine pf_Stage_state E wd_484 d_Stage_become_2 ?_
  refine pv_aload_n E d_Stage_become_5 rfl rfl ?_
  refine pv_iload_n E d_Stage_become_6 rfl rfl ?_
  refine pf_Stage_content E wd_488 d_Stage_become_7 ?_
  exact pv_vret E hr hlk d_Stage_become_10 (by decide) (by decide) ⟨rfl, rfl⟩
set_option maxHeartbeats 8000000 in
set_option maxRecDepth 100000 in
theorem k_Stage_goesToPool (l : Launch) (D : va_G) (ca : Nat → ClassId) (A : Nat → Prop) (σ : ps_S) (k : Nat)  : ∀ adr, ps_M l y_Stage_goesToPool c_Stage_goesToPool 1 (Option.some Jvm.ClassFile.FieldType.boolean) { frames := 0, cells := 0, slots := 0, locals := 0 } D ca A adr σ [ps_ref (some (3, k))] (fun rv σ' => rv = some (ps_int (st_pool σ k)) ∧ σ' = σ) := by
  intro adr
  refine ps_M.of (by decide +kernel) (Nat.le_of_ble_eq_true rfl) ?_
  intro p_ e_ s_ m_ args_ below_ meth_ c_ E hr hlk hnm
  refine pv_aload_n E d_Stage_goesToPool_0 rfl rfl ?_
  refine gf_Stage_async E wd_481 d_Stage_goesToPool_1 ?_
  refine pv_if_eq (tgt := 18) E d_Stage_goesToPool_4 rfl (fun h4 => ?_) (fun h4 => ?_)
  · skip
    refine pv_iconst (v := 0) E d_Stage_goesToPool_18 (by decide) ?_
    exact pv_zret E hr hlk d_Stage_goesToPool_19 (by first | rfl | (apply ps_zb; assumption)) (by decide) (by decide) ⟨by simp [st_pool, h4], rfl⟩
  · skip
    refine pv_aload_n E d_Stage_goesToPool_7 rfl rfl ?_
    refine gf_Stage_awaited E wd_493 d_Stage_goesToPool_8 ?_
    refine pv_ifnonnull (tgt := 18) E d_Stage_goesToPool_11 rfl (fun q11 h11 => ?_) (fun h11 => ?_)
    · skip
      refine pv_iconst (v := 0) E d_Stage_goesToPool_18 (by decide) ?_
      exact pv_zret E hr hlk d_Stage_goesToPool_19 (by first | rfl | (apply ps_zb; assumption)) (by decide) (by decide) ⟨by simp [st_pool, h4, h11], rfl⟩
    · skip
      refine pv_iconst (v := 1) E d_Stage_goesToPool_14 (by decide) ?_
      refine pv_goto (tgt := 19) E d_Stage_goesToPool_15 rfl ?_
      exact pv_zret E hr hlk d_Stage_goesToPool_19 (by first | rfl | (apply ps_zb; assumption)) (by decide) (by decide) ⟨by simp [st_pool, h4, h11], rfl⟩
set_option maxHeartbeats 8000000 in
set_option maxRecDepth 100000 in
theorem k_Stage_follow (l : Launch) (D : va_G) (ca : Nat → ClassId) (A : Nat → Prop) (σ : ps_S) (k j : Nat)  : ∀ adr, ps_M l y_Stage_follow c_Stage_follow 2 (Option.none : Option Jvm.ClassFile.FieldType) { frames := 1, cells := 0, slots := 0, locals := 22 } D ca A adr σ [ps_ref (some (3, k)), ps_ref (some (3, j))] (fun rv σ' => rv = none ∧ σ' = st_follow σ k j) := by
  intro adr
  refine ps_M.of (by decide +kernel) (Nat.le_of_ble_eq_true rfl) ?_
  intro p_ e_ s_ m_ args_ below_ meth_ c_ E hr hlk hnm
  refine pv_aload_n E d_Stage_follow_0 rfl rfl ?_
  refine pv_aload_n E d_Stage_follow_1 rfl rfl ?_
  refine gf_Stage_state E wd_484 d_Stage_follow_2 ?_
  refine pv_iconst (v := 1) E d_Stage_follow_5 (by decide) ?_
  refine pv_icmp_ne (tgt := 13) E d_Stage_follow_6 rfl (fun h6 => ?_) (fun h6 => ?_)
  · skip
    refine pv_iconst (v := 3) E d_Stage_follow_13 (by decide) ?_
    refine pv_aload_n E d_Stage_follow_14 rfl rfl ?_
    refine gf_Stage_content E wd_488 d_Stage_follow_15 ?_
    refine pv_callV E (fun adr => k_Stage_become l D ca A _ _ _ _ adr) yv_Stage_become wd_178 rfl rfl (fun _ => ⟨_, rfl⟩) rfl ⟨by decide, by decide⟩ (Nat.le_of_ble_eq_true rfl) d_Stage_follow_18 ⟨by decide, by decide⟩ (fun r18 σ18 hq18 => ?_)
    obtain ⟨rfl, rfl⟩ := hq18
    exact pv_vret E hr hlk d_Stage_follow_21 (by decide) (by decide) ⟨rfl, by simp [st_follow, h6]⟩
  · skip
    refine pv_iconst (v := 1) E d_Stage_follow_9 (by decide) ?_
    refine pv_goto (tgt := 14) E d_Stage_follow_10 rfl ?_
    refine pv_aload_n E d_Stage_follow_14 rfl rfl ?_
    refine gf_Stage_content E wd_488 d_Stage_follow_15 ?_
    refine pv_callV E (fun adr => k_Stage_become l D ca A _ _ _ _ adr) yv_Stage_become wd_178 rfl rfl (fun _ => ⟨_, rfl⟩) rfl ⟨by decide, by decide⟩ (Nat.le_of_ble_eq_true rfl) d_Stage_follow_18 ⟨by decide, by decide⟩ (fun r18 σ18 hq18 => ?_)
    obtain ⟨rfl, rfl⟩ := hq18
    exact pv_vret E hr hlk d_Stage_follow_21 (by decide) (by decide) ⟨rfl, by simp [st_follow, h6]⟩
set_option maxHeartbeats 8000000 in
set_option maxRecDepth 100000 in
theorem k_Stage_useFunction (l : Launch) (D : va_G) (ca : Nat → ClassId) (A : Nat → Prop) (σ : ps_S) (k : Nat) (x : Int32)  : ∀ adr, ps_M l y_Stage_useFunction c_Stage_useFunction 3 (Option.none : Option Jvm.ClassFile.FieldType) { frames := 1, cells := 0, slots := 0, locals := 22 } D ca A adr σ [ps_ref (some (3, k)), ps_int x] (fun rv σ' => rv = none ∧ σ' = st_use σ k x) := by
  intro adr
  refine ps_M.of (by decide +kernel) (Nat.le_of_ble_eq_true rfl) ?_
  intro p_ e_ s_ m_ args_ below_ meth_ c_ E hr hlk hnm
  refine pv_aload_n E d_Stage_useFunction_0 rfl rfl ?_
  refine gf_Stage_function E wd_477 d_Stage_useFunction_1 ?_
  refine pv_aload_n E d_Stage_useFunction_4 rfl rfl ?_
  refine gf_Stage_a E wd_479 d_Stage_useFunction_5 ?_
  refine pv_iload_n E d_Stage_useFunction_8 rfl rfl ?_
  refine pv_callS E (fun adr => k_Fn_thrownFor l D ca A _ _ _ _ adr) ys_Fn_thrownFor wd_175 rfl rfl ⟨by decide, by decide⟩ (Nat.le_of_ble_eq_true rfl) d_Stage_useFunction_9 ⟨by decide, by decide⟩ (fun r9 σ9 hq9 => ?_)
  obtain ⟨rfl, rfl⟩ := hq9
  refine pv_istore_n E d_Stage_useFunction_12 rfl (by decide) ?_
  refine pv_iload_n E d_Stage_useFunction_13 rfl rfl ?_
  refine pv_if_eq (tgt := 26) E d_Stage_useFunction_14 rfl (fun h14 => ?_) (fun h14 => ?_)
  · skip
    refine pv_aload_n E d_Stage_useFunction_26 rfl rfl ?_
    refine pv_iconst (v := 1) E d_Stage_useFunction_27 (by decide) ?_
    refine pv_aload_n E d_Stage_useFunction_28 rfl rfl ?_
    refine gf_Stage_function E wd_477 d_Stage_useFunction_29 ?_
    refine pv_aload_n E d_Stage_useFunction_32 rfl rfl ?_
    refine gf_Stage_a E wd_479 d_Stage_useFunction_33 ?_
    refine pv_iload_n E d_Stage_useFunction_36 rfl rfl ?_
    refine pv_callS E (fun adr => k_Fn_madeOf l D ca A _ _ _ _ adr) ys_Fn_madeOf wd_179 rfl rfl ⟨by decide, by decide⟩ (Nat.le_of_ble_eq_true rfl) d_Stage_useFunction_37 ⟨by decide, by decide⟩ (fun r37 σ37 hq37 => ?_)
    obtain ⟨rfl, rfl⟩ := hq37
    refine pv_callV E (fun adr => k_Stage_become l D ca A _ _ _ _ adr) yv_Stage_become wd_178 rfl rfl (fun _ => ⟨_, rfl⟩) rfl ⟨by decide, by decide⟩ (Nat.le_of_ble_eq_true rfl) d_Stage_useFunction_40 ⟨by decide, by decide⟩ (fun r40 σ40 hq40 => ?_)
    obtain ⟨rfl, rfl⟩ := hq40
    exact pv_vret E hr hlk d_Stage_useFunction_43 (by decide) (by decide) ⟨rfl, by simp [st_use, h14]⟩
  · skip
    refine pv_aload_n E d_Stage_useFunction_17 rfl rfl ?_
    refine pv_iconst (v := 3) E d_Stage_useFunction_18 (by decide) ?_
    refine pv_iload_n E d_Stage_useFunction_19 rfl rfl ?_
    refine pv_callV E (fun adr => k_Stage_become l D ca A _ _ _ _ adr) yv_Stage_become wd_178 rfl rfl (fun _ => ⟨_, rfl⟩) rfl ⟨by decide, by decide⟩ (Nat.le_of_ble_eq_true rfl) d_Stage_useFunction_20 ⟨by decide, by decide⟩ (fun r20 σ20 hq20 => ?_)
    obtain ⟨rfl, rfl⟩ := hq20
    refine pv_goto (tgt := 43) E d_Stage_useFunction_23 rfl ?_
    exact pv_vret E hr hlk d_Stage_useFunction_43 (by decide) (by decide) ⟨rfl, by simp [st_use, h14]⟩
set_option maxHeartbeats 8000000 in
set_option maxRecDepth 100000 in
theorem k_Stage_applyTo (l : Launch) (D : va_G) (ca : Nat → ClassId) (A : Nat → Prop) (σ : ps_S) (k j : Nat)  : ∀ adr, ps_M l y_Stage_applyTo c_Stage_applyTo 2 (Option.none : Option Jvm.ClassFile.FieldType) { frames := 2, cells := 0, slots := 0, locals := 44 } D ca A adr σ [ps_ref (some (3, k)), ps_ref (some (3, j))] (fun rv σ' => rv = none ∧ σ' = st_apply σ k j) := by
  intro adr
  refine ps_M.of (by decide +kernel) (Nat.le_of_ble_eq_true rfl) ?_
  intro p_ e_ s_ m_ args_ below_ meth_ c_ E hr hlk hnm
  refine pv_aload_n E d_Stage_applyTo_0 rfl rfl ?_
  refine gf_Stage_state E wd_484 d_Stage_applyTo_1 ?_
  refine pv_iconst (v := 1) E d_Stage_applyTo_4 (by decide) ?_
  refine pv_icmp_ne (tgt := 19) E d_Stage_applyTo_5 rfl (fun h5 => ?_) (fun h5 => ?_)
  · skip
    refine pv_aload_n E d_Stage_applyTo_19 rfl rfl ?_
    refine pv_aload_n E d_Stage_applyTo_20 rfl rfl ?_
    refine pv_callV E (fun adr => k_Stage_follow l D ca A _ _ _ adr) yv_Stage_follow wd_182 rfl rfl (fun _ => ⟨_, rfl⟩) rfl ⟨by decide, by decide⟩ (Nat.le_of_ble_eq_true rfl) d_Stage_applyTo_21 ⟨by decide, by decide⟩ (fun r21 σ21 hq21 => ?_)
    obtain ⟨rfl, rfl⟩ := hq21
    exact pv_vret E hr hlk d_Stage_applyTo_24 (by decide) (by decide) ⟨rfl, by simp [st_apply, h5]⟩
  · skip
    refine pv_aload_n E d_Stage_applyTo_8 rfl rfl ?_
    refine pv_aload_n E d_Stage_applyTo_9 rfl rfl ?_
    refine gf_Stage_content E wd_488 d_Stage_applyTo_10 ?_
    refine pv_callV E (fun adr => k_Stage_useFunction l D ca A _ _ _ adr) yv_Stage_useFunction wd_171 rfl rfl (fun _ => ⟨_, rfl⟩) rfl ⟨by decide, by decide⟩ (Nat.le_of_ble_eq_true rfl) d_Stage_applyTo_13 ⟨by decide, by decide⟩ (fun r13 σ13 hq13 => ?_)
    obtain ⟨rfl, rfl⟩ := hq13
    refine pv_goto (tgt := 24) E d_Stage_applyTo_16 rfl ?_
    exact pv_vret E hr hlk d_Stage_applyTo_24 (by decide) (by decide) ⟨rfl, by simp [st_apply, h5]⟩
set_option maxHeartbeats 8000000 in
set_option maxRecDepth 100000 in
theorem k_Stage_recoverFrom (l : Launch) (D : va_G) (ca : Nat → ClassId) (A : Nat → Prop) (σ : ps_S) (k j : Nat)  : ∀ adr, ps_M l y_Stage_recoverFrom c_Stage_recoverFrom 2 (Option.none : Option Jvm.ClassFile.FieldType) { frames := 2, cells := 0, slots := 0, locals := 44 } D ca A adr σ [ps_ref (some (3, k)), ps_ref (some (3, j))] (fun rv σ' => rv = none ∧ σ' = st_recover σ k j) := by
  intro adr
  refine ps_M.of (by decide +kernel) (Nat.le_of_ble_eq_true rfl) ?_
  intro p_ e_ s_ m_ args_ below_ meth_ c_ E hr hlk hnm
  refine pv_aload_n E d_Stage_recoverFrom_0 rfl rfl ?_
  refine gf_Stage_state E wd_484 d_Stage_recoverFrom_1 ?_
  refine pv_iconst (v := 1) E d_Stage_recoverFrom_4 (by decide) ?_
  refine pv_icmp_ne (tgt := 16) E d_Stage_recoverFrom_5 rfl (fun h5 => ?_) (fun h5 => ?_)
  · skip
    refine pv_aload_n E d_Stage_recoverFrom_16 rfl rfl ?_
    refine pv_aload_n E d_Stage_recoverFrom_17 rfl rfl ?_
    refine gf_Stage_content E wd_488 d_Stage_recoverFrom_18 ?_
    refine pv_callV E (fun adr => k_Stage_useFunction l D ca A _ _ _ adr) yv_Stage_useFunction wd_171 rfl rfl (fun _ => ⟨_, rfl⟩) rfl ⟨by decide, by decide⟩ (Nat.le_of_ble_eq_true rfl) d_Stage_recoverFrom_21 ⟨by decide, by decide⟩ (fun r21 σ21 hq21 => ?_)
    obtain ⟨rfl, rfl⟩ := hq21
    exact pv_vret E hr hlk d_Stage_recoverFrom_24 (by decide) (by decide) ⟨rfl, by simp [st_recover, h5]⟩
  · skip
    refine pv_aload_n E d_Stage_recoverFrom_8 rfl rfl ?_
    refine pv_aload_n E d_Stage_recoverFrom_9 rfl rfl ?_
    refine pv_callV E (fun adr => k_Stage_follow l D ca A _ _ _ adr) yv_Stage_follow wd_182 rfl rfl (fun _ => ⟨_, rfl⟩) rfl ⟨by decide, by decide⟩ (Nat.le_of_ble_eq_true rfl) d_Stage_recoverFrom_10 ⟨by decide, by decide⟩ (fun r10 σ10 hq10 => ?_)
    obtain ⟨rfl, rfl⟩ := hq10
    refine pv_goto (tgt := 24) E d_Stage_recoverFrom_13 rfl ?_
    exact pv_vret E hr hlk d_Stage_recoverFrom_24 (by decide) (by decide) ⟨rfl, by simp [st_recover, h5]⟩
set_option maxHeartbeats 8000000 in
set_option maxRecDepth 100000 in
theorem k_Stage_handle (l : Launch) (D : va_G) (ca : Nat → ClassId) (A : Nat → Prop) (σ : ps_S) (k j : Nat)  : ∀ adr, ps_M l y_Stage_handle c_Stage_handle 2 (Option.none : Option Jvm.ClassFile.FieldType) { frames := 2, cells := 0, slots := 0, locals := 44 } D ca A adr σ [ps_ref (some (3, k)), ps_ref (some (3, j))] (fun rv σ' => rv = none ∧ σ' = st_handle σ k j) := by
  intro adr
  refine ps_M.of (by decide +kernel) (Nat.le_of_ble_eq_true rfl) ?_
  intro p_ e_ s_ m_ args_ below_ meth_ c_ E hr hlk hnm
  refine pv_aload_n E d_Stage_handle_0 rfl rfl ?_
  refine pv_aload_n E d_Stage_handle_1 rfl rfl ?_
  refine gf_Stage_state E wd_484 d_Stage_handle_2 ?_
  refine pv_iconst (v := 1) E d_Stage_handle_5 (by decide) ?_
  refine pv_icmp_ne (tgt := 16) E d_Stage_handle_6 rfl (fun h6 => ?_) (fun h6 => ?_)
  · skip
    refine pv_iconst (v := -1) E d_Stage_handle_16 (by decide) ?_
    refine pv_aload_n E d_Stage_handle_17 rfl rfl ?_
    refine gf_Stage_content E wd_488 d_Stage_handle_18 ?_
    refine pv_isub E d_Stage_handle_21 ?_
    refine pv_callV E (fun adr => k_Stage_useFunction l D ca A _ _ _ adr) yv_Stage_useFunction wd_171 rfl rfl (fun _ => ⟨_, rfl⟩) rfl ⟨by decide, by decide⟩ (Nat.le_of_ble_eq_true rfl) d_Stage_handle_22 ⟨by decide, by decide⟩ (fun r22 σ22 hq22 => ?_)
    obtain ⟨rfl, rfl⟩ := hq22
    exact pv_vret E hr hlk d_Stage_handle_25 (by decide) (by decide) ⟨rfl, by simp [st_handle, h6]⟩
  · skip
    refine pv_aload_n E d_Stage_handle_9 rfl rfl ?_
    refine gf_Stage_content E wd_488 d_Stage_handle_10 ?_
    refine pv_goto (tgt := 22) E d_Stage_handle_13 rfl ?_
    refine pv_callV E (fun adr => k_Stage_useFunction l D ca A _ _ _ adr) yv_Stage_useFunction wd_171 rfl rfl (fun _ => ⟨_, rfl⟩) rfl ⟨by decide, by decide⟩ (Nat.le_of_ble_eq_true rfl) d_Stage_handle_22 ⟨by decide, by decide⟩ (fun r22 σ22 hq22 => ?_)
    obtain ⟨rfl, rfl⟩ := hq22
    exact pv_vret E hr hlk d_Stage_handle_25 (by decide) (by decide) ⟨rfl, by simp [st_handle, h6]⟩
set_option maxHeartbeats 8000000 in
set_option maxRecDepth 100000 in
theorem k_Stage_watch (l : Launch) (D : va_G) (ca : Nat → ClassId) (A : Nat → Prop) (σ : ps_S) (k j : Nat)  : ∀ adr, ps_M l y_Stage_watch c_Stage_watch 3 (Option.none : Option Jvm.ClassFile.FieldType) { frames := 2, cells := 0, slots := 0, locals := 43 } D ca A adr σ [ps_ref (some (3, k)), ps_ref (some (3, j))] (fun rv σ' => rv = none ∧ σ' = st_watch σ k j) := by
  intro adr
  refine ps_M.of (by decide +kernel) (Nat.le_of_ble_eq_true rfl) ?_
  intro p_ e_ s_ m_ args_ below_ meth_ c_ E hr hlk hnm
  refine pv_aload_n E d_Stage_watch_0 rfl rfl ?_
  refine gf_Stage_function E wd_477 d_Stage_watch_1 ?_
  refine pv_aload_n E d_Stage_watch_4 rfl rfl ?_
  refine gf_Stage_a E wd_479 d_Stage_watch_5 ?_
  refine pv_aload_n E d_Stage_watch_8 rfl rfl ?_
  refine gf_Stage_content E wd_488 d_Stage_watch_9 ?_
  refine pv_callS E (fun adr => k_Fn_thrownFor l D ca A _ _ _ _ adr) ys_Fn_thrownFor wd_175 rfl rfl ⟨by decide, by decide⟩ (Nat.le_of_ble_eq_true rfl) d_Stage_watch_12 ⟨by decide, by decide⟩ (fun r12 σ12 hq12 => ?_)
  obtain ⟨rfl, rfl⟩ := hq12
  refine pv_istore_n E d_Stage_watch_15 rfl (by decide) ?_
  refine pv_aload_n E d_Stage_watch_16 rfl rfl ?_
  refine gf_Stage_state E wd_484 d_Stage_watch_17 ?_
  refine pv_iconst (v := 1) E d_Stage_watch_20 (by decide) ?_
  refine pv_icmp_ne (tgt := 37) E d_Stage_watch_21 rfl (fun h21 => ?_) (fun h21 => ?_)
  · skip
    refine pv_aload_n E d_Stage_watch_37 rfl rfl ?_
    refine pv_aload_n E d_Stage_watch_38 rfl rfl ?_
    refine pv_callV E (fun adr => k_Stage_follow l D ca A _ _ _ adr) yv_Stage_follow wd_182 rfl rfl (fun _ => ⟨_, rfl⟩) rfl ⟨by decide, by decide⟩ (Nat.le_of_ble_eq_true rfl) d_Stage_watch_39 ⟨by decide, by decide⟩ (fun r39 σ39 hq39 => ?_)
    obtain ⟨rfl, rfl⟩ := hq39
    exact pv_vret E hr hlk d_Stage_watch_42 (by decide) (by decide) ⟨rfl, by simp [st_watch, h21]⟩
  · skip
    refine pv_iload_n E d_Stage_watch_24 rfl rfl ?_
    refine pv_if_eq (tgt := 37) E d_Stage_watch_25 rfl (fun h25 => ?_) (fun h25 => ?_)
    · skip
      refine pv_aload_n E d_Stage_watch_37 rfl rfl ?_
      refine pv_aload_n E d_Stage_watch_38 rfl rfl ?_
      refine pv_callV E (fun adr => k_Stage_follow l D ca A _ _ _ adr) yv_Stage_follow wd_182 rfl rfl (fun _ => ⟨_, rfl⟩) rfl ⟨by decide, by decide⟩ (Nat.le_of_ble_eq_true rfl) d_Stage_watch_39 ⟨by decide, by decide⟩ (fun r39 σ39 hq39 => ?_)
      obtain ⟨rfl, rfl⟩ := hq39
      exact pv_vret E hr hlk d_Stage_watch_42 (by decide) (by decide) ⟨rfl, by simp [st_watch, h21, h25]⟩
    · skip
      refine pv_aload_n E d_Stage_watch_28 rfl rfl ?_
      refine pv_iconst (v := 3) E d_Stage_watch_29 (by decide) ?_
      refine pv_iload_n E d_Stage_watch_30 rfl rfl ?_
      refine pv_callV E (fun adr => k_Stage_become l D ca A _ _ _ _ adr) yv_Stage_become wd_178 rfl rfl (fun _ => ⟨_, rfl⟩) rfl ⟨by decide, by decide⟩ (Nat.le_of_ble_eq_true rfl) d_Stage_watch_31 ⟨by decide, by decide⟩ (fun r31 σ31 hq31 => ?_)
      obtain ⟨rfl, rfl⟩ := hq31
      refine pv_goto (tgt := 42) E d_Stage_watch_34 rfl ?_
      exact pv_vret E hr hlk d_Stage_watch_42 (by decide) (by decide) ⟨rfl, by simp [st_watch, h21, h25]⟩
set_option maxHeartbeats 8000000 in
set_option maxRecDepth 100000 in
theorem k_Stage_combine (l : Launch) (D : va_G) (ca : Nat → ClassId) (A : Nat → Prop) (σ : ps_S) (k i j : Nat)  : ∀ adr, ps_M l y_Stage_combine c_Stage_combine 3 (Option.none : Option Jvm.ClassFile.FieldType) { frames := 2, cells := 0, slots := 0, locals := 44 } D ca A adr σ [ps_ref (some (3, k)), ps_ref (some (3, i)), ps_ref (some (3, j))] (fun rv σ' => rv = none ∧ σ' = st_combine σ k i j) := by
  intro adr
  refine ps_M.of (by decide +kernel) (Nat.le_of_ble_eq_true rfl) ?_
  intro p_ e_ s_ m_ args_ below_ meth_ c_ E hr hlk hnm
  refine pv_aload_n E d_Stage_combine_0 rfl rfl ?_
  refine gf_Stage_state E wd_484 d_Stage_combine_1 ?_
  refine pv_iconst (v := 1) E d_Stage_combine_4 (by decide) ?_
  refine pv_icmp_eq (tgt := 16) E d_Stage_combine_5 rfl (fun h5 => ?_) (fun h5 => ?_)
  · skip
    refine pv_aload_n E d_Stage_combine_16 rfl rfl ?_
    refine gf_Stage_state E wd_484 d_Stage_combine_17 ?_
    refine pv_iconst (v := 1) E d_Stage_combine_20 (by decide) ?_
    refine pv_icmp_eq (tgt := 32) E d_Stage_combine_21 rfl (fun h21 => ?_) (fun h21 => ?_)
    · skip
      refine pv_aload_n E d_Stage_combine_32 rfl rfl ?_
      refine pv_aload_n E d_Stage_combine_33 rfl rfl ?_
      refine gf_Stage_content E wd_488 d_Stage_combine_34 ?_
      refine pv_aload_n E d_Stage_combine_37 rfl rfl ?_
      refine gf_Stage_content E wd_488 d_Stage_combine_38 ?_
      refine pv_iadd E d_Stage_combine_41 ?_
      refine pv_callV E (fun adr => k_Stage_useFunction l D ca A _ _ _ adr) yv_Stage_useFunction wd_171 rfl rfl (fun _ => ⟨_, rfl⟩) rfl ⟨by decide, by decide⟩ (Nat.le_of_ble_eq_true rfl) d_Stage_combine_42 ⟨by decide, by decide⟩ (fun r42 σ42 hq42 => ?_)
      obtain ⟨rfl, rfl⟩ := hq42
      exact pv_vret E hr hlk d_Stage_combine_45 (by decide) (by decide) ⟨rfl, by simp [st_combine, h5, h21]⟩
    · skip
      refine pv_aload_n E d_Stage_combine_24 rfl rfl ?_
      refine pv_aload_n E d_Stage_combine_25 rfl rfl ?_
      refine pv_callV E (fun adr => k_Stage_follow l D ca A _ _ _ adr) yv_Stage_follow wd_182 rfl rfl (fun _ => ⟨_, rfl⟩) rfl ⟨by decide, by decide⟩ (Nat.le_of_ble_eq_true rfl) d_Stage_combine_26 ⟨by decide, by decide⟩ (fun r26 σ26 hq26 => ?_)
      obtain ⟨rfl, rfl⟩ := hq26
      refine pv_goto (tgt := 45) E d_Stage_combine_29 rfl ?_
      exact pv_vret E hr hlk d_Stage_combine_45 (by decide) (by decide) ⟨rfl, by simp [st_combine, h5, h21]⟩
  · skip
    refine pv_aload_n E d_Stage_combine_8 rfl rfl ?_
    refine pv_aload_n E d_Stage_combine_9 rfl rfl ?_
    refine pv_callV E (fun adr => k_Stage_follow l D ca A _ _ _ adr) yv_Stage_follow wd_182 rfl rfl (fun _ => ⟨_, rfl⟩) rfl ⟨by decide, by decide⟩ (Nat.le_of_ble_eq_true rfl) d_Stage_combine_10 ⟨by decide, by decide⟩ (fun r10 σ10 hq10 => ?_)
    obtain ⟨rfl, rfl⟩ := hq10
    refine pv_goto (tgt := 45) E d_Stage_combine_13 rfl ?_
    exact pv_vret E hr hlk d_Stage_combine_45 (by decide) (by decide) ⟨rfl, by simp [st_combine, h5]⟩
set_option maxHeartbeats 8000000 in
set_option maxRecDepth 100000 in
theorem k_Queue_length (l : Launch) (D : va_G) (ca : Nat → ClassId) (A : Nat → Prop) (σ : ps_S) (q : Nat)  : ∀ adr, ps_M l y_Queue_length c_Queue_length 1 (Option.some Jvm.ClassFile.FieldType.int) { frames := 0, cells := 0, slots := 0, locals := 0 } D ca A adr σ [ps_ref (some (2, q))] (fun rv σ' => rv = some (ps_int (ps_I σ 2 q 2)) ∧ σ' = σ) := by
  intro adr
  refine ps_M.of (by decide +kernel) (Nat.le_of_ble_eq_true rfl) ?_
  intro p_ e_ s_ m_ args_ below_ meth_ c_ E hr hlk hnm
  refine pv_aload_n E d_Queue_length_0 rfl rfl ?_
  refine gf_Queue_size E wd_43 d_Queue_length_1 ?_
  exact pv_iret E hr hlk d_Queue_length_4 (by decide) (by decide) ⟨rfl, rfl⟩
set_option maxHeartbeats 8000000 in
set_option maxRecDepth 100000 in
theorem k_Queue_append (l : Launch) (D : va_G) (ca : Nat → ClassId) (A : Nat → Prop) (σ : ps_S) (q r f n : Nat) (hr0 : ps_R σ 2 q 0 = some (4, r)) (hL : ps_L σ 4 r = 48) (hf : ps_I σ 2 q 1 = nI f) (hn : ps_I σ 2 q 2 = nI n) (hf48 : f < 48) (hn48 : n ≤ 48) (k : Nat) : ∀ adr, ps_M l y_Queue_append c_Queue_append 2 (Option.none : Option Jvm.ClassFile.FieldType) { frames := 0, cells := 0, slots := 0, locals := 0 } D ca A adr σ [ps_ref (some (2, q)), ps_ref (some (3, k))] (fun rv σ' => rv = none ∧ σ' = q_app σ q r k f n) := by
  intro adr
  refine ps_M.of (by decide +kernel) (Nat.le_of_ble_eq_true rfl) ?_
  intro p_ e_ s_ m_ args_ below_ meth_ c_ E hr hlk hnm
  refine pv_aload_n E d_Queue_append_0 rfl rfl ?_
  refine gf_Queue_size E wd_43 d_Queue_append_1 ?_
  refine pv_top (congrArg ps_int hn) ?_
  refine pv_bipush (v := 48) E d_Queue_append_4 (by decide) ?_
  refine pv_icmp_ge (tgt := 37) E d_Queue_append_6 rfl (fun h6 => ?_) (fun h6 => ?_)
  · skip
    have h6 := h6
    have hn9 : (48 : Int32) = nI 48 := by decide
    rw [hn9, nI_leI (by decide) (by omega)] at h6
    exact pv_vret E hr hlk d_Queue_append_37 (by decide) (by decide) ⟨rfl, by rw [q_app, if_neg (by omega)]⟩
  · skip
    have h6 := h6
    have hn9 : (48 : Int32) = nI 48 := by decide
    rw [hn9, nI_leI (by decide) (by omega)] at h6
    refine pv_aload_n E d_Queue_append_9 rfl rfl ?_
    refine gf_Queue_ring E wd_41 d_Queue_append_10 ?_
    refine pv_top (congrArg ps_ref hr0) ?_
    refine pv_aload_n E d_Queue_append_13 rfl rfl ?_
    refine gf_Queue_front E wd_42 d_Queue_append_14 ?_
    refine pv_top (congrArg ps_int hf) ?_
    refine pv_aload_n E d_Queue_append_17 rfl rfl ?_
    refine gf_Queue_size E wd_43 d_Queue_append_18 ?_
    refine pv_top (congrArg ps_int hn) ?_
    refine pv_iadd E d_Queue_append_21 ?_
    refine pv_bipush (v := 48) E d_Queue_append_22 (by decide) ?_
    refine pv_irem E d_Queue_append_24 (by decide) ?_
    refine pv_top (congrArg ps_int (q_ix hf48 hn48)) ?_
    refine pv_aload_n E d_Queue_append_25 rfl rfl ?_
    refine pv_aastore (t0 := 0) (ci := 3) E 4 _ 3 _ (fun _ _ _ _ _ => rfl) rfl rfl (fun _ => ⟨_, rfl⟩) (q_in hL (by omega)) d_Queue_append_26 ?_
    rw [nI_clamp (show (f + n) % 48 < 2 ^ 31 by omega)]
    refine pv_aload_n E d_Queue_append_27 rfl rfl ?_
    refine pv_dup E d_Queue_append_28 rfl ?_
    refine gf_Queue_size E wd_43 d_Queue_append_29 ?_
    refine pv_top (congrArg ps_int (show ps_I (ps_sR σ 4 r ((f + n) % 48) (some (3, k))) 2 q 2 = nI n from hn)) ?_
    refine pv_iconst (v := 1) E d_Queue_append_32 (by decide) ?_
    refine pv_iadd E d_Queue_append_33 ?_
    refine pv_top (congrArg ps_int (nI_1 n)) ?_
    refine pf_Queue_size E wd_43 d_Queue_append_34 ?_
    exact pv_vret E hr hlk d_Queue_append_37 (by decide) (by decide) ⟨rfl, by rw [q_app, if_pos (by omega)]⟩
set_option maxHeartbeats 8000000 in
set_option maxRecDepth 100000 in
theorem k_Queue_takeFront (l : Launch) (D : va_G) (ca : Nat → ClassId) (A : Nat → Prop) (σ : ps_S) (q r f n : Nat) (hr0 : ps_R σ 2 q 0 = some (4, r)) (hL : ps_L σ 4 r = 48) (hf : ps_I σ 2 q 1 = nI f) (hn : ps_I σ 2 q 2 = nI n) (hf48 : f < 48) (hn48 : n ≤ 48)  : ∀ adr, ps_M l y_Queue_takeFront c_Queue_takeFront 2 (Option.some (Jvm.ClassFile.FieldType.object "PromiseScopes$Stage")) { frames := 0, cells := 0, slots := 0, locals := 0 } D ca A adr σ [ps_ref (some (2, q))] (fun rv σ' => rv = some (ps_ref (if n = 0 then none else ps_R σ 4 r f)) ∧ σ' = q_take σ q f n) := by
  intro adr
  refine ps_M.of (by decide +kernel) (Nat.le_of_ble_eq_true rfl) ?_
  intro p_ e_ s_ m_ args_ below_ meth_ c_ E hr hlk hnm
  refine pv_aload_n E d_Queue_takeFront_0 rfl rfl ?_
  refine gf_Queue_size E wd_43 d_Queue_takeFront_1 ?_
  refine pv_top (congrArg ps_int hn) ?_
  refine pv_if_ne (tgt := 9) E d_Queue_takeFront_4 rfl (fun h4 => ?_) (fun h4 => ?_)
  · skip
    have hn0 : ¬ n = 0 := fun z => h4 (by rw [z]; exact nI_0)
    refine pv_aload_n E d_Queue_takeFront_9 rfl rfl ?_
    refine gf_Queue_ring E wd_41 d_Queue_takeFront_10 ?_
    refine pv_top (congrArg ps_ref hr0) ?_
    refine pv_aload_n E d_Queue_takeFront_13 rfl rfl ?_
    refine gf_Queue_front E wd_42 d_Queue_takeFront_14 ?_
    refine pv_top (congrArg ps_int hf) ?_
    refine pv_aaload (t0 := 0) E 4 _ (fun _ _ _ _ _ => rfl) rfl (q_in hL hf48) d_Queue_takeFront_17 ?_
    rw [nI_clamp (show f < 2 ^ 31 by omega)]
    refine pv_astore_n E d_Queue_takeFront_18 rfl (by decide) ?_
    refine pv_aload_n E d_Queue_takeFront_19 rfl rfl ?_
    refine pv_aload_n E d_Queue_takeFront_20 rfl rfl ?_
    refine gf_Queue_front E wd_42 d_Queue_takeFront_21 ?_
    refine pv_top (congrArg ps_int hf) ?_
    refine pv_iconst (v := 1) E d_Queue_takeFront_24 (by decide) ?_
    refine pv_iadd E d_Queue_takeFront_25 ?_
    refine pv_bipush (v := 48) E d_Queue_takeFront_26 (by decide) ?_
    refine pv_irem E d_Queue_takeFront_28 (by decide) ?_
    refine pv_top (congrArg ps_int (q_ix (n := 1) hf48 (by decide))) ?_
    refine pf_Queue_front E wd_42 d_Queue_takeFront_29 ?_
    refine pv_aload_n E d_Queue_takeFront_32 rfl rfl ?_
    refine pv_dup E d_Queue_takeFront_33 rfl ?_
    refine gf_Queue_size E wd_43 d_Queue_takeFront_34 ?_
    refine pv_top (congrArg ps_int (show ps_I (ps_sI σ 2 q 1 (nI ((f + 1) % 48))) 2 q 2 = nI n from q_keep hn)) ?_
    refine pv_iconst (v := 1) E d_Queue_takeFront_37 (by decide) ?_
    refine pv_isub E d_Queue_takeFront_38 ?_
    refine pv_top (congrArg ps_int (pk_sub (show 1 ≤ n by omega))) ?_
    refine pf_Queue_size E wd_43 d_Queue_takeFront_39 ?_
    refine pv_aload_n E d_Queue_takeFront_42 rfl rfl ?_
    exact pv_aret E hr (Or.inl ⟨_, rfl⟩) hlk d_Queue_takeFront_43 (by decide) (by decide) ⟨by simp [hn0], by simp [q_take, hn0]⟩
  · skip
    have hn0 : n = 0 := by
      by_cases z : n = 0
      · exact z
      · exact absurd h4 (nI_ne0 (by omega) (by omega))
    refine pv_null E d_Queue_takeFront_7 ?_
    exact pv_aret E hr (Or.inl ⟨_, rfl⟩) hlk d_Queue_takeFront_8 (by decide) (by decide) ⟨by simp [hn0], by simp [q_take, hn0]⟩
end
section
/-! The graph of stages as a mathematical value, and what the calls do to it: class and reference are both tied to it. -/
/-- how many; (state, content, kind, function, number, async, queued) of each; inputs; what it awaits; its turn; turns given; the line; the pool -/
abbrev gT : Type := Nat × (Nat → Nat → Int32) × (Nat → List Nat) × (Nat → Option Nat) × (Nat → Nat) × Nat × List Nat × List Nat
def gN (g : gT) : Nat := g.1
def gF (g : gT) : Nat → Nat → Int32 := g.2.1
def gI (g : gT) : Nat → List Nat := g.2.2.1
def gA (g : gT) : Nat → Option Nat := g.2.2.2.1
def gU (g : gT) : Nat → Nat := g.2.2.2.2.1
def gC (g : gT) : Nat := g.2.2.2.2.2.1
def gL (g : gT) : List Nat := g.2.2.2.2.2.2.1
def gP (g : gT) : List Nat := g.2.2.2.2.2.2.2
def gsF (g : gT) (k f : Nat) (v : Int32) : gT := (g.1, fun a => if a = k then va_up (gF g a) f v else gF g a, g.2.2)
def gsA (g : gT) (k : Nat) (r : Option Nat) : gT := (g.1, g.2.1, g.2.2.1, va_up (gA g) k r, g.2.2.2.2)
def gsL (g : gT) (x : List Nat) : gT := (g.1, g.2.1, g.2.2.1, g.2.2.2.1, g.2.2.2.2.1, g.2.2.2.2.2.1, x, g.2.2.2.2.2.2.2)
def gsP (g : gT) (x : List Nat) : gT := (g.1, g.2.1, g.2.2.1, g.2.2.2.1, g.2.2.2.2.1, g.2.2.2.2.2.1, g.2.2.2.2.2.2.1, x)
/-- state and content -/
def gsS (g : gT) (k : Nat) (u v : Int32) : gT := gsF (gsF g k 0 u) k 1 v
/-- its turn -/
def gsU (g : gT) (k : Nat) : gT := (g.1, g.2.1, g.2.2.1, g.2.2.2.1, va_up (gU g) k (gC g), gC g + 1, g.2.2.2.2.2.2)
theorem gF_sF (g : gT) (k f : Nat) (v : Int32) (a c : Nat) : gF (gsF g k f v) a c = if a = k ∧ c = f then v else gF g a c := by
  show (if a = k then va_up (gF g a) f v else gF g a) c = _
  by_cases h : a = k
  · rw [if_pos h]
    by_cases h2 : c = f
    · rw [if_pos ⟨h, h2⟩, h2, va_up_self]
    · rw [va_up_ne _ _ h2, if_neg (fun z => h2 z.2)]
  · rw [if_neg h, if_neg (fun z => h z.1)]
/-- the turn as the class keeps it: 2 ^ 30 while it's pending -/
def g_tv (g : gT) (k : Nat) : Nat := if gF g k 0 = 0 then 1073741824 else gU g k
def g_on (g : gT) (k : Nat) : Bool := !decide (gF g k 0 = 0)
def g_able (g : gT) (k : Nat) : Bool := !(g_on g k) && !decide (gF g k 2 = 9) && (match gA g k with
  | some j => g_on g j
  | none => if gF g k 2 = 6 ∨ gF g k 2 = 8 then (gI g k).any (g_on g) else (gI g k).all (g_on g))
def g_sc1 (g : gT) (k : Nat) : gT := if gF g k 6 = 0 ∧ g_able g k = true then
    (if ¬ gF g k 5 = 0 ∧ gA g k = none then gsP (gsF g k 6 1) (gP g ++ [k]) else gsL (gsF g k 6 1) (gL g ++ [k])) else g
def g_scN (g : gT) : Nat → gT
  | 0 => g
  | m + 1 => g_sc1 (g_scN g m) m
def g_scan (g : gT) : gT := g_scN g (gN g)
/-- what a stage becomes: as another, wrapped; or what its function makes -/
def g_fol (g : gT) (j : Nat) : Int32 × Int32 := (if gF g j 0 = 1 then 1 else 3, gF g j 1)
def g_use (g : gT) (k : Nat) (x : Int32) : Int32 × Int32 := if fn_thr (gF g k 3) (gF g k 4) x = 0 then (1, fn_mk (gF g k 3) (gF g k 4) x) else (3, fn_thr (gF g k 3) (gF g k 4) x)
def g_app (g : gT) (k j : Nat) : Int32 × Int32 := if gF g j 0 = 1 then g_use g k (gF g j 1) else g_fol g j
/-- the input that came first -/
def g_ft (g : gT) (b : Nat) : List Nat → Nat
  | [] => b
  | i :: r => g_ft g (if g_tv g i < g_tv g b then i else b) r
def g_first (g : gT) (k : Nat) : Nat := g_ft g ((gI g k).headD 0) (gI g k).tail
def g_sum (g : gT) (x : Int32) : List Nat → Int32 × Int32
  | [] => (1, x)
  | i :: r => if gF g i 0 = 1 then g_sum g (x + gF g i 1) r else g_fol g i
def g_cmp (g : gT) (k j : Nat) : (Int32 × Int32) ⊕ Nat := match gA g k with
  | some a => .inl (g_fol g a)
  | none => if gF g j 0 = 1 then (if fn_thr (gF g k 3) (gF g k 4) (gF g j 1) = 0 then (if ¬ fn_mk (gF g k 3) (gF g k 4) (gF g j 1) < 0 ∧ (fn_mk (gF g k 3) (gF g k 4) (gF g j 1)).toNatClampNeg < gN g then .inr (fn_mk (gF g k 3) (gF g k 4) (gF g j 1)).toNatClampNeg else .inl (3, 8)) else .inl (3, fn_thr (gF g k 3) (gF g k 4) (gF g j 1))) else .inl (g_fol g j)
/-- an outcome, or the number of the stage that is awaited -/
def g_dec (g : gT) (k : Nat) : (Int32 × Int32) ⊕ Nat :=
  let j := (gI g k).headD 0
  if gF g k 2 = 0 then .inl (g_app g k j)
  else if gF g k 2 = 1 then .inl (if gF g j 0 = 1 then g_fol g j else g_use g k (gF g j 1))
  else if gF g k 2 = 2 then .inl (g_use g k (if gF g j 0 = 1 then gF g j 1 else -1 - gF g j 1))
  else if gF g k 2 = 3 then .inl (if gF g j 0 = 1 ∧ ¬ fn_thr (gF g k 3) (gF g k 4) (gF g j 1) = 0 then (3, fn_thr (gF g k 3) (gF g k 4) (gF g j 1)) else g_fol g j)
  else if gF g k 2 = 4 then g_cmp g k j
  else if gF g k 2 = 5 then
    (let b := (gI g k).getD 1 0
     .inl (if gF g j 0 = 1 then (if gF g b 0 = 1 then g_use g k (gF g j 1 + gF g b 1) else g_fol g b) else g_fol g j))
  else if gF g k 2 = 6 then .inl (g_app g k (g_first g k))
  else if gF g k 2 = 7 then .inl (g_sum g 0 (gI g k))
  else .inl (g_fol g (g_first g k))
def g_give (g : gT) (k : Nat) (u v : Int32) : gT := g_scan (gsU (gsS g k u v) k)
def g_res (g : gT) (k : Nat) : gT := if gF g k 0 = 0 then (match g_dec (gsF g k 6 0) k with
    | .inl q => g_give (gsF g k 6 0) k q.1 q.2
    | .inr j => g_scan (gsA (gsF g k 6 0) k (some j))) else gsF g k 6 0
def g_work : Nat → gT → gT
  | 0, g => g
  | m + 1, g => match gL g with
    | [] => g
    | k :: r => g_work m (g_res (gsL g r) k)
/-- one more stage -/
def g_mk (g : gT) (kd fn nu asy : Int32) (ins : List Nat) : gT :=
  (gN g + 1, fun a => if a = gN g then (fun c => if c = 2 then kd else if c = 3 then fn else if c = 4 then nu else if c = 5 then asy else 0) else gF g a, va_up (gI g) (gN g) ins, va_up (gA g) (gN g) none, g.2.2.2.2)
/-! The class's graph in the store. -/
def RQ (σ : ps_S) (q r : Nat) (x : List Nat) : Prop := ps_R σ 2 q 0 = some (4, r) ∧ ps_L σ 4 r = 48 ∧ x.length ≤ 48 ∧ ps_I σ 2 q 2 = nI x.length ∧ ∃ f, f < 48 ∧ ps_I σ 2 q 1 = nI f ∧ ∀ i k, x[i]? = some k → ps_R σ 4 r ((f + i) % 48) = some (3, k)
def RS (σ : ps_S) (g : gT) (k : Nat) : Prop :=
  (ps_R σ 4 0 k = some (3, k) ∧ ps_I σ 3 k 0 = nI k ∧ ps_I σ 3 k 1 = gF g k 2 ∧ ps_I σ 3 k 2 = gF g k 3 ∧ ps_I σ 3 k 3 = gF g k 4 ∧ ps_I σ 3 k 4 = gF g k 5 ∧ ps_R σ 3 k 5 = some (4, 3 + k) ∧ ps_L σ 4 (3 + k) = (gI g k).length ∧ ∀ j i, (gI g k)[j]? = some i → ps_R σ 4 (3 + k) j = some (3, i)) ∧
  (ps_I σ 3 k 6 = gF g k 0 ∧ ps_I σ 3 k 7 = gF g k 1 ∧ ps_I σ 3 k 8 = nI (g_tv g k) ∧ ps_R σ 3 k 9 = (gA g k).map (fun j => (3, j)) ∧ ps_I σ 3 k 10 = gF g k 6)
def RC0 (σ : ps_S) (g : gT) : Prop :=
  ps_R σ 1 0 0 = some (4, 0) ∧ ps_R σ 1 0 1 = some (2, 0) ∧ ps_R σ 1 0 2 = some (2, 1) ∧ ps_I σ 1 0 3 = nI (gN g) ∧ ps_I σ 1 0 4 = nI (gC g) ∧ ps_L σ 4 0 = 48 ∧ ps_N σ 1 = 1 ∧ ps_N σ 2 = 2 ∧ ps_N σ 3 = gN g
def RC (σ : ps_S) (g : gT) : Prop := RC0 σ g ∧ (∀ k, k < gN g → RS σ g k) ∧ RQ σ 0 1 (gL g) ∧ RQ σ 1 2 (gP g)
def sumN (f : Nat → Nat) : Nat → Nat
  | 0 => 0
  | m + 1 => sumN f m + f m
/-- how often a stage may still be worked on in the line -/
def g_ph (g : gT) (k : Nat) : Nat := if gF g k 0 = 0 then (if gA g k = none then 2 else 1) else 0
def gE (g : gT) : Prop := gC g + sumN (g_ph g) (gN g) ≤ 2 * gN g
/-- what holds of every graph that calls make -/
def gW (g : gT) : Prop := gN g ≤ 48 ∧ (gE g ∧ ∀ k, gU g k ≤ 96) ∧ (∀ k, k < gN g → (gI g k).length ≤ 48 ∧ (∀ i ∈ gI g k, i < gN g) ∧ (∀ j, gA g k = some j → j < gN g))
def gK (g : gT) : Prop := ∀ k, k < gN g → (gF g k 2 = 9 ∨ 0 < (gI g k).length) ∧ (gF g k 2 = 5 → 1 < (gI g k).length)
def gQ (g : gT) : Prop := (gL g ++ gP g).Nodup ∧ ∀ k, k ∈ gL g ++ gP g → k < gN g ∧ ¬ gF g k 6 = 0 ∧ ¬ gF g k 2 = 9
def gOK (g : gT) : Prop := gW g ∧ gK g ∧ gQ g
theorem ps_I_sI (σ : ps_S) (κ i j : Nat) (v : Int32) (a b c : Nat) : ps_I (ps_sI σ κ i j v) a b c = if a = κ ∧ b = i ∧ c = j then v else ps_I σ a b c := by
  show ps_up (ps_I σ) κ i j v a b c = _
  by_cases h : a = κ ∧ b = i
  · obtain ⟨rfl, rfl⟩ := h
    rw [ps_up_self]
    by_cases h2 : c = j
    · rw [if_pos ⟨rfl, rfl, h2⟩, h2, va_up_self]
    · rw [va_up_ne _ _ h2, if_neg (fun z => h2 z.2.2)]
  · rw [ps_up_ne _ _ _ h, if_neg (fun z => h ⟨z.1, z.2.1⟩)]
theorem ps_R_sR (σ : ps_S) (κ i j : Nat) (v : Option (Nat × Nat)) (a b c : Nat) : ps_R (ps_sR σ κ i j v) a b c = if a = κ ∧ b = i ∧ c = j then v else ps_R σ a b c := by
  show ps_up (ps_R σ) κ i j v a b c = _
  by_cases h : a = κ ∧ b = i
  · obtain ⟨rfl, rfl⟩ := h
    rw [ps_up_self]
    by_cases h2 : c = j
    · rw [if_pos ⟨rfl, rfl, h2⟩, h2, va_up_self]
    · rw [va_up_ne _ _ h2, if_neg (fun z => h2 z.2.2)]
  · rw [ps_up_ne _ _ _ h, if_neg (fun z => h ⟨z.1, z.2.1⟩)]
theorem ps_R_sI (σ : ps_S) (κ i j : Nat) (v : Int32) : ps_R (ps_sI σ κ i j v) = ps_R σ := rfl
theorem ps_L_sI (σ : ps_S) (κ i j : Nat) (v : Int32) : ps_L (ps_sI σ κ i j v) = ps_L σ := rfl
theorem ps_N_sI (σ : ps_S) (κ i j : Nat) (v : Int32) : ps_N (ps_sI σ κ i j v) = ps_N σ := rfl
theorem ps_J_sI (σ : ps_S) (κ i j : Nat) (v : Int32) : ps_J (ps_sI σ κ i j v) = ps_J σ := rfl
theorem ps_I_sR (σ : ps_S) (κ i j : Nat) (v : Option (Nat × Nat)) : ps_I (ps_sR σ κ i j v) = ps_I σ := rfl
theorem ps_J_sR (σ : ps_S) (κ i j : Nat) (v : Option (Nat × Nat)) : ps_J (ps_sR σ κ i j v) = ps_J σ := rfl
theorem ps_L_sR (σ : ps_S) (κ i j : Nat) (v : Option (Nat × Nat)) : ps_L (ps_sR σ κ i j v) = ps_L σ := rfl
theorem ps_N_sR (σ : ps_S) (κ i j : Nat) (v : Option (Nat × Nat)) : ps_N (ps_sR σ κ i j v) = ps_N σ := rfl
/-- all but the kinds of the class's graph is as it was -/
def FrG (σ σ' : ps_S) : Prop := ∀ κ, ¬ (1 ≤ κ ∧ κ ≤ 4) → ps_I σ' κ = ps_I σ κ ∧ ps_J σ' κ = ps_J σ κ ∧ ps_R σ' κ = ps_R σ κ ∧ ps_L σ' κ = ps_L σ κ ∧ ps_N σ' κ = ps_N σ κ
theorem FrG.rf (σ : ps_S) : FrG σ σ := fun _ _ => ⟨rfl, rfl, rfl, rfl, rfl⟩
theorem FrG.tr {a b c : ps_S} (h1 : FrG a b) (h2 : FrG b c) : FrG a c := fun κ hκ =>
  ⟨(h2 κ hκ).1.trans (h1 κ hκ).1, (h2 κ hκ).2.1.trans (h1 κ hκ).2.1, (h2 κ hκ).2.2.1.trans (h1 κ hκ).2.2.1, (h2 κ hκ).2.2.2.1.trans (h1 κ hκ).2.2.2.1, (h2 κ hκ).2.2.2.2.trans (h1 κ hκ).2.2.2.2⟩
theorem FrG.sI {σ : ps_S} {κ i j : Nat} {v : Int32} (h : 1 ≤ κ ∧ κ ≤ 4) : FrG σ (ps_sI σ κ i j v) := fun a ha => by
  refine ⟨?_, rfl, rfl, rfl, rfl⟩
  funext b c
  rw [ps_I_sI]
  exact if_neg (fun z : a = κ ∧ b = i ∧ c = j => ha (by rw [z.1]; exact h))
theorem FrG.sR {σ : ps_S} {κ i j : Nat} {v : Option (Nat × Nat)} (h : 1 ≤ κ ∧ κ ≤ 4) : FrG σ (ps_sR σ κ i j v) := fun a ha => by
  refine ⟨rfl, rfl, ?_, rfl, rfl⟩
  funext b c
  rw [ps_R_sR]
  exact if_neg (fun z : a = κ ∧ b = i ∧ c = j => ha (by rw [z.1]; exact h))
theorem ps_sR_self (σ : ps_S) (κ i j : Nat) {v : Option (Nat × Nat)} (h : ps_R σ κ i j = v) : ps_sR σ κ i j v = σ := by
  have e : ps_up σ.2.2.1 κ i j v = σ.2.2.1 := by
    funext a b c
    by_cases hc : a = κ ∧ b = i
    · obtain ⟨rfl, rfl⟩ := hc
      rw [ps_up_self]
      by_cases h2 : c = j
      · subst h2
        rw [va_up_self]
        exact h.symm
      · rw [va_up_ne _ _ h2]
    · rw [ps_up_ne _ _ _ hc]
  show (σ.1, σ.2.1, ps_up σ.2.2.1 κ i j v, σ.2.2.2) = σ
  rw [e]
theorem ldrop {α : Type} {l : List α} {i : Nat} {x : α} (h : l[i]? = some x) : l.drop i = x :: l.drop (i + 1) := by
  obtain ⟨h1, h2⟩ := List.getElem?_eq_some_iff.mp h
  rw [List.drop_eq_getElem_cons h1, h2]
theorem lget {α : Type} {l : List α} {i : Nat} (h : i < l.length) : ∃ x, l[i]? = some x ∧ x ∈ l := ⟨l[i], List.getElem?_eq_getElem h, List.getElem_mem h⟩
theorem g_tv_lt (g : gT) (k : Nat) (h : gU g k < 2 ^ 31) : g_tv g k < 2 ^ 31 := by
  unfold g_tv
  split
  · decide
  · exact h
/-- how many of these inputs have an outcome -/
def g_cnt (g : gT) (c : Nat) : List Nat → Nat
  | [] => c
  | i :: r => g_cnt g (if gF g i 0 = 0 then c else c + 1) r
theorem g_cnt_eq (g : gT) : ∀ (l : List Nat) (c : Nat), (0 < g_cnt g c l ↔ 0 < c ∨ l.any (g_on g) = true) ∧ (g_cnt g c l = c + l.length ↔ l.all (g_on g) = true) ∧ g_cnt g c l ≤ c + l.length
  | [], c => by simp [g_cnt]
  | i :: r, c => by
    have ih := g_cnt_eq g r (if gF g i 0 = 0 then c else c + 1)
    rw [g_cnt]
    by_cases h : gF g i 0 = 0
    · rw [if_pos h] at ih ⊢
      have hon : g_on g i = false := by simp [g_on, h]
      refine ⟨by rw [ih.1]; simp [hon], ?_, by have := ih.2.2; simp; omega⟩
      simp [hon]
      have := ih.2.2
      omega
    · rw [if_neg h] at ih ⊢
      have hon : g_on g i = true := by simp [g_on, h]
      refine ⟨by rw [ih.1]; simp [hon], ?_, by have := ih.2.2; simp; omega⟩
      rw [List.all_cons, hon, Bool.true_and, ← ih.2.1]
      simp
      omega
end
section
/-! Lists of inputs. -/
theorem pv_back {p : Program} {l : Launch} {e : Env} {R : Room} {s : State} {m : MethodId} {args : Array Value} {below : List Frame} {meth : Method} {c : Code} {nL : Nat} {D : va_G} {ca : Nat → ClassId} {A : Nat → Prop} {H0 : Heap} {adr0 : Nat → Nat → Nat} {σ0 : ps_S} {Q : State → Prop} {pc : Nat} {L L' : List (Nat × ps_A)} {st : List ps_A} {σ : ps_S} {ce sl : Nat}
    (kk : ps_V p l e R s m args below meth c nL D ca A H0 adr0 σ0 Q pc L' st σ ce sl) (h : ps_sub L L') : ps_V p l e R s m args below meth c nL D ca A H0 adr0 σ0 Q pc L st σ ce sl := pv_sub h kk
theorem nI_gt0 {n : Nat} (h : ¬ nI n ≤ 0) : 0 < n := Nat.pos_of_ne_zero (fun z => h (by rw [z]; decide))
theorem g_able_none {g : gT} {k : Nat} (h0 : gF g k 0 = 0) (h9 : ¬ gF g k 2 = 9) (hA : gA g k = none) : g_able g k = if gF g k 2 = 6 ∨ gF g k 2 = 8 then (gI g k).any (g_on g) else (gI g k).all (g_on g) := by
  simp [g_able, g_on, h0, h9, hA]
theorem g_any_f {g : gT} {l : List Nat} (h : ¬ 0 < g_cnt g 0 l) : l.any (g_on g) = false := by
  cases hb : l.any (g_on g) with
  | false => rfl
  | true => exact absurd ((g_cnt_eq g l 0).1.mpr (Or.inr hb)) h
theorem g_any_t {g : gT} {l : List Nat} (h : 0 < g_cnt g 0 l) : l.any (g_on g) = true := ((g_cnt_eq g l 0).1.mp h).resolve_left (by omega)
theorem g_all_f {g : gT} {l : List Nat} (h : ¬ g_cnt g 0 l = l.length) : l.all (g_on g) = false := by
  cases hb : l.all (g_on g) with
  | false => rfl
  | true => exact absurd ((g_cnt_eq g l 0).2.1.mpr hb) (by omega)
theorem g_all_t {g : gT} {l : List Nat} (h : g_cnt g 0 l = l.length) : l.all (g_on g) = true := (g_cnt_eq g l 0).2.1.mp (by omega)
theorem nI_le0 {n : Nat} (h : n < 2 ^ 31) (h2 : nI n ≤ 0) : n = 0 := by
  by_cases z : n = 0
  · exact z
  · exact absurd h2 (nI_nle (by omega) h)
theorem g_fol_st {σ : ps_S} {g : gT} {j : Nat} (k : Nat) (h : RS σ g j) : st_follow σ k j = st_become σ k (g_fol g j).1 (g_fol g j).2 := by
  rw [st_follow, h.2.1, h.2.2.1]
  rfl
theorem g_use_st {σ : ps_S} {g : gT} {k : Nat} (x : Int32) (h : RS σ g k) : st_use σ k x = st_become σ k (g_use g k x).1 (g_use g k x).2 := by
  obtain ⟨⟨e0, e1, e2, e3, e4, e5, e6, e7, e8⟩, e9, e10, e11, e12, e13⟩ := h
  rw [st_use, g_use, e3, e4]
  by_cases h : fn_thr (gF g k 3) (gF g k 4) x = 0
  · rw [if_pos h, if_pos h]
  · rw [if_neg h, if_neg h]
theorem g_first_0 {g : gT} {k x0 : Nat} (h : (gI g k)[0]? = some x0) : g_first g k = g_ft g x0 ((gI g k).drop 1) := by
  unfold g_first
  cases hl : gI g k with
  | nil => rw [hl] at h; cases h
  | cons a r =>
    rw [hl] at h
    cases h
    rfl
end
section
set_option maxHeartbeats 8000000 in
set_option maxRecDepth 100000 in
theorem k_Stage_isAble (l : Launch) (D : va_G) (ca : Nat → ClassId) (A : Nat → Prop) (σ : ps_S) (k : Nat) (g : gT) (hR : RC σ g) (hW : gW g) (hk : k < gN g) : ∀ adr, ps_M l y_Stage_isAble c_Stage_isAble 3 (Option.some Jvm.ClassFile.FieldType.boolean) { frames := 0, cells := 0, slots := 0, locals := 0 } D ca A adr σ [ps_ref (some (3, k))] (fun rv σ' => rv = some (ps_int (if g_able g k = true then 1 else 0)) ∧ σ' = σ) := by
  intro adr
  refine ps_M.of (by decide +kernel) (Nat.le_of_ble_eq_true rfl) ?_
  intro p_ e_ s_ m_ args_ below_ meth_ c_ E hr hlk hnm
  obtain ⟨⟨e0, e1, e2, e3, e4, e5, e6, e7, e8⟩, e9, e10, e11, e12, e13⟩ := hR.2.1 k hk
  have hlen := (hW.2.2 k hk).1
  refine pv_aload_n E d_Stage_isAble_0 rfl rfl ?_
  refine gf_Stage_state E wd_484 d_Stage_isAble_1 ?_
  refine pv_top (congrArg ps_int e9) ?_
  refine pv_if_ne (tgt := 16) E d_Stage_isAble_4 rfl (fun h4 => ?_) (fun h4 => ?_)
  · skip
    have hres : g_able g k = false := by simp [g_able, g_on, h4]
    refine pv_iconst (v := 0) E d_Stage_isAble_16 (by decide) ?_
    exact pv_zret E hr hlk d_Stage_isAble_17 (by first | rfl | (apply ps_zb; assumption)) (by decide) (by decide) ⟨by rw [hres]; rfl, rfl⟩
  · skip
    refine pv_aload_n E d_Stage_isAble_7 rfl rfl ?_
    refine gf_Stage_kind E wd_474 d_Stage_isAble_8 ?_
    refine pv_top (congrArg ps_int e2) ?_
    refine pv_bipush (v := 9) E d_Stage_isAble_11 (by decide) ?_
    refine pv_icmp_ne (tgt := 18) E d_Stage_isAble_13 rfl (fun h13 => ?_) (fun h13 => ?_)
    · skip
      refine pv_aload_n E d_Stage_isAble_18 rfl rfl ?_
      refine gf_Stage_awaited E wd_493 d_Stage_isAble_19 ?_
      refine pv_top (congrArg ps_ref e12) ?_
      refine pv_ifnull (tgt := 41) E d_Stage_isAble_22 rfl (fun h22 => ?_) (fun q22 h22 => ?_)
      · skip
        have hA : gA g k = none := by
          cases z : gA g k with
          | none => rfl
          | some j => rw [z] at h22; cases h22
        refine pv_iconst (v := 0) E d_Stage_isAble_41 (by decide) ?_
        refine pv_istore_n E d_Stage_isAble_42 rfl (by decide) ?_
        refine pv_iconst (v := 0) E d_Stage_isAble_43 (by decide) ?_
        refine pv_istore_n E d_Stage_isAble_44 rfl (by decide) ?_
        refine pv_sub (L' := [(0, ps_ref (some (3, k))), (1, ps_int (nI 0)), (2, ps_int (nI 0))]) ⟨rfl, rfl, rfl, trivial⟩ ?_
        refine pv_loop (ι := Nat × Nat) (fun x => (gI g k).length - x.1) (fun x => [(0, ps_ref (some (3, k))), (1, ps_int (nI x.2)), (2, ps_int (nI x.1))]) (fun _ => σ) (fun x => x.1 ≤ (gI g k).length ∧ x.2 ≤ x.1 ∧ g_cnt g 0 (gI g k) = g_cnt g x.2 ((gI g k).drop x.1)) (fun x hx ih => ?_) (0, 0) ⟨Nat.zero_le _, Nat.le_refl _, rfl⟩
        obtain ⟨i, cn⟩ := x
        obtain ⟨hi, hcn, hcnt⟩ := hx
        dsimp only at hi hcn hcnt ih ⊢
        refine pv_iload_n E d_Stage_isAble_45 rfl rfl ?_
        refine pv_aload_n E d_Stage_isAble_46 rfl rfl ?_
        refine gf_Stage_inputs E wd_482 d_Stage_isAble_47 ?_
        refine pv_top (congrArg ps_ref e6) ?_
        refine pv_alenR (t0 := 0) E 4 _ (fun _ _ _ _ _ => rfl) rfl rfl d_Stage_isAble_50 ?_
        refine pv_top (congrArg ps_int (show Int32.ofNat (ps_L σ 4 (3 + k)) = nI (gI g k).length by rw [e7]; rfl)) ?_
        refine pv_icmp_ge (tgt := 75) E d_Stage_isAble_51 rfl (fun h51 => ?_) (fun h51 => ?_)
        · skip
          have hi2 : (gI g k).length ≤ i := (nI_leI (by omega) (by omega)).mp h51
          have hcc : g_cnt g 0 (gI g k) = cn := by rw [hcnt, List.drop_of_length_le hi2, g_cnt]
          refine pv_aload_n E d_Stage_isAble_75 rfl rfl ?_
          refine gf_Stage_kind E wd_474 d_Stage_isAble_76 ?_
          refine pv_top (congrArg ps_int e2) ?_
          refine pv_bipush (v := 6) E d_Stage_isAble_79 (by decide) ?_
          refine pv_icmp_eq (tgt := 93) E d_Stage_isAble_81 rfl (fun h81 => ?_) (fun h81 => ?_)
          · skip
            have hk6 : gF g k 2 = 6 ∨ gF g k 2 = 8 := Or.inl h81
            refine pv_iload_n E d_Stage_isAble_93 rfl rfl ?_
            refine pv_if_le (tgt := 101) E d_Stage_isAble_94 rfl (fun h94 => ?_) (fun h94 => ?_)
            · skip
              have hres : g_able g k = false := by rw [g_able_none h4 h13 hA, if_pos hk6]; exact g_any_f (by have := nI_le0 (by omega) h94; omega)
              refine pv_iconst (v := 0) E d_Stage_isAble_101 (by decide) ?_
              refine pv_goto (tgt := 119) E d_Stage_isAble_102 rfl ?_
              exact pv_zret E hr hlk d_Stage_isAble_119 (by first | rfl | (apply ps_zb; assumption)) (by decide) (by decide) ⟨by rw [hres]; rfl, rfl⟩
            · skip
              have hres : g_able g k = true := by rw [g_able_none h4 h13 hA, if_pos hk6]; exact g_any_t (by rw [hcc]; exact nI_gt0 h94)
              refine pv_iconst (v := 1) E d_Stage_isAble_97 (by decide) ?_
              refine pv_goto (tgt := 119) E d_Stage_isAble_98 rfl ?_
              exact pv_zret E hr hlk d_Stage_isAble_119 (by first | rfl | (apply ps_zb; assumption)) (by decide) (by decide) ⟨by rw [hres]; rfl, rfl⟩
          · skip
            refine pv_aload_n E d_Stage_isAble_84 rfl rfl ?_
            refine gf_Stage_kind E wd_474 d_Stage_isAble_85 ?_
            refine pv_top (congrArg ps_int e2) ?_
            refine pv_bipush (v := 8) E d_Stage_isAble_88 (by decide) ?_
            refine pv_icmp_ne (tgt := 105) E d_Stage_isAble_90 rfl (fun h90 => ?_) (fun h90 => ?_)
            · skip
              have hk6 : ¬ (gF g k 2 = 6 ∨ gF g k 2 = 8) := fun z => z.elim h81 h90
              refine pv_iload_n E d_Stage_isAble_105 rfl rfl ?_
              refine pv_aload_n E d_Stage_isAble_106 rfl rfl ?_
              refine gf_Stage_inputs E wd_482 d_Stage_isAble_107 ?_
              refine pv_top (congrArg ps_ref e6) ?_
              refine pv_alenR (t0 := 0) E 4 _ (fun _ _ _ _ _ => rfl) rfl rfl d_Stage_isAble_110 ?_
              refine pv_top (congrArg ps_int (show Int32.ofNat (ps_L σ 4 (3 + k)) = nI (gI g k).length by rw [e7]; rfl)) ?_
              refine pv_icmp_ne (tgt := 118) E d_Stage_isAble_111 rfl (fun h111 => ?_) (fun h111 => ?_)
              · skip
                have hres : g_able g k = false := by rw [g_able_none h4 h13 hA, if_neg hk6]; exact g_all_f (fun z => h111 (by rw [← hcc, z]))
                refine pv_iconst (v := 0) E d_Stage_isAble_118 (by decide) ?_
                exact pv_zret E hr hlk d_Stage_isAble_119 (by first | rfl | (apply ps_zb; assumption)) (by decide) (by decide) ⟨by rw [hres]; rfl, rfl⟩
              · skip
                have hres : g_able g k = true := by rw [g_able_none h4 h13 hA, if_neg hk6]; exact g_all_t (by rw [hcc]; exact (nI_eq (by omega) (by omega)).mp h111)
                refine pv_iconst (v := 1) E d_Stage_isAble_114 (by decide) ?_
                refine pv_goto (tgt := 119) E d_Stage_isAble_115 rfl ?_
                exact pv_zret E hr hlk d_Stage_isAble_119 (by first | rfl | (apply ps_zb; assumption)) (by decide) (by decide) ⟨by rw [hres]; rfl, rfl⟩
            · skip
              have hk6 : gF g k 2 = 6 ∨ gF g k 2 = 8 := Or.inr h90
              refine pv_iload_n E d_Stage_isAble_93 rfl rfl ?_
              refine pv_if_le (tgt := 101) E d_Stage_isAble_94 rfl (fun h94 => ?_) (fun h94 => ?_)
              · skip
                have hres : g_able g k = false := by rw [g_able_none h4 h13 hA, if_pos hk6]; exact g_any_f (by have := nI_le0 (by omega) h94; omega)
                refine pv_iconst (v := 0) E d_Stage_isAble_101 (by decide) ?_
                refine pv_goto (tgt := 119) E d_Stage_isAble_102 rfl ?_
                exact pv_zret E hr hlk d_Stage_isAble_119 (by first | rfl | (apply ps_zb; assumption)) (by decide) (by decide) ⟨by rw [hres]; rfl, rfl⟩
              · skip
                have hres : g_able g k = true := by rw [g_able_none h4 h13 hA, if_pos hk6]; exact g_any_t (by rw [hcc]; exact nI_gt0 h94)
                refine pv_iconst (v := 1) E d_Stage_isAble_97 (by decide) ?_
                refine pv_goto (tgt := 119) E d_Stage_isAble_98 rfl ?_
                exact pv_zret E hr hlk d_Stage_isAble_119 (by first | rfl | (apply ps_zb; assumption)) (by decide) (by decide) ⟨by rw [hres]; rfl, rfl⟩
        · skip
          have hlt : i < (gI g k).length := Nat.lt_of_not_le (fun z => h51 ((nI_leI (by omega) (by omega)).mpr z))
          obtain ⟨x1, hx1, hm1⟩ := lget hlt
          have hs1 := hR.2.1 x1 ((hW.2.2 k hk).2.1 x1 hm1)
          refine pv_aload_n E d_Stage_isAble_54 rfl rfl ?_
          refine gf_Stage_inputs E wd_482 d_Stage_isAble_55 ?_
          refine pv_top (congrArg ps_ref e6) ?_
          refine pv_iload_n E d_Stage_isAble_58 rfl rfl ?_
          refine pv_aaload (t0 := 0) E 4 _ (fun _ _ _ _ _ => rfl) rfl (by rw [e7]; exact vp_in_nI hlt (by omega)) d_Stage_isAble_59 ?_
          rw [nI_clamp (show i < 2 ^ 31 by omega)]
          refine pv_top (congrArg ps_ref (e8 i x1 hx1)) ?_
          refine gf_Stage_state E wd_484 d_Stage_isAble_60 ?_
          refine pv_top (congrArg ps_int hs1.2.1) ?_
          refine pv_if_eq (tgt := 69) E d_Stage_isAble_63 rfl (fun h63 => ?_) (fun h63 => ?_)
          · skip
            refine pv_inc1 E d_Stage_isAble_69 rfl (by decide) ?_
            refine pv_goto (tgt := 45) E d_Stage_isAble_72 rfl ?_
            exact pv_back (ih (i + 1, cn) ⟨by omega, by omega, hcnt.trans (by rw [ldrop hx1, g_cnt, if_pos h63])⟩ (by show _ - (i + 1) < _ - i; omega)) ⟨rfl, rfl, congrArg (fun z : Int32 => some (ps_int z)) (nI_1 i), trivial⟩
          · skip
            refine pv_inc1 E d_Stage_isAble_66 rfl (by decide) ?_
            refine pv_inc1 E d_Stage_isAble_69 rfl (by decide) ?_
            refine pv_goto (tgt := 45) E d_Stage_isAble_72 rfl ?_
            exact pv_back (ih (i + 1, cn + 1) ⟨by omega, by omega, hcnt.trans (by rw [ldrop hx1, g_cnt, if_neg h63])⟩ (by show _ - (i + 1) < _ - i; omega)) ⟨rfl, congrArg (fun z : Int32 => some (ps_int z)) (nI_1 cn), congrArg (fun z : Int32 => some (ps_int z)) (nI_1 i), trivial⟩
      · skip
        obtain ⟨aj, hA⟩ : ∃ aj, gA g k = some aj := by
          cases z : gA g k with
          | none => rw [z] at h22; cases h22
          | some j => exact ⟨j, rfl⟩
        refine pv_aload_n E d_Stage_isAble_25 rfl rfl ?_
        refine gf_Stage_awaited E wd_493 d_Stage_isAble_26 ?_
        refine pv_top (congrArg ps_ref (show ps_R σ 3 k 9 = some (3, aj) by rw [e12, hA]; rfl)) ?_
        refine gf_Stage_state E wd_484 d_Stage_isAble_29 ?_
        refine pv_top (congrArg ps_int (hR.2.1 aj ((hW.2.2 k hk).2.2 aj hA)).2.1) ?_
        refine pv_if_eq (tgt := 39) E d_Stage_isAble_32 rfl (fun h32 => ?_) (fun h32 => ?_)
        · skip
          have hres : g_able g k = false := by simp [g_able, g_on, h4, h13, hA, h32]
          refine pv_iconst (v := 0) E d_Stage_isAble_39 (by decide) ?_
          exact pv_zret E hr hlk d_Stage_isAble_40 (by first | rfl | (apply ps_zb; assumption)) (by decide) (by decide) ⟨by rw [hres]; rfl, rfl⟩
        · skip
          have hres : g_able g k = true := by simp [g_able, g_on, h4, h13, hA, h32]
          refine pv_iconst (v := 1) E d_Stage_isAble_35 (by decide) ?_
          refine pv_goto (tgt := 40) E d_Stage_isAble_36 rfl ?_
          exact pv_zret E hr hlk d_Stage_isAble_40 (by first | rfl | (apply ps_zb; assumption)) (by decide) (by decide) ⟨by rw [hres]; rfl, rfl⟩
    · skip
      have hres : g_able g k = false := by simp [g_able, h13]
      refine pv_iconst (v := 0) E d_Stage_isAble_16 (by decide) ?_
      exact pv_zret E hr hlk d_Stage_isAble_17 (by first | rfl | (apply ps_zb; assumption)) (by decide) (by decide) ⟨by rw [hres]; rfl, rfl⟩
set_option maxHeartbeats 8000000 in
set_option maxRecDepth 100000 in
theorem k_Stage_sumUp (l : Launch) (D : va_G) (ca : Nat → ClassId) (A : Nat → Prop) (σ : ps_S) (k : Nat) (g : gT) (hR : RC σ g) (hW : gW g) (hk : k < gN g) : ∀ adr, ps_M l y_Stage_sumUp c_Stage_sumUp 3 (Option.none : Option Jvm.ClassFile.FieldType) { frames := 2, cells := 0, slots := 0, locals := 43 } D ca A adr σ [ps_ref (some (3, k))] (fun rv σ' => rv = none ∧ σ' = st_become σ k (g_sum g 0 (gI g k)).1 (g_sum g 0 (gI g k)).2) := by
  intro adr
  refine ps_M.of (by decide +kernel) (Nat.le_of_ble_eq_true rfl) ?_
  intro p_ e_ s_ m_ args_ below_ meth_ c_ E hr hlk hnm
  obtain ⟨⟨e0, e1, e2, e3, e4, e5, e6, e7, e8⟩, e9, e10, e11, e12, e13⟩ := hR.2.1 k hk
  have hlen := (hW.2.2 k hk).1
  refine pv_iconst (v := 0) E d_Stage_sumUp_0 (by decide) ?_
  refine pv_istore_n E d_Stage_sumUp_1 rfl (by decide) ?_
  refine pv_iconst (v := 0) E d_Stage_sumUp_2 (by decide) ?_
  refine pv_istore_n E d_Stage_sumUp_3 rfl (by decide) ?_
  refine pv_sub (L' := [(0, ps_ref (some (3, k))), (1, ps_int 0), (2, ps_int (nI 0))]) ⟨rfl, rfl, rfl, trivial⟩ ?_
  refine pv_loop (ι := Nat × Int32) (fun x => (gI g k).length - x.1) (fun x => [(0, ps_ref (some (3, k))), (1, ps_int x.2), (2, ps_int (nI x.1))]) (fun _ => σ) (fun x => x.1 ≤ (gI g k).length ∧ g_sum g 0 (gI g k) = g_sum g x.2 ((gI g k).drop x.1)) (fun x hx ih => ?_) (0, 0) ⟨Nat.zero_le _, rfl⟩
  obtain ⟨i, su⟩ := x
  obtain ⟨hi, hsu⟩ := hx
  dsimp only at hi hsu ih ⊢
  refine pv_iload_n E d_Stage_sumUp_4 rfl rfl ?_
  refine pv_aload_n E d_Stage_sumUp_5 rfl rfl ?_
  refine gf_Stage_inputs E wd_482 d_Stage_sumUp_6 ?_
  refine pv_top (congrArg ps_ref e6) ?_
  refine pv_alenR (t0 := 0) E 4 _ (fun _ _ _ _ _ => rfl) rfl rfl d_Stage_sumUp_9 ?_
  refine pv_top (congrArg ps_int (show Int32.ofNat (ps_L σ 4 (3 + k)) = nI (gI g k).length by rw [e7]; rfl)) ?_
  refine pv_icmp_ge (tgt := 55) E d_Stage_sumUp_10 rfl (fun h10 => ?_) (fun h10 => ?_)
  · skip
    have hi2 : (gI g k).length ≤ i := (nI_leI (by omega) (by omega)).mp h10
    have hcc : g_sum g 0 (gI g k) = (1, su) := by rw [hsu, List.drop_of_length_le hi2, g_sum]
    refine pv_aload_n E d_Stage_sumUp_55 rfl rfl ?_
    refine pv_iconst (v := 1) E d_Stage_sumUp_56 (by decide) ?_
    refine pv_iload_n E d_Stage_sumUp_57 rfl rfl ?_
    refine pv_callV E (fun adr => k_Stage_become l D ca A _ _ _ _ adr) yv_Stage_become wd_178 rfl rfl (fun _ => ⟨_, rfl⟩) rfl ⟨by decide, by decide⟩ (Nat.le_of_ble_eq_true rfl) d_Stage_sumUp_58 ⟨by decide, by decide⟩ (fun r58 σ58 hq58 => ?_)
    obtain ⟨rfl, rfl⟩ := hq58
    exact pv_vret E hr hlk d_Stage_sumUp_61 (by decide) (by decide) ⟨rfl, by rw [hcc]⟩
  · skip
    have hlt : i < (gI g k).length := Nat.lt_of_not_le (fun z => h10 ((nI_leI (by omega) (by omega)).mpr z))
    obtain ⟨x1, hx1, hm1⟩ := lget hlt
    have hs1 := hR.2.1 x1 ((hW.2.2 k hk).2.1 x1 hm1)
    refine pv_aload_n E d_Stage_sumUp_13 rfl rfl ?_
    refine gf_Stage_inputs E wd_482 d_Stage_sumUp_14 ?_
    refine pv_top (congrArg ps_ref e6) ?_
    refine pv_iload_n E d_Stage_sumUp_17 rfl rfl ?_
    refine pv_aaload (t0 := 0) E 4 _ (fun _ _ _ _ _ => rfl) rfl (by rw [e7]; exact vp_in_nI hlt (by omega)) d_Stage_sumUp_18 ?_
    rw [nI_clamp (show i < 2 ^ 31 by omega)]
    refine pv_top (congrArg ps_ref (e8 i x1 hx1)) ?_
    refine gf_Stage_state E wd_484 d_Stage_sumUp_19 ?_
    refine pv_top (congrArg ps_int hs1.2.1) ?_
    refine pv_iconst (v := 1) E d_Stage_sumUp_22 (by decide) ?_
    refine pv_icmp_eq (tgt := 37) E d_Stage_sumUp_23 rfl (fun h23 => ?_) (fun h23 => ?_)
    · skip
      refine pv_iload_n E d_Stage_sumUp_37 rfl rfl ?_
      refine pv_aload_n E d_Stage_sumUp_38 rfl rfl ?_
      refine gf_Stage_inputs E wd_482 d_Stage_sumUp_39 ?_
      refine pv_top (congrArg ps_ref e6) ?_
      refine pv_iload_n E d_Stage_sumUp_42 rfl rfl ?_
      refine pv_aaload (t0 := 0) E 4 _ (fun _ _ _ _ _ => rfl) rfl (by rw [e7]; exact vp_in_nI hlt (by omega)) d_Stage_sumUp_43 ?_
      rw [nI_clamp (show i < 2 ^ 31 by omega)]
      refine pv_top (congrArg ps_ref (e8 i x1 hx1)) ?_
      refine gf_Stage_content E wd_488 d_Stage_sumUp_44 ?_
      refine pv_top (congrArg ps_int hs1.2.2.1) ?_
      refine pv_iadd E d_Stage_sumUp_47 ?_
      refine pv_istore_n E d_Stage_sumUp_48 rfl (by decide) ?_
      refine pv_inc1 E d_Stage_sumUp_49 rfl (by decide) ?_
      refine pv_goto (tgt := 4) E d_Stage_sumUp_52 rfl ?_
      exact pv_back (ih (i + 1, su + gF g x1 1) ⟨by omega, hsu.trans (by rw [ldrop hx1, g_sum, if_pos h23])⟩ (by show _ - (i + 1) < _ - i; omega)) ⟨rfl, rfl, congrArg (fun z : Int32 => some (ps_int z)) (nI_1 i), trivial⟩
    · skip
      refine pv_aload_n E d_Stage_sumUp_26 rfl rfl ?_
      refine pv_aload_n E d_Stage_sumUp_27 rfl rfl ?_
      refine gf_Stage_inputs E wd_482 d_Stage_sumUp_28 ?_
      refine pv_top (congrArg ps_ref e6) ?_
      refine pv_iload_n E d_Stage_sumUp_31 rfl rfl ?_
      refine pv_aaload (t0 := 0) E 4 _ (fun _ _ _ _ _ => rfl) rfl (by rw [e7]; exact vp_in_nI hlt (by omega)) d_Stage_sumUp_32 ?_
      rw [nI_clamp (show i < 2 ^ 31 by omega)]
      refine pv_top (congrArg ps_ref (e8 i x1 hx1)) ?_
      refine pv_callV E (fun adr => k_Stage_follow l D ca A _ _ _ adr) yv_Stage_follow wd_182 rfl rfl (fun _ => ⟨_, rfl⟩) rfl ⟨by decide, by decide⟩ (Nat.le_of_ble_eq_true rfl) d_Stage_sumUp_33 ⟨by decide, by decide⟩ (fun r33 σ33 hq33 => ?_)
      obtain ⟨rfl, rfl⟩ := hq33
      exact pv_vret E hr hlk d_Stage_sumUp_36 (by decide) (by decide) ⟨rfl, by rw [g_fol_st k hs1, hsu, ldrop hx1, g_sum, if_neg h23]⟩
set_option maxHeartbeats 8000000 in
set_option maxRecDepth 100000 in
theorem k_Stage_firstSettledInput (l : Launch) (D : va_G) (ca : Nat → ClassId) (A : Nat → Prop) (σ : ps_S) (k : Nat) (g : gT) (hR : RC σ g) (hW : gW g) (hk : k < gN g) (hne : 0 < (gI g k).length) (hT : ∀ j, j < gN g → g_tv g j < 2 ^ 31) : ∀ adr, ps_M l y_Stage_firstSettledInput c_Stage_firstSettledInput 3 (Option.some (Jvm.ClassFile.FieldType.object "PromiseScopes$Stage")) { frames := 0, cells := 0, slots := 0, locals := 0 } D ca A adr σ [ps_ref (some (3, k))] (fun rv σ' => rv = some (ps_ref (some (3, g_first g k))) ∧ σ' = σ) := by
  intro adr
  refine ps_M.of (by decide +kernel) (Nat.le_of_ble_eq_true rfl) ?_
  intro p_ e_ s_ m_ args_ below_ meth_ c_ E hr hlk hnm
  obtain ⟨⟨e0, e1, e2, e3, e4, e5, e6, e7, e8⟩, e9, e10, e11, e12, e13⟩ := hR.2.1 k hk
  have hlen := (hW.2.2 k hk).1
  obtain ⟨x0, hx0, hm0⟩ := lget hne
  have hn0 := (hW.2.2 k hk).2.1 x0 hm0
  refine pv_aload_n E d_Stage_firstSettledInput_0 rfl rfl ?_
  refine gf_Stage_inputs E wd_482 d_Stage_firstSettledInput_1 ?_
  refine pv_top (congrArg ps_ref e6) ?_
  refine pv_iconst (v := 0) E d_Stage_firstSettledInput_4 (by decide) ?_
  refine pv_aaload (t0 := 0) E 4 _ (fun _ _ _ _ _ => rfl) rfl (by rw [e7]; exact vp_in_nI (n := 0) hne (by omega)) d_Stage_firstSettledInput_5 ?_
  rw [show (0 : Int32).toNatClampNeg = 0 from rfl]
  refine pv_top (congrArg ps_ref (e8 0 x0 hx0)) ?_
  refine pv_astore_n E d_Stage_firstSettledInput_6 rfl (by decide) ?_
  refine pv_iconst (v := 1) E d_Stage_firstSettledInput_7 (by decide) ?_
  refine pv_istore_n E d_Stage_firstSettledInput_8 rfl (by decide) ?_
  refine pv_sub (L' := [(0, ps_ref (some (3, k))), (1, ps_ref (some (3, x0))), (2, ps_int (nI 1))]) ⟨rfl, rfl, rfl, trivial⟩ ?_
  refine pv_loop (ι := Nat × Nat) (fun x => (gI g k).length - x.1) (fun x => [(0, ps_ref (some (3, k))), (1, ps_ref (some (3, x.2))), (2, ps_int (nI x.1))]) (fun _ => σ) (fun x => x.1 ≤ (gI g k).length ∧ x.2 < gN g ∧ g_first g k = g_ft g x.2 ((gI g k).drop x.1)) (fun x hx ih => ?_) (1, x0) ⟨hne, hn0, g_first_0 hx0⟩
  obtain ⟨i, b⟩ := x
  obtain ⟨hi, hbn, hb⟩ := hx
  dsimp only at hi hbn hb ih ⊢
  refine pv_iload_n E d_Stage_firstSettledInput_9 rfl rfl ?_
  refine pv_aload_n E d_Stage_firstSettledInput_10 rfl rfl ?_
  refine gf_Stage_inputs E wd_482 d_Stage_firstSettledInput_11 ?_
  refine pv_top (congrArg ps_ref e6) ?_
  refine pv_alenR (t0 := 0) E 4 _ (fun _ _ _ _ _ => rfl) rfl rfl d_Stage_firstSettledInput_14 ?_
  refine pv_top (congrArg ps_int (show Int32.ofNat (ps_L σ 4 (3 + k)) = nI (gI g k).length by rw [e7]; rfl)) ?_
  refine pv_icmp_ge (tgt := 47) E d_Stage_firstSettledInput_15 rfl (fun h15 => ?_) (fun h15 => ?_)
  · skip
    have hi2 : (gI g k).length ≤ i := (nI_leI (by omega) (by omega)).mp h15
    have hcc : g_first g k = b := by rw [hb, List.drop_of_length_le hi2, g_ft]
    refine pv_aload_n E d_Stage_firstSettledInput_47 rfl rfl ?_
    exact pv_aret E hr (Or.inl ⟨_, rfl⟩) hlk d_Stage_firstSettledInput_48 (by decide) (by decide) ⟨by rw [hcc], rfl⟩
  · skip
    have hlt : i < (gI g k).length := Nat.lt_of_not_le (fun z => h15 ((nI_leI (by omega) (by omega)).mpr z))
    obtain ⟨x1, hx1, hm1⟩ := lget hlt
    have hn1 := (hW.2.2 k hk).2.1 x1 hm1
    have hs1 := hR.2.1 x1 hn1
    refine pv_aload_n E d_Stage_firstSettledInput_18 rfl rfl ?_
    refine gf_Stage_inputs E wd_482 d_Stage_firstSettledInput_19 ?_
    refine pv_top (congrArg ps_ref e6) ?_
    refine pv_iload_n E d_Stage_firstSettledInput_22 rfl rfl ?_
    refine pv_aaload (t0 := 0) E 4 _ (fun _ _ _ _ _ => rfl) rfl (by rw [e7]; exact vp_in_nI hlt (by omega)) d_Stage_firstSettledInput_23 ?_
    rw [nI_clamp (show i < 2 ^ 31 by omega)]
    refine pv_top (congrArg ps_ref (e8 i x1 hx1)) ?_
    refine gf_Stage_turn E wd_491 d_Stage_firstSettledInput_24 ?_
    refine pv_top (congrArg ps_int hs1.2.2.2.1) ?_
    refine pv_aload_n E d_Stage_firstSettledInput_27 rfl rfl ?_
    refine gf_Stage_turn E wd_491 d_Stage_firstSettledInput_28 ?_
    refine pv_top (congrArg ps_int (hR.2.1 b hbn).2.2.2.1) ?_
    refine pv_icmp_ge (tgt := 41) E d_Stage_firstSettledInput_31 rfl (fun h31 => ?_) (fun h31 => ?_)
    · skip
      refine pv_inc1 E d_Stage_firstSettledInput_41 rfl (by decide) ?_
      refine pv_goto (tgt := 9) E d_Stage_firstSettledInput_44 rfl ?_
      exact pv_back (ih (i + 1, b) ⟨by omega, hbn, hb.trans (by rw [ldrop hx1, g_ft, if_neg (Nat.not_lt.mpr ((nI_leI (hT b hbn) (hT x1 hn1)).mp h31))])⟩ (by show _ - (i + 1) < _ - i; omega)) ⟨rfl, rfl, congrArg (fun z : Int32 => some (ps_int z)) (nI_1 i), trivial⟩
    · skip
      refine pv_aload_n E d_Stage_firstSettledInput_34 rfl rfl ?_
      refine gf_Stage_inputs E wd_482 d_Stage_firstSettledInput_35 ?_
      refine pv_top (congrArg ps_ref e6) ?_
      refine pv_iload_n E d_Stage_firstSettledInput_38 rfl rfl ?_
      refine pv_aaload (t0 := 0) E 4 _ (fun _ _ _ _ _ => rfl) rfl (by rw [e7]; exact vp_in_nI hlt (by omega)) d_Stage_firstSettledInput_39 ?_
      rw [nI_clamp (show i < 2 ^ 31 by omega)]
      refine pv_top (congrArg ps_ref (e8 i x1 hx1)) ?_
      refine pv_astore_n E d_Stage_firstSettledInput_40 rfl (by decide) ?_
      refine pv_inc1 E d_Stage_firstSettledInput_41 rfl (by decide) ?_
      refine pv_goto (tgt := 9) E d_Stage_firstSettledInput_44 rfl ?_
      exact pv_back (ih (i + 1, x1) ⟨by omega, hn1, hb.trans (by rw [ldrop hx1, g_ft, if_pos (Nat.lt_of_not_le (fun z => h31 ((nI_leI (hT b hbn) (hT x1 hn1)).mpr z)))])⟩ (by show _ - (i + 1) < _ - i; omega)) ⟨rfl, rfl, congrArg (fun z : Int32 => some (ps_int z)) (nI_1 i), trivial⟩
end
section
/-! The class's graph under the writes of its methods. -/
theorem ps_I_f (σ : ps_S) {κ i f : Nat} {v : Int32} (a : Nat) {j : Nat} (h : j ≠ f) : ps_I (ps_sI σ κ i f v) κ a j = ps_I σ κ a j := by
  rw [ps_I_sI]
  exact if_neg (fun z : κ = κ ∧ a = i ∧ j = f => h z.2.2)
theorem ps_I_ne (σ : ps_S) {κ i f : Nat} {v : Int32} {a : Nat} (j : Nat) (h : a ≠ i) : ps_I (ps_sI σ κ i f v) κ a j = ps_I σ κ a j := by
  rw [ps_I_sI]
  exact if_neg (fun z : κ = κ ∧ a = i ∧ j = f => h z.2.1)
theorem ps_I_eq (σ : ps_S) (κ i f : Nat) (v : Int32) : ps_I (ps_sI σ κ i f v) κ i f = v := by
  rw [ps_I_sI]
  exact if_pos ⟨rfl, rfl, rfl⟩
theorem ps_I_k (σ : ps_S) {κ i f : Nat} {v : Int32} {a b c : Nat} (h : a ≠ κ) : ps_I (ps_sI σ κ i f v) a b c = ps_I σ a b c := by
  rw [ps_I_sI]
  exact if_neg (fun z : a = κ ∧ b = i ∧ c = f => h z.1)
theorem ps_R_k (σ : ps_S) {κ i f : Nat} {v : Option (Nat × Nat)} {a b c : Nat} (h : a ≠ κ) : ps_R (ps_sR σ κ i f v) a b c = ps_R σ a b c := by
  rw [ps_R_sR]
  exact if_neg (fun z : a = κ ∧ b = i ∧ c = f => h z.1)
theorem ps_R_f (σ : ps_S) {κ i f : Nat} {v : Option (Nat × Nat)} (a : Nat) {j : Nat} (h : j ≠ f) : ps_R (ps_sR σ κ i f v) κ a j = ps_R σ κ a j := by
  rw [ps_R_sR]
  exact if_neg (fun z : κ = κ ∧ a = i ∧ j = f => h z.2.2)
theorem ps_R_ne (σ : ps_S) {κ i f : Nat} {v : Option (Nat × Nat)} {a : Nat} (j : Nat) (h : a ≠ i) : ps_R (ps_sR σ κ i f v) κ a j = ps_R σ κ a j := by
  rw [ps_R_sR]
  exact if_neg (fun z : κ = κ ∧ a = i ∧ j = f => h z.2.1)
theorem ps_R_eq (σ : ps_S) (κ i f : Nat) (v : Option (Nat × Nat)) : ps_R (ps_sR σ κ i f v) κ i f = v := by
  rw [ps_R_sR]
  exact if_pos ⟨rfl, rfl, rfl⟩
theorem gF_f (g : gT) {k f : Nat} {v : Int32} (a : Nat) {c : Nat} (h : c ≠ f) : gF (gsF g k f v) a c = gF g a c := by
  rw [gF_sF]
  exact if_neg (fun z : a = k ∧ c = f => h z.2)
theorem gF_ne (g : gT) {k f : Nat} {v : Int32} {a : Nat} (c : Nat) (h : a ≠ k) : gF (gsF g k f v) a c = gF g a c := by
  rw [gF_sF]
  exact if_neg (fun z : a = k ∧ c = f => h z.1)
theorem gF_eq (g : gT) (k f : Nat) (v : Int32) : gF (gsF g k f v) k f = v := by
  rw [gF_sF]
  exact if_pos ⟨rfl, rfl⟩
theorem RQ.I {σ : ps_S} {q r i f : Nat} {x : List Nat} {v : Int32} {κ : Nat} (h : RQ σ q r x) (hκ : 2 ≠ κ) : RQ (ps_sI σ κ i f v) q r x := by
  obtain ⟨h1, h2, h3, h4, f0, h5, h6, h7⟩ := h
  exact ⟨h1, h2, h3, (ps_I_k σ hκ).trans h4, f0, h5, (ps_I_k σ hκ).trans h6, h7⟩
theorem RC0.I {σ : ps_S} {g g' : gT} {i f : Nat} {v : Int32} {κ : Nat} (h : RC0 σ g) (hκ : 1 ≠ κ) (h1 : gN g' = gN g) (h2 : gC g' = gC g) : RC0 (ps_sI σ κ i f v) g' := by
  obtain ⟨a1, a2, a3, a4, a5, a6, a7, a8, a9⟩ := h
  exact ⟨a1, a2, a3, by rw [h1]; exact (ps_I_k σ hκ).trans a4, by rw [h2]; exact (ps_I_k σ hκ).trans a5, a6, a7, a8, by rw [h1]; exact a9⟩
theorem RC.que {σ : ps_S} {g : gT} (h : RC σ g) (k : Nat) (v : Int32) : RC (ps_sI σ 3 k 10 v) (gsF g k 6 v) := by
  obtain ⟨h0, h1, h2, h3⟩ := h
  refine ⟨h0.I (by decide) rfl rfl, fun a ha => ?_, h2.I (by decide), h3.I (by decide)⟩
  obtain ⟨⟨e0, e1, e2, e3, e4, e5, e6, e7, e8⟩, e9, e10, e11, e12, e13⟩ := h1 a ha
  have et : g_tv (gsF g k 6 v) a = g_tv g a := by
    unfold g_tv
    rw [gF_f g a (by decide)]
    rfl
  refine ⟨⟨e0, (ps_I_f σ a (by decide)).trans e1, ?_, ?_, ?_, ?_, e6, e7, e8⟩, ?_, ?_, ?_, e12, ?_⟩
  · rw [gF_f g a (by decide)]; exact (ps_I_f σ a (by decide)).trans e2
  · rw [gF_f g a (by decide)]; exact (ps_I_f σ a (by decide)).trans e3
  · rw [gF_f g a (by decide)]; exact (ps_I_f σ a (by decide)).trans e4
  · rw [gF_f g a (by decide)]; exact (ps_I_f σ a (by decide)).trans e5
  · rw [gF_f g a (by decide)]; exact (ps_I_f σ a (by decide)).trans e9
  · rw [gF_f g a (by decide)]; exact (ps_I_f σ a (by decide)).trans e10
  · rw [et]; exact (ps_I_f σ a (by decide)).trans e11
  · by_cases hk : a = k
    · subst hk
      rw [ps_I_eq, gF_eq]
    · rw [ps_I_ne σ _ hk, gF_ne g _ hk]
      exact e13
/-- a stage awaits another -/
theorem RC.awa {σ : ps_S} {g : gT} (h : RC σ g) (k : Nat) (r : Option Nat) : RC (ps_sR σ 3 k 9 (r.map fun j => (3, j))) (gsA g k r) := by
  obtain ⟨⟨a1, a2, a3, a4, a5, a6, a7, a8, a9⟩, h1, h2, h3⟩ := h
  have rq : ∀ {q r0 : Nat} {x : List Nat}, RQ σ q r0 x → RQ (ps_sR σ 3 k 9 (r.map fun j => (3, j))) q r0 x := by
    intro q r0 x h
    obtain ⟨h1, h2, h3, h4, f0, h5, h6, h7⟩ := h
    exact ⟨(ps_R_k σ (by decide)).trans h1, h2, h3, h4, f0, h5, h6, fun i z hi => (ps_R_k σ (by decide)).trans (h7 i z hi)⟩
  refine ⟨⟨(ps_R_k σ (by decide)).trans a1, (ps_R_k σ (by decide)).trans a2, (ps_R_k σ (by decide)).trans a3, a4, a5, a6, a7, a8, a9⟩, fun a ha => ?_, rq h2, rq h3⟩
  obtain ⟨⟨e0, e1, e2, e3, e4, e5, e6, e7, e8⟩, e9, e10, e11, e12, e13⟩ := h1 a ha
  refine ⟨⟨(ps_R_k σ (by decide)).trans e0, e1, e2, e3, e4, e5, (ps_R_f σ a (by decide)).trans e6, e7, fun j i hj => (ps_R_k σ (by decide)).trans (e8 j i hj)⟩, e9, e10, e11, ?_, e13⟩
  by_cases hk : a = k
  · subst hk
    rw [ps_R_eq]
    show _ = (va_up (gA g) a r a).map _
    rw [va_up_self]
  · rw [ps_R_ne σ _ hk]
    show _ = (va_up (gA g) k r a).map _
    rw [va_up_ne _ _ hk]
    exact e12
/-- its outcome and its turn -/
def st_note (σ : ps_S) (k : Nat) : ps_S := ps_sI (ps_sI σ 3 k 8 (ps_I σ 1 0 4)) 1 0 4 (ps_I σ 1 0 4 + 1)
theorem RC.set {σ : ps_S} {g : gT} (h : RC σ g) (k : Nat) (u v : Int32) (hu : ¬ u = 0) : RC (st_note (st_become σ k u v) k) (gsU (gsS g k u v) k) := by
  obtain ⟨⟨a1, a2, a3, a4, a5, a6, a7, a8, a9⟩, h1, h2, h3⟩ := h
  have hc : ps_I (st_become σ k u v) 1 0 4 = nI (gC g) := by
    unfold st_become
    rw [ps_I_k _ (by decide), ps_I_k _ (by decide)]
    exact a5
  refine ⟨⟨a1, a2, a3, ?_, ?_, a6, a7, a8, a9⟩, fun a ha => ?_, ?_, ?_⟩
  · unfold st_note st_become
    rw [ps_I_f _ _ (by decide), ps_I_k _ (by decide), ps_I_k _ (by decide), ps_I_k _ (by decide)]
    exact a4
  · unfold st_note
    rw [ps_I_eq, hc, nI_1]
    rfl
  · obtain ⟨⟨e0, e1, e2, e3, e4, e5, e6, e7, e8⟩, e9, e10, e11, e12, e13⟩ := h1 a ha
    have key : ∀ j, j ≠ 6 → j ≠ 7 → j ≠ 8 → ps_I (st_note (st_become σ k u v) k) 3 a j = ps_I σ 3 a j := by
      intro j p1 p2 p3
      unfold st_note
      rw [ps_I_k _ (by decide), ps_I_f _ _ p3]
      unfold st_become
      rw [ps_I_f _ _ p2, ps_I_f _ _ p1]
    have keyF : ∀ c, c ≠ 0 → c ≠ 1 → gF (gsU (gsS g k u v) k) a c = gF g a c := by
      intro c p1 p2
      show gF (gsF (gsF g k 0 u) k 1 v) a c = _
      rw [gF_f _ _ p2, gF_f _ _ p1]
    refine ⟨⟨e0, (key 0 (by decide) (by decide) (by decide)).trans e1, ?_, ?_, ?_, ?_, e6, e7, e8⟩, ?_, ?_, ?_, e12, ?_⟩
    · rw [key 1 (by decide) (by decide) (by decide), keyF 2 (by decide) (by decide)]; exact e2
    · rw [key 2 (by decide) (by decide) (by decide), keyF 3 (by decide) (by decide)]; exact e3
    · rw [key 3 (by decide) (by decide) (by decide), keyF 4 (by decide) (by decide)]; exact e4
    · rw [key 4 (by decide) (by decide) (by decide), keyF 5 (by decide) (by decide)]; exact e5
    · unfold st_note
      rw [ps_I_k _ (by decide), ps_I_f _ _ (by decide)]
      unfold st_become
      rw [ps_I_f _ _ (by decide)]
      show _ = gF (gsF (gsF g k 0 u) k 1 v) a 0
      rw [gF_f _ _ (by decide)]
      by_cases hk : a = k
      · subst hk; rw [ps_I_eq, gF_eq]
      · rw [ps_I_ne _ _ hk, gF_ne _ _ hk]; exact e9
    · unfold st_note
      rw [ps_I_k _ (by decide), ps_I_f _ _ (by decide)]
      unfold st_become
      show _ = gF (gsF (gsF g k 0 u) k 1 v) a 1
      by_cases hk : a = k
      · subst hk; rw [ps_I_eq, gF_eq]
      · rw [ps_I_ne _ _ hk, gF_ne _ _ hk, ps_I_ne _ _ hk, gF_ne _ _ hk]; exact e10
    · unfold st_note
      rw [ps_I_k _ (by decide), hc]
      by_cases hk : a = k
      · subst hk
        rw [ps_I_eq]
        have hz : ¬ gF (gsU (gsS g a u v) a) a 0 = 0 := by
          show ¬ gF (gsF (gsF g a 0 u) a 1 v) a 0 = 0
          rw [gF_f _ _ (by decide), gF_eq]
          exact hu
        rw [g_tv, if_neg hz]
        show nI (gC g) = nI (va_up (gU g) a (gC g) a)
        rw [va_up_self]
      · rw [ps_I_ne _ _ hk]
        unfold st_become
        rw [ps_I_ne _ _ hk, ps_I_ne _ _ hk, e11]
        have hz : gF (gsU (gsS g k u v) k) a 0 = gF g a 0 := by
          show gF (gsF (gsF g k 0 u) k 1 v) a 0 = _
          rw [gF_ne _ _ hk, gF_ne _ _ hk]
        have hy : gU (gsU (gsS g k u v) k) a = gU g a := by
          show va_up (gU g) k (gC g) a = _
          rw [va_up_ne _ _ hk]
        rw [g_tv, g_tv, hz, hy]
    · rw [key 10 (by decide) (by decide) (by decide), keyF 6 (by decide) (by decide)]; exact e13
  · exact (((h2.I (by decide)).I (by decide)).I (by decide)).I (by decide)
  · exact (((h3.I (by decide)).I (by decide)).I (by decide)).I (by decide)
theorem ix_inj {f i j : Nat} (hf : f < 48) (hi : i < 48) (hj : j < 48) (h : (f + i) % 48 = (f + j) % 48) : i = j := by omega
/-- one more in a queue -/
theorem RQ.app {σ : ps_S} {q r k f : Nat} {x : List Nat} (h1 : ps_R σ 2 q 0 = some (4, r)) (h2 : ps_L σ 4 r = 48) (hx : x.length < 48) (h4 : ps_I σ 2 q 2 = nI x.length) (hf : f < 48) (h6 : ps_I σ 2 q 1 = nI f) (h7 : ∀ i k, x[i]? = some k → ps_R σ 4 r ((f + i) % 48) = some (3, k)) :
    RQ (q_app σ q r k f x.length) q r (x ++ [k]) := by
  unfold q_app
  rw [if_pos hx]
  refine ⟨(ps_R_k σ (by decide)).trans h1, h2, by simp; omega, by rw [ps_I_eq]; simp, f, hf, (ps_I_f _ _ (by decide)).trans h6, fun i k' hi => ?_⟩
  show ps_R (ps_sR σ 4 r ((f + x.length) % 48) (some (3, k))) 4 r ((f + i) % 48) = _
  by_cases hl : i < x.length
  · rw [List.getElem?_append_left hl] at hi
    rw [ps_R_f σ r (fun z => by have := ix_inj hf (by omega) hx z; omega)]
    exact h7 i k' hi
  · rw [List.getElem?_append_right (by omega)] at hi
    have hz : i - x.length < 1 := (List.getElem?_eq_some_iff.mp hi).1
    have hi0 : i = x.length := by omega
    subst hi0
    rw [Nat.sub_self] at hi
    cases hi
    rw [ps_R_eq]
theorem RQ.other {σ : ps_S} {q r q' r' k f n : Nat} {x : List Nat} (h : RQ σ q' r' x) (hq : q' ≠ q) (hr : r' ≠ r) : RQ (q_app σ q r k f n) q' r' x := by
  obtain ⟨h1, h2, h3, h4, f0, h5, h6, h7⟩ := h
  unfold q_app
  split
  · exact ⟨(ps_R_k σ (by decide)).trans h1, h2, h3, (ps_I_ne _ _ hq).trans h4, f0, h5, (ps_I_ne _ _ hq).trans h6, fun i k' hi => (ps_R_ne σ _ hr).trans (h7 i k' hi)⟩
  · exact ⟨h1, h2, h3, h4, f0, h5, h6, h7⟩
theorem RS.app {σ : ps_S} {g g' : gT} {q r k f n a : Nat} (h : RS σ g a) (hr : r = 1 ∨ r = 2) (hg : gF g' = gF g ∧ gI g' = gI g ∧ gA g' = gA g ∧ gU g' = gU g) : RS (q_app σ q r k f n) g' a := by
  obtain ⟨⟨e0, e1, e2, e3, e4, e5, e6, e7, e8⟩, e9, e10, e11, e12, e13⟩ := h
  obtain ⟨g1, g2, g3, g4⟩ := hg
  have ht : g_tv g' a = g_tv g a := by rw [g_tv, g_tv, g1, g4]
  have n0 : (0 : Nat) ≠ r := by omega
  have n3 : 3 + a ≠ r := by omega
  unfold q_app
  split
  · refine ⟨⟨(ps_R_ne σ _ n0).trans e0, (ps_I_k _ (by decide)).trans e1, ?_, ?_, ?_, ?_, (ps_R_k σ (by decide)).trans e6, by rw [g2]; exact e7, fun j i hj => (ps_R_ne σ _ n3).trans (e8 j i (by rw [← g2]; exact hj))⟩, ?_, ?_, ?_, ?_, ?_⟩
    · rw [g1]; exact (ps_I_k _ (by decide)).trans e2
    · rw [g1]; exact (ps_I_k _ (by decide)).trans e3
    · rw [g1]; exact (ps_I_k _ (by decide)).trans e4
    · rw [g1]; exact (ps_I_k _ (by decide)).trans e5
    · rw [g1]; exact (ps_I_k _ (by decide)).trans e9
    · rw [g1]; exact (ps_I_k _ (by decide)).trans e10
    · rw [ht]; exact (ps_I_k _ (by decide)).trans e11
    · rw [g3]; exact (ps_R_k σ (by decide)).trans e12
    · rw [g1]; exact (ps_I_k _ (by decide)).trans e13
  · exact ⟨⟨e0, e1, by rw [g1]; exact e2, by rw [g1]; exact e3, by rw [g1]; exact e4, by rw [g1]; exact e5, e6, by rw [g2]; exact e7, fun j i hj => e8 j i (by rw [← g2]; exact hj)⟩, by rw [g1]; exact e9, by rw [g1]; exact e10, by rw [ht]; exact e11, by rw [g3]; exact e12, by rw [g1]; exact e13⟩
theorem RC0.app {σ : ps_S} {g g' : gT} {q r k f n : Nat} (h : RC0 σ g) (h1 : gN g' = gN g) (h2 : gC g' = gC g) : RC0 (q_app σ q r k f n) g' := by
  obtain ⟨a1, a2, a3, a4, a5, a6, a7, a8, a9⟩ := h
  unfold q_app
  split
  · exact ⟨(ps_R_k σ (by decide)).trans a1, (ps_R_k σ (by decide)).trans a2, (ps_R_k σ (by decide)).trans a3, by rw [h1]; exact (ps_I_k _ (by decide)).trans a4, by rw [h2]; exact (ps_I_k _ (by decide)).trans a5, a6, a7, a8, by rw [h1]; exact a9⟩
  · exact ⟨a1, a2, a3, by rw [h1]; exact a4, by rw [h2]; exact a5, a6, a7, a8, by rw [h1]; exact a9⟩
/-- one more in the line; in the pool -/
theorem RC.line {σ : ps_S} {g : gT} {k f : Nat} (h : RC σ g) (hx : (gL g).length < 48) (hf : f < 48) (h6 : ps_I σ 2 0 1 = nI f) (h7 : ∀ i k, (gL g)[i]? = some k → ps_R σ 4 1 ((f + i) % 48) = some (3, k)) : RC (q_app σ 0 1 k f (gL g).length) (gsL g (gL g ++ [k])) := by
  obtain ⟨h0, h1, h2, h3⟩ := h
  exact ⟨h0.app rfl rfl, fun a ha => (h1 a ha).app (Or.inl rfl) ⟨rfl, rfl, rfl, rfl⟩, RQ.app h2.1 h2.2.1 hx h2.2.2.2.1 hf h6 h7, h3.other (by decide) (by decide)⟩
theorem RC.pool {σ : ps_S} {g : gT} {k f : Nat} (h : RC σ g) (hx : (gP g).length < 48) (hf : f < 48) (h6 : ps_I σ 2 1 1 = nI f) (h7 : ∀ i k, (gP g)[i]? = some k → ps_R σ 4 2 ((f + i) % 48) = some (3, k)) : RC (q_app σ 1 2 k f (gP g).length) (gsP g (gP g ++ [k])) := by
  obtain ⟨h0, h1, h2, h3⟩ := h
  exact ⟨h0.app rfl rfl, fun a ha => (h1 a ha).app (Or.inr rfl) ⟨rfl, rfl, rfl, rfl⟩, h2.other (by decide) (by decide), RQ.app h3.1 h3.2.1 hx h3.2.2.2.1 hf h6 h7⟩
/-- the front of a queue taken -/
theorem RQ.take {σ : ps_S} {q r k f : Nat} {x : List Nat} (h1 : ps_R σ 2 q 0 = some (4, r)) (h2 : ps_L σ 4 r = 48) (hx : (k :: x).length ≤ 48) (hf : f < 48) (h7 : ∀ i z, (k :: x)[i]? = some z → ps_R σ 4 r ((f + i) % 48) = some (3, z)) : RQ (q_take σ q f (x.length + 1)) q r x := by
  unfold q_take
  rw [if_neg (by omega)]
  have hl : x.length + 1 ≤ 48 := hx
  refine ⟨h1, h2, by omega, by rw [ps_I_eq]; rfl, (f + 1) % 48, by omega, by rw [ps_I_f _ _ (by decide), ps_I_eq], fun i z hi => ?_⟩
  have := h7 (i + 1) z (by rw [List.getElem?_cons_succ]; exact hi)
  rw [← this]
  show ps_R σ 4 r (((f + 1) % 48 + i) % 48) = ps_R σ 4 r ((f + (i + 1)) % 48)
  rw [show ((f + 1) % 48 + i) % 48 = (f + (i + 1)) % 48 by omega]
theorem RQ.other2 {σ : ps_S} {q q' r' f n : Nat} {x : List Nat} (h : RQ σ q' r' x) (hq : q' ≠ q) : RQ (q_take σ q f n) q' r' x := by
  obtain ⟨h1, h2, h3, h4, f0, h5, h6, h7⟩ := h
  unfold q_take
  split
  · exact ⟨h1, h2, h3, h4, f0, h5, h6, h7⟩
  · exact ⟨h1, h2, h3, by rw [ps_I_ne _ _ hq, ps_I_ne _ _ hq]; exact h4, f0, h5, by rw [ps_I_ne _ _ hq, ps_I_ne _ _ hq]; exact h6, h7⟩
theorem RS.tk {σ : ps_S} {g g' : gT} {q f n a : Nat} (h : RS σ g a) (hg : gF g' = gF g ∧ gI g' = gI g ∧ gA g' = gA g ∧ gU g' = gU g) : RS (q_take σ q f n) g' a := by
  obtain ⟨⟨e0, e1, e2, e3, e4, e5, e6, e7, e8⟩, e9, e10, e11, e12, e13⟩ := h
  obtain ⟨g1, g2, g3, g4⟩ := hg
  have ht : g_tv g' a = g_tv g a := by rw [g_tv, g_tv, g1, g4]
  have key : ∀ j, ps_I (q_take σ q f n) 3 a j = ps_I σ 3 a j := by
    intro j
    unfold q_take
    split
    · rfl
    · rw [ps_I_k _ (by decide), ps_I_k _ (by decide)]
  have kr : ps_R (q_take σ q f n) = ps_R σ := by unfold q_take; split <;> rfl
  have kl : ps_L (q_take σ q f n) = ps_L σ := by unfold q_take; split <;> rfl
  unfold RS
  simp only [key, kr, kl, g1, g2, g3, ht]
  exact ⟨⟨e0, e1, e2, e3, e4, e5, e6, e7, e8⟩, e9, e10, e11, e12, e13⟩
theorem RC0.tk {σ : ps_S} {g g' : gT} {q f n : Nat} (h : RC0 σ g) (h1 : gN g' = gN g) (h2 : gC g' = gC g) : RC0 (q_take σ q f n) g' := by
  obtain ⟨a1, a2, a3, a4, a5, a6, a7, a8, a9⟩ := h
  unfold q_take
  split
  · exact ⟨a1, a2, a3, by rw [h1]; exact a4, by rw [h2]; exact a5, a6, a7, a8, by rw [h1]; exact a9⟩
  · exact ⟨a1, a2, a3, by rw [h1, ps_I_k _ (by decide), ps_I_k _ (by decide)]; exact a4, by rw [h2, ps_I_k _ (by decide), ps_I_k _ (by decide)]; exact a5, a6, a7, a8, by rw [h1]; exact a9⟩
theorem RC.tline {σ : ps_S} {g : gT} {k f : Nat} {x : List Nat} (h : RC σ g) (hx : gL g = k :: x) (hf : f < 48) (h7 : ∀ i z, (gL g)[i]? = some z → ps_R σ 4 1 ((f + i) % 48) = some (3, z)) : RC (q_take σ 0 f (gL g).length) (gsL g x) := by
  obtain ⟨h0, h1, h2, h3⟩ := h
  rw [hx] at h2 h7 ⊢
  exact ⟨h0.tk rfl rfl, fun a ha => (h1 a ha).tk ⟨rfl, rfl, rfl, rfl⟩, RQ.take h2.1 h2.2.1 h2.2.2.1 hf h7, h3.other2 (by decide)⟩
theorem RC.tpool {σ : ps_S} {g : gT} {k f : Nat} {x : List Nat} (h : RC σ g) (hx : gP g = k :: x) (hf : f < 48) (h7 : ∀ i z, (gP g)[i]? = some z → ps_R σ 4 2 ((f + i) % 48) = some (3, z)) : RC (q_take σ 1 f (gP g).length) (gsP g x) := by
  obtain ⟨h0, h1, h2, h3⟩ := h
  rw [hx] at h3 h7 ⊢
  exact ⟨h0.tk rfl rfl, fun a ha => (h1 a ha).tk ⟨rfl, rfl, rfl, rfl⟩, h2.other2 (by decide), RQ.take h3.1 h3.2.1 h3.2.2.1 hf h7⟩
end
section
/-! What the graph's own changes keep. -/
theorem sumN_le {f : Nat → Nat} {c : Nat} (h : ∀ k, f k ≤ c) : ∀ m, sumN f m ≤ c * m
  | 0 => by simp [sumN]
  | m + 1 => by
    have := sumN_le h m
    have := h m
    rw [sumN, Nat.mul_succ]
    omega
theorem sumN_congr {f f' : Nat → Nat} : ∀ m, (∀ k, k < m → f' k = f k) → sumN f' m = sumN f m
  | 0, _ => rfl
  | m + 1, h => by rw [sumN, sumN, sumN_congr m (fun k hk => h k (by omega)), h m (by omega)]
theorem sumN_upd {f f' : Nat → Nat} {k : Nat} (h : ∀ a, a ≠ k → f' a = f a) : ∀ m, k < m → sumN f' m + f k = sumN f m + f' k
  | 0, hk => by omega
  | m + 1, hk => by
    rw [sumN, sumN]
    by_cases hm : k = m
    · subst hm
      rw [sumN_congr k (fun a ha => h a (by omega))]
      omega
    · have := sumN_upd h m (by omega)
      rw [h m (fun z => hm z.symm)]
      omega
theorem nodup_le : ∀ (n : Nat) (l : List Nat), l.Nodup → (∀ x, x ∈ l → x < n) → l.length ≤ n
  | 0, l, _, h => by
    cases l with
    | nil => exact Nat.le_refl _
    | cons a r => exact absurd (h a List.mem_cons_self) (by omega)
  | n + 1, l, hn, h => by
    by_cases hm : n ∈ l
    · have h1 := nodup_le n (l.erase n) (hn.erase n) (fun x hx => by
        have h2 := (hn.mem_erase_iff).mp hx
        have := h x h2.2
        have := h2.1
        omega)
      rw [List.length_erase_of_mem hm] at h1
      omega
    · have := nodup_le n l hn (fun x hx => by
        have := h x hx
        have : x ≠ n := fun z => hm (z ▸ hx)
        omega)
      omega
theorem gW.c96 {g : gT} (h : gW g) : gC g ≤ 96 := by
  have := h.1
  have := h.2.1.1
  unfold gE at this
  omega
theorem gQ.lt {g : gT} (h : gQ g) (hn : gN g ≤ 48) {k : Nat} (hk : k < gN g) (h0 : gF g k 6 = 0) : (gL g).length < 48 ∧ (gP g).length < 48 := by
  have hno : k ∉ gL g ++ gP g := fun z => (h.2 k z).2.1 h0
  have h1 := nodup_le (gN g) (k :: (gL g ++ gP g)) (List.nodup_cons.mpr ⟨hno, h.1⟩) (fun x hx => by
    rcases List.mem_cons.mp hx with rfl | hx
    · exact hk
    · exact (h.2 x hx).1)
  rw [List.length_cons, List.length_append] at h1
  omega
theorem gN_sc1 (g : gT) (k : Nat) : gN (g_sc1 g k) = gN g := by
  unfold g_sc1
  split
  · split <;> rfl
  · rfl
theorem gN_scN (g : gT) : ∀ m, gN (g_scN g m) = gN g
  | 0 => rfl
  | m + 1 => by rw [g_scN, gN_sc1, gN_scN g m]
/-- a change that leaves all but 'queued' and the queues as it was -/
def gSame (g g' : gT) : Prop := gN g' = gN g ∧ gI g' = gI g ∧ gA g' = gA g ∧ gU g' = gU g ∧ gC g' = gC g ∧ ∀ a c, c ≠ 6 → gF g' a c = gF g a c
theorem gSame.rf (g : gT) : gSame g g := ⟨rfl, rfl, rfl, rfl, rfl, fun _ _ _ => rfl⟩
theorem gSame.tr {a b c : gT} (h1 : gSame a b) (h2 : gSame b c) : gSame a c :=
  ⟨h2.1.trans h1.1, h2.2.1.trans h1.2.1, h2.2.2.1.trans h1.2.2.1, h2.2.2.2.1.trans h1.2.2.2.1, h2.2.2.2.2.1.trans h1.2.2.2.2.1, fun a c h => (h2.2.2.2.2.2 a c h).trans (h1.2.2.2.2.2 a c h)⟩
theorem gSame.que (g : gT) (k : Nat) (v : Int32) : gSame g (gsF g k 6 v) := ⟨rfl, rfl, rfl, rfl, rfl, fun a c h => gF_f g a h⟩
theorem gSame.sc1 (g : gT) (k : Nat) : gSame g (g_sc1 g k) := by
  unfold g_sc1
  split
  · split
    · exact (gSame.que g k 1).tr ⟨rfl, rfl, rfl, rfl, rfl, fun _ _ _ => rfl⟩
    · exact (gSame.que g k 1).tr ⟨rfl, rfl, rfl, rfl, rfl, fun _ _ _ => rfl⟩
  · exact gSame.rf g
theorem gSame.scN (g : gT) : ∀ m, gSame g (g_scN g m)
  | 0 => gSame.rf g
  | m + 1 => (gSame.scN g m).tr (gSame.sc1 _ m)
theorem gSame.scan (g : gT) : gSame g (g_scan g) := gSame.scN g _
theorem gSame.ph {g g' : gT} (h : gSame g g') : g_ph g' = g_ph g := by
  funext k
  rw [g_ph, g_ph, h.2.2.1, h.2.2.2.2.2 k 0 (by decide)]
theorem gSame.W {g g' : gT} (h : gSame g g') (hW : gW g) : gW g' := by
  obtain ⟨h1, h2, h3, h4, h5, h6⟩ := h
  refine ⟨by rw [h1]; exact hW.1, ⟨?_, fun k => by rw [h4]; exact hW.2.1.2 k⟩, fun k hk => ?_⟩
  · unfold gE
    rw [gSame.ph ⟨h1, h2, h3, h4, h5, h6⟩, h1, h5]
    exact hW.2.1.1
  · rw [h1, h2, h3]
    rw [h1] at hk
    exact hW.2.2 k hk
theorem gSame.K {g g' : gT} (h : gSame g g') (hK : gK g) : gK g' := by
  intro k hk
  rw [h.1] at hk
  rw [h.2.1, h.2.2.2.2.2 k 2 (by decide)]
  exact hK k hk
theorem gQ.sc1 {g : gT} {k : Nat} (h : gQ g) (hk : k < gN g) : gQ (g_sc1 g k) := by
  unfold g_sc1
  split
  next hc =>
    have hno : k ∉ gL g ++ gP g := fun z => (h.2 k z).2.1 hc.1
    have h9 : ¬ gF g k 2 = 9 := by
      intro z
      have := hc.2
      simp [g_able, z] at this
    have hmem : ∀ x, (x ∈ gL g ++ gP g ∨ x = k) → x < gN g ∧ ¬ gF (gsF g k 6 1) x 6 = 0 ∧ ¬ gF (gsF g k 6 1) x 2 = 9 := by
      intro x hx
      rw [gF_f g x (show (2 : Nat) ≠ 6 by decide)]
      by_cases hxk : x = k
      · subst hxk
        rw [gF_eq]
        exact ⟨hk, by decide, h9⟩
      · rcases hx with hx | hx
        · rw [gF_ne g _ hxk]
          exact h.2 x hx
        · exact absurd hx hxk
    have hnd := List.nodup_append.mp h.1
    have hkL : k ∉ gL g := fun z => hno (List.mem_append_left _ z)
    have hkP : k ∉ gP g := fun z => hno (List.mem_append_right _ z)
    split
    · refine ⟨?_, fun x hx => hmem x ?_⟩
      · show (gL g ++ (gP g ++ [k])).Nodup
        rw [← List.append_assoc]
        refine List.nodup_append.mpr ⟨h.1, by simp, fun a ha b hb => ?_⟩
        rw [List.mem_singleton] at hb
        subst hb
        exact fun z => hno (z ▸ ha)
      · have hx' : x ∈ gL g ++ (gP g ++ [k]) := hx
        rw [← List.append_assoc] at hx'
        rcases List.mem_append.mp hx' with h1 | h1
        · exact Or.inl h1
        · exact Or.inr (List.mem_singleton.mp h1)
    · refine ⟨?_, fun x hx => hmem x ?_⟩
      · show ((gL g ++ [k]) ++ gP g).Nodup
        refine List.nodup_append.mpr ⟨List.nodup_append.mpr ⟨hnd.1, by simp, fun a ha b hb => ?_⟩, hnd.2.1, fun a ha b hb => ?_⟩
        · rw [List.mem_singleton] at hb
          subst hb
          exact fun z => hkL (z ▸ ha)
        · rcases List.mem_append.mp ha with h1 | h1
          · exact hnd.2.2 a h1 b hb
          · rw [List.mem_singleton] at h1
            subst h1
            exact fun z => hkP (z ▸ hb)
      · have hx' : x ∈ (gL g ++ [k]) ++ gP g := hx
        rcases List.mem_append.mp hx' with h1 | h1
        · rcases List.mem_append.mp h1 with h2 | h2
          · exact Or.inl (List.mem_append_left _ h2)
          · exact Or.inr (List.mem_singleton.mp h2)
        · exact Or.inl (List.mem_append_right _ h1)
  next hc => exact h
theorem gOK.scN {g : gT} (h : gOK g) : ∀ m, m ≤ gN g → gOK (g_scN g m)
  | 0, _ => h
  | m + 1, hm => by
    have ih := gOK.scN h m (by omega)
    exact ⟨(gSame.sc1 _ m).W ih.1, (gSame.sc1 _ m).K ih.2.1, gQ.sc1 ih.2.2 (by rw [gN_scN]; omega)⟩
theorem gOK.scan {g : gT} (h : gOK g) : gOK (g_scan g) := gOK.scN h _ (Nat.le_refl _)
/-- a pending stage gets its outcome -/
theorem gOK.set {g : gT} (h : gOK g) {k : Nat} {u v : Int32} (hk : k < gN g) (h0 : gF g k 0 = 0) (hu : ¬ u = 0) : gOK (gsU (gsS g k u v) k) := by
  obtain ⟨hW, hK, hQ⟩ := h
  have keyF : ∀ a c, c ≠ 0 → c ≠ 1 → gF (gsU (gsS g k u v) k) a c = gF g a c := by
    intro a c p1 p2
    show gF (gsF (gsF g k 0 u) k 1 v) a c = _
    rw [gF_f _ _ p2, gF_f _ _ p1]
  have hs : ∀ a, gF (gsU (gsS g k u v) k) a 0 = if a = k then u else gF g a 0 := by
    intro a
    show gF (gsF (gsF g k 0 u) k 1 v) a 0 = _
    rw [gF_f _ _ (by decide), gF_sF]
    by_cases ha : a = k
    · rw [if_pos ⟨ha, rfl⟩, if_pos ha]
    · rw [if_neg (fun z : a = k ∧ 0 = 0 => ha z.1), if_neg ha]
  refine ⟨⟨hW.1, ⟨?_, fun a => ?_⟩, hW.2.2⟩, fun a ha => ?_, hQ.1, fun a ha => ?_⟩
  · have h1 := sumN_upd (f := g_ph g) (f' := g_ph (gsU (gsS g k u v) k)) (k := k) (fun a ha => by
      rw [g_ph, g_ph, hs, if_neg ha]
      rfl) (gN g) hk
    have h2 : g_ph (gsU (gsS g k u v) k) k = 0 := by rw [g_ph, hs, if_pos rfl, if_neg hu]
    have h3 : 1 ≤ g_ph g k := by
      rw [g_ph, if_pos h0]
      split <;> omega
    have h4 := hW.2.1.1
    unfold gE at h4 ⊢
    show gC g + 1 + sumN (g_ph (gsU (gsS g k u v) k)) (gN g) ≤ 2 * gN g
    omega
  · show va_up (gU g) k (gC g) a ≤ 96
    by_cases ha : a = k
    · subst ha
      rw [va_up_self]
      exact hW.c96
    · rw [va_up_ne _ _ ha]
      exact hW.2.1.2 a
  · rw [keyF a 2 (by decide) (by decide)]
    exact hK a ha
  · rw [keyF a 6 (by decide) (by decide), keyF a 2 (by decide) (by decide)]
    exact hQ.2 a ha
theorem gOK.give {g : gT} (h : gOK g) {k : Nat} {u v : Int32} (hk : k < gN g) (h0 : gF g k 0 = 0) (hu : ¬ u = 0) : gOK (g_give g k u v) := (h.set hk h0 hu).scan
theorem gOK.awa {g : gT} (h : gOK g) {k j : Nat} (hj : j < gN g) (hn : gA g k = none) : gOK (gsA g k (some j)) := by
  obtain ⟨hW, hK, hQ⟩ := h
  refine ⟨⟨hW.1, ⟨?_, hW.2.1.2⟩, fun a ha => ⟨(hW.2.2 a ha).1, (hW.2.2 a ha).2.1, fun b hb => ?_⟩⟩, hK, hQ⟩
  · have h4 := hW.2.1.1
    unfold gE at h4 ⊢
    have h5 : ∀ m, sumN (g_ph (gsA g k (some j))) m ≤ sumN (g_ph g) m := by
      intro m
      induction m with
      | zero => exact Nat.le_refl _
      | succ m ih =>
        rw [sumN, sumN]
        have : g_ph (gsA g k (some j)) m ≤ g_ph g m := by
          show (if gF g m 0 = 0 then (if va_up (gA g) k (some j) m = none then 2 else 1) else 0) ≤ (if gF g m 0 = 0 then (if gA g m = none then 2 else 1) else 0)
          by_cases hm : m = k
          · subst hm
            rw [va_up_self, hn]
            split <;> simp
          · rw [va_up_ne _ _ hm]
            exact Nat.le_refl _
        omega
    have := h5 (gN g)
    show gC g + sumN (g_ph (gsA g k (some j))) (gN g) ≤ 2 * gN g
    omega
  · have hb' : va_up (gA g) k (some j) a = some b := hb
    by_cases hm : a = k
    · subst hm
      rw [va_up_self] at hb'
      cases hb'
      exact hj
    · rw [va_up_ne _ _ hm] at hb'
      exact (hW.2.2 a ha).2.2 b hb'
/-- the front of the line, or of the pool, goes -/
theorem gOK.tline {g : gT} (h : gOK g) {k : Nat} {x : List Nat} (hx : gL g = k :: x) : gOK (gsF (gsL g x) k 6 0) := by
  obtain ⟨hW, hK, hQ⟩ := h
  have hs : gSame g (gsF (gsL g x) k 6 0) := gSame.tr (b := gsL g x) ⟨rfl, rfl, rfl, rfl, rfl, fun _ _ _ => rfl⟩ (gSame.que _ k 0)
  have hq : (k :: (x ++ gP g)).Nodup := by have := hQ.1; rw [hx] at this; exact this
  obtain ⟨q1, q2⟩ := List.nodup_cons.mp hq
  refine ⟨hs.W hW, hs.K hK, q2, fun a ha => ?_⟩
  have ha' : a ∈ x ++ gP g := ha
  have hne : a ≠ k := fun z => q1 (z ▸ ha')
  rw [gF_ne _ _ hne, gF_ne _ _ hne]
  exact hQ.2 a (by rw [hx]; exact List.mem_cons_of_mem _ ha')
theorem gOK.tpool {g : gT} (h : gOK g) {k : Nat} {x : List Nat} (hx : gP g = k :: x) : gOK (gsF (gsP g x) k 6 0) := by
  obtain ⟨hW, hK, hQ⟩ := h
  have hs : gSame g (gsF (gsP g x) k 6 0) := gSame.tr (b := gsP g x) ⟨rfl, rfl, rfl, rfl, rfl, fun _ _ _ => rfl⟩ (gSame.que _ k 0)
  have hq := hQ.1
  rw [hx] at hq
  obtain ⟨q1, q2, q3⟩ := List.nodup_append.mp hq
  obtain ⟨r1, r2⟩ := List.nodup_cons.mp q2
  refine ⟨hs.W hW, hs.K hK, List.nodup_append.mpr ⟨q1, r2, fun a ha b hb => q3 a ha b (List.mem_cons_of_mem _ hb)⟩, fun a ha => ?_⟩
  have ha' : a ∈ gL g ++ x := ha
  have hne : a ≠ k := by
    rintro rfl
    rcases List.mem_append.mp ha' with h1 | h1
    · exact q3 a h1 a List.mem_cons_self rfl
    · exact r1 h1
  rw [gF_ne _ _ hne, gF_ne _ _ hne]
  refine hQ.2 a ?_
  rw [hx]
  rcases List.mem_append.mp ha' with h1 | h1
  · exact List.mem_append_left _ h1
  · exact List.mem_append_right _ (List.mem_cons_of_mem _ h1)
theorem g_fol_ne (g : gT) (j : Nat) : ¬ (g_fol g j).1 = 0 := by
  show ¬ (if gF g j 0 = 1 then (1 : Int32) else 3) = 0
  split <;> decide
theorem g_use_ne (g : gT) (k : Nat) (x : Int32) : ¬ (g_use g k x).1 = 0 := by
  unfold g_use
  split
  · show ¬ (1 : Int32) = 0
    decide
  · show ¬ (3 : Int32) = 0
    decide
theorem g_sum_ne (g : gT) : ∀ (l : List Nat) (x : Int32), ¬ (g_sum g x l).1 = 0
  | [], x => by
    rw [g_sum]
    show ¬ (1 : Int32) = 0
    decide
  | i :: r, x => by
    rw [g_sum]
    split
    · exact g_sum_ne g r _
    · exact g_fol_ne g i
theorem g_app_ne (g : gT) (k j : Nat) : ¬ (g_app g k j).1 = 0 := by
  unfold g_app
  split
  · exact g_use_ne g k _
  · exact g_fol_ne g j
theorem g_dec_ne {g : gT} {k : Nat} {q : Int32 × Int32} (h : g_dec g k = .inl q) : ¬ q.1 = 0 := by
  unfold g_dec g_cmp at h
  dsimp only at h
  repeat' split at h
  all_goals first
    | (cases h; first | exact g_app_ne g k _ | exact g_fol_ne g _ | exact g_use_ne g k _ | exact g_sum_ne g _ _ | (show ¬ (3 : Int32) = 0; decide))
    | (cases h; done)
theorem g_dec_lt {g : gT} {k j : Nat} (h : g_dec g k = .inr j) : j < gN g ∧ gA g k = none := by
  unfold g_dec g_cmp at h
  dsimp only at h
  repeat' split at h
  all_goals first
    | (cases h; done)
    | (cases h; exact ⟨by simp_all, by assumption⟩)
theorem gOK.dec {g : gT} (h : gOK g) {k : Nat} (hk : k < gN g) (h0 : gF g k 0 = 0) : gOK (match g_dec g k with
    | .inl q => g_give g k q.1 q.2
    | .inr j => g_scan (gsA g k (some j))) := by
  split
  next q hq => exact h.give hk h0 (g_dec_ne hq)
  next j hj => exact (h.awa (g_dec_lt hj).1 (g_dec_lt hj).2).scan
end
section
/-! From the methods of Stage to the graph's outcome. -/
def st_dec (σ : ps_S) (k : Nat) (d : (Int32 × Int32) ⊕ Nat) : ps_S := match d with
  | .inl q => st_become σ k q.1 q.2
  | .inr a => ps_sR σ 3 k 9 (some (3, a))
def g_find (g : gT) (s : Int32) : Option (Nat × Nat) := if ¬ s < 0 ∧ s.toNatClampNeg < gN g then some (3, s.toNatClampNeg) else none
theorem nI_le_s {n : Nat} {s : Int32} (hn : n < 2 ^ 31) (h : ¬ s < 0) : nI n ≤ s ↔ n ≤ s.toNatClampNeg := by
  obtain ⟨j, hj, rfl⟩ := nI_of h
  rw [nI_leI hn hj, nI_clamp hj]
theorem g_app_st {σ : ps_S} {g : gT} {k j : Nat} (hk : RS σ g k) (hj : RS σ g j) : st_apply σ k j = st_become σ k (g_app g k j).1 (g_app g k j).2 := by
  rw [st_apply, g_app, hj.2.1, hj.2.2.1]
  by_cases h : gF g j 0 = 1
  · rw [if_pos h, if_pos h]; exact g_use_st _ hk
  · rw [if_neg h, if_neg h]; exact g_fol_st k hj
theorem g_rec_st {σ : ps_S} {g : gT} {k j : Nat} (hk : RS σ g k) (hj : RS σ g j) : st_recover σ k j = st_become σ k (if gF g j 0 = 1 then g_fol g j else g_use g k (gF g j 1)).1 (if gF g j 0 = 1 then g_fol g j else g_use g k (gF g j 1)).2 := by
  rw [st_recover, hj.2.1, hj.2.2.1]
  by_cases h : gF g j 0 = 1
  · rw [if_pos h, if_pos h]; exact g_fol_st k hj
  · rw [if_neg h, if_neg h]; exact g_use_st _ hk
theorem g_han_st {σ : ps_S} {g : gT} {k j : Nat} (hk : RS σ g k) (hj : RS σ g j) : st_handle σ k j = st_become σ k (g_use g k (if gF g j 0 = 1 then gF g j 1 else -1 - gF g j 1)).1 (g_use g k (if gF g j 0 = 1 then gF g j 1 else -1 - gF g j 1)).2 := by
  rw [st_handle, hj.2.1, hj.2.2.1]
  exact g_use_st _ hk
theorem g_wat_st {σ : ps_S} {g : gT} {k j : Nat} (hk : RS σ g k) (hj : RS σ g j) : st_watch σ k j = st_become σ k (if gF g j 0 = 1 ∧ ¬ fn_thr (gF g k 3) (gF g k 4) (gF g j 1) = 0 then (3, fn_thr (gF g k 3) (gF g k 4) (gF g j 1)) else g_fol g j).1 (if gF g j 0 = 1 ∧ ¬ fn_thr (gF g k 3) (gF g k 4) (gF g j 1) = 0 then (3, fn_thr (gF g k 3) (gF g k 4) (gF g j 1)) else g_fol g j).2 := by
  obtain ⟨⟨e0, e1, e2, e3, e4, e5, e6, e7, e8⟩, e9, e10, e11, e12, e13⟩ := hk
  rw [st_watch, hj.2.1, hj.2.2.1, e3, e4]
  by_cases h : gF g j 0 = 1 ∧ ¬ fn_thr (gF g k 3) (gF g k 4) (gF g j 1) = 0
  · rw [if_pos h, if_pos h]
  · rw [if_neg h, if_neg h]; exact g_fol_st k hj
theorem g_com_st {σ : ps_S} {g : gT} {k i j : Nat} (hk : RS σ g k) (hi : RS σ g i) (hj : RS σ g j) : st_combine σ k i j = st_become σ k (if gF g i 0 = 1 then (if gF g j 0 = 1 then g_use g k (gF g i 1 + gF g j 1) else g_fol g j) else g_fol g i).1 (if gF g i 0 = 1 then (if gF g j 0 = 1 then g_use g k (gF g i 1 + gF g j 1) else g_fol g j) else g_fol g i).2 := by
  rw [st_combine, hi.2.1, hj.2.1, hi.2.2.1, hj.2.2.1]
  by_cases h : gF g i 0 = 1
  · rw [if_pos h, if_pos h]
    by_cases h2 : gF g j 0 = 1
    · rw [if_pos h2, if_pos h2]; exact g_use_st _ hk
    · rw [if_neg h2, if_neg h2]; exact g_fol_st k hj
  · rw [if_neg h, if_neg h]; exact g_fol_st k hi
theorem st_pool_g {σ : ps_S} {g : gT} {k : Nat} (h : RS σ g k) : st_pool σ k = if gF g k 5 = 0 then 0 else if gA g k = none then 1 else 0 := by
  obtain ⟨⟨e0, e1, e2, e3, e4, e5, e6, e7, e8⟩, e9, e10, e11, e12, e13⟩ := h
  rw [st_pool, e5, e12]
  cases gA g k <;> simp
theorem FrG.app {σ : ps_S} {q r k f n : Nat} : FrG σ (q_app σ q r k f n) := by
  unfold q_app
  split
  · exact (FrG.sR (by decide)).tr (FrG.sI (by decide))
  · exact FrG.rf σ
theorem FrG.tk {σ : ps_S} {q f n : Nat} : FrG σ (q_take σ q f n) := by
  unfold q_take
  split
  · exact FrG.rf σ
  · exact (FrG.sI (by decide)).tr (FrG.sI (by decide))
theorem FrG.bec {σ : ps_S} {k : Nat} {u v : Int32} : FrG σ (st_become σ k u v) := (FrG.sI (by decide)).tr (FrG.sI (by decide))
theorem FrG.note {σ : ps_S} {k : Nat} : FrG σ (st_note σ k) := (FrG.sI (by decide)).tr (FrG.sI (by decide))
theorem FrG.dec {σ : ps_S} {k : Nat} {d : (Int32 × Int32) ⊕ Nat} : FrG σ (st_dec σ k d) := by
  cases d with
  | inl q => exact FrG.bec
  | inr a => exact FrG.sR (by decide)
theorem N_app (σ : ps_S) (q r k f n : Nat) : ps_N (q_app σ q r k f n) = ps_N σ := by unfold q_app; split <;> rfl
theorem N_tk (σ : ps_S) (q f n : Nat) : ps_N (q_take σ q f n) = ps_N σ := by unfold q_take; split <;> rfl
theorem N_dec (σ : ps_S) (k : Nat) (d : (Int32 × Int32) ⊕ Nat) : ps_N (st_dec σ k d) = ps_N σ := by cases d <;> rfl
theorem gT_tv {g : gT} (h : gW g) (j : Nat) : g_tv g j < 2 ^ 31 := g_tv_lt g j (by have := h.2.1.2 j; omega)
theorem dec_st {σ : ps_S} {g : gT} {k : Nat} (h : RC σ g) (hk : k < gN g) (h0 : gF g k 0 = 0) : ps_I (st_dec σ k (g_dec g k)) 3 k 6 = 0 ↔ ∃ a, g_dec g k = .inr a := by
  cases hd : g_dec g k with
  | inl q =>
    have e : ps_I (st_dec σ k (.inl q)) 3 k 6 = q.1 := by
      show ps_I (ps_sI (ps_sI σ 3 k 6 q.1) 3 k 7 q.2) 3 k 6 = q.1
      rw [ps_I_f _ _ (by decide), ps_I_eq]
    rw [e]
    exact ⟨fun z => absurd z (g_dec_ne hd), fun ⟨a, ha⟩ => by cases ha⟩
  | inr a =>
    have e : ps_I (st_dec σ k (.inr a)) 3 k 6 = 0 := by
      show ps_I σ 3 k 6 = 0
      rw [(h.2.1 k hk).2.1]
      exact h0
    exact ⟨fun _ => ⟨a, rfl⟩, fun _ => e⟩
theorem gOK.res {g : gT} {k : Nat} (h : gOK (gsF g k 6 0)) (hk : k < gN g) : gOK (g_res g k) := by
  unfold g_res
  split
  next h0 => exact gOK.dec h hk (by rw [gF_f _ _ (by decide)]; exact h0)
  next => exact h
theorem g_in1 {g : gT} {l : List Nat} (h : l.getD 1 0 = 0 ∨ True) : True := trivial
theorem ghead {l : List Nat} {x : Nat} (h : l[0]? = some x) : l.headD 0 = x := by
  cases l with
  | nil => cases h
  | cons a r => cases h; rfl
theorem gget1 {l : List Nat} {x : Nat} (h : l[1]? = some x) : l.getD 1 0 = x := by
  rw [List.getD_eq_getElem?_getD, h]
  rfl
/-! ends of compose -/
theorem comp_end_some {σ : ps_S} {g : gT} {k j : Nat} {q : Nat × Nat} (hA : gA g k = none) (h1 : gF g j 0 = 1) (h2 : fn_thr (gF g k 3) (gF g k 4) (gF g j 1) = 0) (h3 : g_find g (fn_mk (gF g k 3) (gF g k 4) (gF g j 1)) = some q) :
    ps_sR σ 3 k 9 (g_find g (fn_mk (gF g k 3) (gF g k 4) (gF g j 1))) = st_dec σ k (g_cmp g k j) := by
  rw [g_cmp, hA]
  dsimp only
  rw [if_pos h1, if_pos h2]
  unfold g_find at h3 ⊢
  split
  next hc => rfl
  next hc => rw [if_neg hc] at h3; cases h3
theorem comp_end_none {σ : ps_S} {g : gT} {k j : Nat} (hA : gA g k = none) (h1 : gF g j 0 = 1) (h2 : fn_thr (gF g k 3) (gF g k 4) (gF g j 1) = 0) (h3 : g_find g (fn_mk (gF g k 3) (gF g k 4) (gF g j 1)) = none) (hr : ps_R σ 3 k 9 = none) :
    st_become (ps_sR σ 3 k 9 (g_find g (fn_mk (gF g k 3) (gF g k 4) (gF g j 1)))) k 3 8 = st_dec σ k (g_cmp g k j) := by
  rw [g_cmp, hA]
  dsimp only
  rw [if_pos h1, if_pos h2, h3, ps_sR_self σ 3 k 9 hr]
  unfold g_find at h3
  split
  next hc => rw [if_pos hc] at h3; cases h3
  next hc => rfl
theorem g_ft_lt {g : gT} {n : Nat} : ∀ (l : List Nat) (b : Nat), b < n → (∀ x, x ∈ l → x < n) → g_ft g b l < n
  | [], b, hb, _ => hb
  | i :: r, b, hb, h => by
    rw [g_ft]
    refine g_ft_lt r _ ?_ (fun x hx => h x (List.mem_cons_of_mem _ hx))
    split
    · exact h i List.mem_cons_self
    · exact hb
theorem g_first_lt {g : gT} {k : Nat} (hW : gW g) (hk : k < gN g) (hne : 0 < (gI g k).length) : g_first g k < gN g := by
  obtain ⟨x0, hx0, hm0⟩ := lget hne
  rw [g_first_0 hx0]
  exact g_ft_lt _ _ ((hW.2.2 k hk).2.1 x0 hm0) (fun x hx => (hW.2.2 k hk).2.1 x (List.mem_of_mem_drop hx))
theorem pool_0 {g : gT} {k : Nat} {x : Int32} (h : x = if gF g k 5 = 0 then 0 else if gA (gsF g k 6 1) k = none then 1 else 0) (hz : ¬ (¬ gF g k 5 = 0 ∧ gA g k = none)) : x = 0 := by
  rw [h]
  by_cases h1 : gF g k 5 = 0
  · rw [if_pos h1]
  · rw [if_neg h1]
    exact if_neg (fun z : gA (gsF g k 6 1) k = none => hz ⟨h1, z⟩)
theorem g_work_nil {g : gT} {m : Nat} (h : gL g = []) : g_work m g = g := by
  cases m with
  | zero => rfl
  | succ m => rw [g_work, h]
end
section
set_option maxHeartbeats 8000000 in
set_option maxRecDepth 100000 in
theorem k_Graph_has (l : Launch) (D : va_G) (ca : Nat → ClassId) (A : Nat → Prop) (σ : ps_S) (s : Int32) (g : gT) (hR : RC σ g) (hn : gN g ≤ 48) : ∀ adr, ps_M l y_Graph_has c_Graph_has 2 (Option.some Jvm.ClassFile.FieldType.boolean) { frames := 0, cells := 0, slots := 0, locals := 0 } D ca A adr σ [ps_ref (some (1, 0)), ps_int s] (fun rv σ' => rv = some (ps_int (if ¬ s < 0 ∧ s.toNatClampNeg < gN g then 1 else 0)) ∧ σ' = σ) := by
  intro adr
  refine ps_M.of (by decide +kernel) (Nat.le_of_ble_eq_true rfl) ?_
  intro p_ e_ s_ m_ args_ below_ meth_ c_ E hr hlk hnm
  refine pv_iload_n E d_Graph_has_0 rfl rfl ?_
  refine pv_if_lt (tgt := 16) E d_Graph_has_1 rfl (fun h1 => ?_) (fun h1 => ?_)
  · skip
    refine pv_iconst (v := 0) E d_Graph_has_16 (by decide) ?_
    exact pv_zret E hr hlk d_Graph_has_17 (by first | rfl | (apply ps_zb; assumption)) (by decide) (by decide) ⟨by rw [if_neg (fun z => z.1 h1)], rfl⟩
  · skip
    refine pv_iload_n E d_Graph_has_4 rfl rfl ?_
    refine pv_aload_n E d_Graph_has_5 rfl rfl ?_
    refine gf_Graph_made E wd_54 d_Graph_has_6 ?_
    refine pv_top (congrArg ps_int hR.1.2.2.2.1) ?_
    refine pv_icmp_ge (tgt := 16) E d_Graph_has_9 rfl (fun h9 => ?_) (fun h9 => ?_)
    · skip
      rw [nI_le_s (by omega) h1] at h9
      refine pv_iconst (v := 0) E d_Graph_has_16 (by decide) ?_
      exact pv_zret E hr hlk d_Graph_has_17 (by first | rfl | (apply ps_zb; assumption)) (by decide) (by decide) ⟨by rw [if_neg (fun z => absurd z.2 (Nat.not_lt.mpr h9))], rfl⟩
    · skip
      rw [nI_le_s (by omega) h1] at h9
      refine pv_iconst (v := 1) E d_Graph_has_12 (by decide) ?_
      refine pv_goto (tgt := 17) E d_Graph_has_13 rfl ?_
      exact pv_zret E hr hlk d_Graph_has_17 (by first | rfl | (apply ps_zb; assumption)) (by decide) (by decide) ⟨by rw [if_pos ⟨h1, Nat.lt_of_not_le h9⟩], rfl⟩
set_option maxHeartbeats 8000000 in
set_option maxRecDepth 100000 in
theorem k_Graph_isFull (l : Launch) (D : va_G) (ca : Nat → ClassId) (A : Nat → Prop) (σ : ps_S)  (g : gT) (hR : RC σ g) (hn : gN g ≤ 48) : ∀ adr, ps_M l y_Graph_isFull c_Graph_isFull 1 (Option.some Jvm.ClassFile.FieldType.boolean) { frames := 0, cells := 0, slots := 0, locals := 0 } D ca A adr σ [ps_ref (some (1, 0))] (fun rv σ' => rv = some (ps_int (if gN g < 48 then 0 else 1)) ∧ σ' = σ) := by
  intro adr
  refine ps_M.of (by decide +kernel) (Nat.le_of_ble_eq_true rfl) ?_
  intro p_ e_ s_ m_ args_ below_ meth_ c_ E hr hlk hnm
  refine pv_aload_n E d_Graph_isFull_0 rfl rfl ?_
  refine gf_Graph_made E wd_54 d_Graph_isFull_1 ?_
  refine pv_top (congrArg ps_int hR.1.2.2.2.1) ?_
  refine pv_bipush (v := 48) E d_Graph_isFull_4 (by decide) ?_
  refine pv_icmp_lt (tgt := 13) E d_Graph_isFull_6 rfl (fun h6 => ?_) (fun h6 => ?_)
  · skip
    rw [show (48 : Int32) = nI 48 from rfl, nI_ltI (by omega) (by decide)] at h6
    refine pv_iconst (v := 0) E d_Graph_isFull_13 (by decide) ?_
    exact pv_zret E hr hlk d_Graph_isFull_14 (by first | rfl | (apply ps_zb; assumption)) (by decide) (by decide) ⟨by rw [if_pos h6], rfl⟩
  · skip
    rw [show (48 : Int32) = nI 48 from rfl, nI_ltI (by omega) (by decide)] at h6
    refine pv_iconst (v := 1) E d_Graph_isFull_9 (by decide) ?_
    refine pv_goto (tgt := 14) E d_Graph_isFull_10 rfl ?_
    exact pv_zret E hr hlk d_Graph_isFull_14 (by first | rfl | (apply ps_zb; assumption)) (by decide) (by decide) ⟨by rw [if_neg h6], rfl⟩
set_option maxHeartbeats 8000000 in
set_option maxRecDepth 100000 in
theorem k_Graph_find (l : Launch) (D : va_G) (ca : Nat → ClassId) (A : Nat → Prop) (σ : ps_S) (s : Int32) (g : gT) (hR : RC σ g) (hn : gN g ≤ 48) : ∀ adr, ps_M l y_Graph_find c_Graph_find 2 (Option.some (Jvm.ClassFile.FieldType.object "PromiseScopes$Stage")) { frames := 1, cells := 0, slots := 0, locals := 21 } D ca A adr σ [ps_ref (some (1, 0)), ps_int s] (fun rv σ' => rv = some (ps_ref (g_find g s)) ∧ σ' = σ) := by
  intro adr
  refine ps_M.of (by decide +kernel) (Nat.le_of_ble_eq_true rfl) ?_
  intro p_ e_ s_ m_ args_ below_ meth_ c_ E hr hlk hnm
  refine pv_aload_n E d_Graph_find_0 rfl rfl ?_
  refine pv_iload_n E d_Graph_find_1 rfl rfl ?_
  refine pv_callV E (fun adr => k_Graph_has l D ca A _ _ g hR hn adr) yv_Graph_has wd_119 rfl rfl (fun _ => ⟨_, rfl⟩) rfl ⟨by decide, by decide⟩ (Nat.le_of_ble_eq_true rfl) d_Graph_find_2 ⟨by decide, by decide⟩ (fun r2 σ2 hq2 => ?_)
  obtain ⟨hr2, hs2⟩ := hq2
  subst r2
  subst σ2
  refine pv_if_eq (tgt := 17) E d_Graph_find_5 rfl (fun h5 => ?_) (fun h5 => ?_)
  · skip
    have hc : ¬ (¬ s < 0 ∧ s.toNatClampNeg < gN g) := fun z => by rw [if_pos z] at h5; exact absurd h5 (by decide)
    refine pv_null E d_Graph_find_17 ?_
    exact pv_aret E hr (Or.inl ⟨_, rfl⟩) hlk d_Graph_find_18 (by decide) (by decide) ⟨by rw [g_find, if_neg hc], rfl⟩
  · skip
    have hc : ¬ s < 0 ∧ s.toNatClampNeg < gN g := by
      by_cases z : ¬ s < 0 ∧ s.toNatClampNeg < gN g
      · exact z
      · exact absurd (if_neg z) h5
    refine pv_aload_n E d_Graph_find_8 rfl rfl ?_
    refine gf_Graph_stages E wd_51 d_Graph_find_9 ?_
    refine pv_top (congrArg ps_ref hR.1.1) ?_
    refine pv_iload_n E d_Graph_find_12 rfl rfl ?_
    refine pv_aaload (t0 := 0) E 4 _ (fun _ _ _ _ _ => rfl) rfl (by rw [hR.1.2.2.2.2.2.1]; exact fun z => z.elim hc.1 (fun z => by omega)) d_Graph_find_13 ?_
    refine pv_top (congrArg ps_ref (hR.2.1 _ hc.2).1.1) ?_
    refine pv_goto (tgt := 18) E d_Graph_find_14 rfl ?_
    exact pv_aret E hr (Or.inl ⟨_, rfl⟩) hlk d_Graph_find_18 (by decide) (by decide) ⟨by rw [g_find, if_pos hc], rfl⟩
set_option maxHeartbeats 8000000 in
set_option maxRecDepth 100000 in
theorem k_Graph_noteTurn (l : Launch) (D : va_G) (ca : Nat → ClassId) (A : Nat → Prop) (σ : ps_S) (k : Nat)  : ∀ adr, ps_M l y_Graph_noteTurn c_Graph_noteTurn 2 (Option.none : Option Jvm.ClassFile.FieldType) { frames := 0, cells := 0, slots := 0, locals := 0 } D ca A adr σ [ps_ref (some (1, 0)), ps_ref (some (3, k))] (fun rv σ' => rv = none ∧ σ' = st_note σ k) := by
  intro adr
  refine ps_M.of (by decide +kernel) (Nat.le_of_ble_eq_true rfl) ?_
  intro p_ e_ s_ m_ args_ below_ meth_ c_ E hr hlk hnm
  refine pv_aload_n E d_Graph_noteTurn_0 rfl rfl ?_
  refine pv_aload_n E d_Graph_noteTurn_1 rfl rfl ?_
  refine gf_Graph_settled E wd_56 d_Graph_noteTurn_2 ?_
  refine pf_Stage_turn E wd_492 d_Graph_noteTurn_5 ?_
  refine pv_aload_n E d_Graph_noteTurn_8 rfl rfl ?_
  refine pv_dup E d_Graph_noteTurn_9 rfl ?_
  refine gf_Graph_settled E wd_56 d_Graph_noteTurn_10 ?_
  refine pv_iconst (v := 1) E d_Graph_noteTurn_13 (by decide) ?_
  refine pv_iadd E d_Graph_noteTurn_14 ?_
  refine pf_Graph_settled E wd_56 d_Graph_noteTurn_15 ?_
  exact pv_vret E hr hlk d_Graph_noteTurn_18 (by decide) (by decide) ⟨rfl, rfl⟩
set_option maxHeartbeats 8000000 in
set_option maxRecDepth 100000 in
theorem k_Graph_compose (l : Launch) (D : va_G) (ca : Nat → ClassId) (A : Nat → Prop) (σ : ps_S) (k j : Nat) (g : gT) (hR : RC σ g) (hW : gW g) (hk : k < gN g) (hj : j < gN g) : ∀ adr, ps_M l y_Graph_compose c_Graph_compose 4 (Option.none : Option Jvm.ClassFile.FieldType) { frames := 2, cells := 0, slots := 0, locals := 43 } D ca A adr σ [ps_ref (some (1, 0)), ps_ref (some (3, k)), ps_ref (some (3, j))] (fun rv σ' => rv = none ∧ σ' = st_dec σ k (g_cmp g k j)) := by
  intro adr
  refine ps_M.of (by decide +kernel) (Nat.le_of_ble_eq_true rfl) ?_
  intro p_ e_ s_ m_ args_ below_ meth_ c_ E hr hlk hnm
  have sk := hR.2.1 k hk
  have sj := hR.2.1 j hj
  obtain ⟨⟨e0, e1, e2, e3, e4, e5, e6, e7, e8⟩, e9, e10, e11, e12, e13⟩ := sk
  have sk := hR.2.1 k hk
  refine pv_aload_n E d_Graph_compose_0 rfl rfl ?_
  refine gf_Stage_awaited E wd_494 d_Graph_compose_1 ?_
  refine pv_top (congrArg ps_ref e12) ?_
  refine pv_ifnull (tgt := 16) E d_Graph_compose_4 rfl (fun h4 => ?_) (fun q4 h4 => ?_)
  · skip
    have hA : gA g k = none := by
      cases z : gA g k with
      | none => rfl
      | some j => rw [z] at h4; cases h4
    refine pv_aload_n E d_Graph_compose_16 rfl rfl ?_
    refine gf_Stage_state E wd_486 d_Graph_compose_17 ?_
    refine pv_top (congrArg ps_int sj.2.1) ?_
    refine pv_iconst (v := 1) E d_Graph_compose_20 (by decide) ?_
    refine pv_icmp_eq (tgt := 30) E d_Graph_compose_21 rfl (fun h21 => ?_) (fun h21 => ?_)
    · skip
      refine pv_aload_n E d_Graph_compose_30 rfl rfl ?_
      refine gf_Stage_function E wd_478 d_Graph_compose_31 ?_
      refine pv_top (congrArg ps_int e3) ?_
      refine pv_aload_n E d_Graph_compose_34 rfl rfl ?_
      refine gf_Stage_a E wd_480 d_Graph_compose_35 ?_
      refine pv_top (congrArg ps_int e4) ?_
      refine pv_aload_n E d_Graph_compose_38 rfl rfl ?_
      refine gf_Stage_content E wd_490 d_Graph_compose_39 ?_
      refine pv_top (congrArg ps_int sj.2.2.1) ?_
      refine pv_callS E (fun adr => k_Fn_thrownFor l D ca A _ _ _ _ adr) ys_Fn_thrownFor wd_203 rfl rfl ⟨by decide, by decide⟩ (Nat.le_of_ble_eq_true rfl) d_Graph_compose_42 ⟨by decide, by decide⟩ (fun r42 σ42 hq42 => ?_)
      obtain ⟨hr42, hs42⟩ := hq42
      subst r42
      subst σ42
      refine pv_istore_n E d_Graph_compose_45 rfl (by decide) ?_
      refine pv_iload_n E d_Graph_compose_46 rfl rfl ?_
      refine pv_if_eq (tgt := 57) E d_Graph_compose_47 rfl (fun h47 => ?_) (fun h47 => ?_)
      · skip
        refine pv_aload_n E d_Graph_compose_57 rfl rfl ?_
        refine pv_aload_n E d_Graph_compose_58 rfl rfl ?_
        refine pv_aload_n E d_Graph_compose_59 rfl rfl ?_
        refine gf_Stage_function E wd_478 d_Graph_compose_60 ?_
        refine pv_top (congrArg ps_int e3) ?_
        refine pv_aload_n E d_Graph_compose_63 rfl rfl ?_
        refine gf_Stage_a E wd_480 d_Graph_compose_64 ?_
        refine pv_top (congrArg ps_int e4) ?_
        refine pv_aload_n E d_Graph_compose_67 rfl rfl ?_
        refine gf_Stage_content E wd_490 d_Graph_compose_68 ?_
        refine pv_top (congrArg ps_int sj.2.2.1) ?_
        refine pv_callS E (fun adr => k_Fn_madeOf l D ca A _ _ _ _ adr) ys_Fn_madeOf wd_204 rfl rfl ⟨by decide, by decide⟩ (Nat.le_of_ble_eq_true rfl) d_Graph_compose_71 ⟨by decide, by decide⟩ (fun r71 σ71 hq71 => ?_)
        obtain ⟨hr71, hs71⟩ := hq71
        subst r71
        subst σ71
        refine pv_callV E (fun adr => k_Graph_find l D ca A _ _ g hR hW.1 adr) yv_Graph_find wd_115 rfl rfl (fun _ => ⟨_, rfl⟩) rfl ⟨by decide, by decide⟩ (Nat.le_of_ble_eq_true rfl) d_Graph_compose_74 ⟨by decide, by decide⟩ (fun r74 σ74 hq74 => ?_)
        obtain ⟨hr74, hs74⟩ := hq74
        subst r74
        subst σ74
        refine pf_Stage_awaited E wd_494 d_Graph_compose_77 ?_
        refine pv_aload_n E d_Graph_compose_80 rfl rfl ?_
        refine gf_Stage_awaited E wd_494 d_Graph_compose_81 ?_
        refine pv_top (congrArg ps_ref (ps_R_eq σ 3 k 9 _)) ?_
        refine pv_ifnonnull (tgt := 94) E d_Graph_compose_84 rfl (fun q84 h84 => ?_) (fun h84 => ?_)
        · skip
          exact pv_vret E hr hlk d_Graph_compose_94 (by decide) (by decide) ⟨rfl, comp_end_some hA h21 h47 h84⟩
        · skip
          refine pv_aload_n E d_Graph_compose_87 rfl rfl ?_
          refine pv_iconst (v := 3) E d_Graph_compose_88 (by decide) ?_
          refine pv_bipush (v := 8) E d_Graph_compose_89 (by decide) ?_
          refine pv_callV E (fun adr => k_Stage_become l D ca A _ _ _ _ adr) yv_Stage_become wd_127 rfl rfl (fun _ => ⟨_, rfl⟩) rfl ⟨by decide, by decide⟩ (Nat.le_of_ble_eq_true rfl) d_Graph_compose_91 ⟨by decide, by decide⟩ (fun r91 σ91 hq91 => ?_)
          obtain ⟨hr91, hs91⟩ := hq91
          subst r91
          subst σ91
          exact pv_vret E hr hlk d_Graph_compose_94 (by decide) (by decide) ⟨rfl, comp_end_none hA h21 h47 h84 (by rw [e12, hA]; rfl)⟩
      · skip
        refine pv_aload_n E d_Graph_compose_50 rfl rfl ?_
        refine pv_iconst (v := 3) E d_Graph_compose_51 (by decide) ?_
        refine pv_iload_n E d_Graph_compose_52 rfl rfl ?_
        refine pv_callV E (fun adr => k_Stage_become l D ca A _ _ _ _ adr) yv_Stage_become wd_127 rfl rfl (fun _ => ⟨_, rfl⟩) rfl ⟨by decide, by decide⟩ (Nat.le_of_ble_eq_true rfl) d_Graph_compose_53 ⟨by decide, by decide⟩ (fun r53 σ53 hq53 => ?_)
        obtain ⟨hr53, hs53⟩ := hq53
        subst r53
        subst σ53
        exact pv_vret E hr hlk d_Graph_compose_56 (by decide) (by decide) ⟨rfl, by rw [g_cmp, hA]; simp only [h21, h47, if_true, if_false]; rfl⟩
    · skip
      refine pv_aload_n E d_Graph_compose_24 rfl rfl ?_
      refine pv_aload_n E d_Graph_compose_25 rfl rfl ?_
      refine pv_callV E (fun adr => k_Stage_follow l D ca A _ _ _ adr) yv_Stage_follow wd_202 rfl rfl (fun _ => ⟨_, rfl⟩) rfl ⟨by decide, by decide⟩ (Nat.le_of_ble_eq_true rfl) d_Graph_compose_26 ⟨by decide, by decide⟩ (fun r26 σ26 hq26 => ?_)
      obtain ⟨hr26, hs26⟩ := hq26
      subst r26
      subst σ26
      exact pv_vret E hr hlk d_Graph_compose_29 (by decide) (by decide) ⟨rfl, by rw [g_cmp, hA]; simp only [h21, if_false]; exact g_fol_st k sj⟩
  · skip
    obtain ⟨aj, hA⟩ : ∃ aj, gA g k = some aj := by
      cases z : gA g k with
      | none => rw [z] at h4; cases h4
      | some j => exact ⟨j, rfl⟩
    refine pv_aload_n E d_Graph_compose_7 rfl rfl ?_
    refine pv_aload_n E d_Graph_compose_8 rfl rfl ?_
    refine gf_Stage_awaited E wd_494 d_Graph_compose_9 ?_
    refine pv_top (congrArg ps_ref (show ps_R σ 3 k 9 = some (3, aj) by rw [e12, hA]; rfl)) ?_
    refine pv_callV E (fun adr => k_Stage_follow l D ca A _ _ _ adr) yv_Stage_follow wd_202 rfl rfl (fun _ => ⟨_, rfl⟩) rfl ⟨by decide, by decide⟩ (Nat.le_of_ble_eq_true rfl) d_Graph_compose_12 ⟨by decide, by decide⟩ (fun r12 σ12 hq12 => ?_)
    obtain ⟨hr12, hs12⟩ := hq12
    subst r12
    subst σ12
    exact pv_vret E hr hlk d_Graph_compose_15 (by decide) (by decide) ⟨rfl, by rw [g_cmp, hA]; exact g_fol_st k (hR.2.1 aj ((hW.2.2 k hk).2.2 aj hA))⟩
set_option maxHeartbeats 8000000 in
set_option maxRecDepth 100000 in
theorem k_Graph_decide (l : Launch) (D : va_G) (ca : Nat → ClassId) (A : Nat → Prop) (σ : ps_S) (k : Nat) (g : gT) (hR : RC σ g) (hW : gW g) (hk : k < gN g) (hne : 0 < (gI g k).length) (h5 : gF g k 2 = 5 → 1 < (gI g k).length) : ∀ adr, ps_M l y_Graph_decide c_Graph_decide 3 (Option.none : Option Jvm.ClassFile.FieldType) { frames := 3, cells := 0, slots := 0, locals := 66 } D ca A adr σ [ps_ref (some (1, 0)), ps_ref (some (3, k))] (fun rv σ' => rv = none ∧ σ' = st_dec σ k (g_dec g k)) := by
  intro adr
  refine ps_M.of (by decide +kernel) (Nat.le_of_ble_eq_true rfl) ?_
  intro p_ e_ s_ m_ args_ below_ meth_ c_ E hr hlk hnm
  have sk := hR.2.1 k hk
  obtain ⟨⟨e0, e1, e2, e3, e4, e5, e6, e7, e8⟩, e9, e10, e11, e12, e13⟩ := sk
  have sk := hR.2.1 k hk
  have hlen := (hW.2.2 k hk).1
  obtain ⟨x0, hx0, hm0⟩ := lget hne
  have hx0n := (hW.2.2 k hk).2.1 x0 hm0
  have sx := hR.2.1 x0 hx0n
  have hh := ghead hx0
  refine pv_aload_n E d_Graph_decide_0 rfl rfl ?_
  refine gf_Stage_inputs E wd_483 d_Graph_decide_1 ?_
  refine pv_top (congrArg ps_ref e6) ?_
  refine pv_iconst (v := 0) E d_Graph_decide_4 (by decide) ?_
  refine pv_aaload (t0 := 0) E 4 _ (fun _ _ _ _ _ => rfl) rfl (by rw [e7]; exact vp_in_nI (n := 0) hne (by omega)) d_Graph_decide_5 ?_
  rw [show (0 : Int32).toNatClampNeg = 0 from rfl]
  refine pv_top (congrArg ps_ref (e8 0 x0 hx0)) ?_
  refine pv_astore_n E d_Graph_decide_6 rfl (by decide) ?_
  refine pv_aload_n E d_Graph_decide_7 rfl rfl ?_
  refine gf_Stage_kind E wd_476 d_Graph_decide_8 ?_
  refine pv_top (congrArg ps_int e2) ?_
  by_cases h11_0 : gF g k 2 = 0
  · refine pv_tableAt (tgt := 56) E 0 h11_0 d_Graph_decide_11 (by decide) (by decide) rfl rfl ?_
    refine pv_aload_n E d_Graph_decide_56 rfl rfl ?_
    refine pv_aload_n E d_Graph_decide_57 rfl rfl ?_
    refine pv_callV E (fun adr => k_Stage_applyTo l D ca A _ _ _ adr) yv_Stage_applyTo wd_167 rfl rfl (fun _ => ⟨_, rfl⟩) rfl ⟨by decide, by decide⟩ (Nat.le_of_ble_eq_true rfl) d_Graph_decide_58 ⟨by decide, by decide⟩ (fun r58 σ58 hq58 => ?_)
    obtain ⟨hr58, hs58⟩ := hq58
    subst r58
    subst σ58
    refine pv_goto (tgt := 137) E d_Graph_decide_61 rfl ?_
    exact pv_vret E hr hlk d_Graph_decide_137 (by decide) (by decide) ⟨rfl, by unfold g_dec; simp only [hh, h11_0, if_true, if_false]; exact g_app_st sk sx⟩
  by_cases h11_1 : gF g k 2 = 1
  · refine pv_tableAt (tgt := 64) E 1 h11_1 d_Graph_decide_11 (by decide) (by decide) rfl rfl ?_
    refine pv_aload_n E d_Graph_decide_64 rfl rfl ?_
    refine pv_aload_n E d_Graph_decide_65 rfl rfl ?_
    refine pv_callV E (fun adr => k_Stage_recoverFrom l D ca A _ _ _ adr) yv_Stage_recoverFrom wd_186 rfl rfl (fun _ => ⟨_, rfl⟩) rfl ⟨by decide, by decide⟩ (Nat.le_of_ble_eq_true rfl) d_Graph_decide_66 ⟨by decide, by decide⟩ (fun r66 σ66 hq66 => ?_)
    obtain ⟨hr66, hs66⟩ := hq66
    subst r66
    subst σ66
    refine pv_goto (tgt := 137) E d_Graph_decide_69 rfl ?_
    exact pv_vret E hr hlk d_Graph_decide_137 (by decide) (by decide) ⟨rfl, by unfold g_dec; simp only [hh, h11_0, h11_1, if_true, if_false]; exact g_rec_st sk sx⟩
  by_cases h11_2 : gF g k 2 = 2
  · refine pv_tableAt (tgt := 72) E 2 h11_2 d_Graph_decide_11 (by decide) (by decide) rfl rfl ?_
    refine pv_aload_n E d_Graph_decide_72 rfl rfl ?_
    refine pv_aload_n E d_Graph_decide_73 rfl rfl ?_
    refine pv_callV E (fun adr => k_Stage_handle l D ca A _ _ _ adr) yv_Stage_handle wd_190 rfl rfl (fun _ => ⟨_, rfl⟩) rfl ⟨by decide, by decide⟩ (Nat.le_of_ble_eq_true rfl) d_Graph_decide_74 ⟨by decide, by decide⟩ (fun r74 σ74 hq74 => ?_)
    obtain ⟨hr74, hs74⟩ := hq74
    subst r74
    subst σ74
    refine pv_goto (tgt := 137) E d_Graph_decide_77 rfl ?_
    exact pv_vret E hr hlk d_Graph_decide_137 (by decide) (by decide) ⟨rfl, by unfold g_dec; simp only [hh, h11_0, h11_1, h11_2, if_true, if_false]; exact g_han_st sk sx⟩
  by_cases h11_3 : gF g k 2 = 3
  · refine pv_tableAt (tgt := 80) E 3 h11_3 d_Graph_decide_11 (by decide) (by decide) rfl rfl ?_
    refine pv_aload_n E d_Graph_decide_80 rfl rfl ?_
    refine pv_aload_n E d_Graph_decide_81 rfl rfl ?_
    refine pv_callV E (fun adr => k_Stage_watch l D ca A _ _ _ adr) yv_Stage_watch wd_194 rfl rfl (fun _ => ⟨_, rfl⟩) rfl ⟨by decide, by decide⟩ (Nat.le_of_ble_eq_true rfl) d_Graph_decide_82 ⟨by decide, by decide⟩ (fun r82 σ82 hq82 => ?_)
    obtain ⟨hr82, hs82⟩ := hq82
    subst r82
    subst σ82
    refine pv_goto (tgt := 137) E d_Graph_decide_85 rfl ?_
    exact pv_vret E hr hlk d_Graph_decide_137 (by decide) (by decide) ⟨rfl, by unfold g_dec; simp only [hh, h11_0, h11_1, h11_2, h11_3, if_true, if_false]; exact g_wat_st sk sx⟩
  by_cases h11_4 : gF g k 2 = 4
  · refine pv_tableAt (tgt := 88) E 4 h11_4 d_Graph_decide_11 (by decide) (by decide) rfl rfl ?_
    refine pv_aload_n E d_Graph_decide_88 rfl rfl ?_
    refine pv_aload_n E d_Graph_decide_89 rfl rfl ?_
    refine pv_aload_n E d_Graph_decide_90 rfl rfl ?_
    refine pv_callV E (fun adr => k_Graph_compose l D ca A _ _ _ g hR hW hk hx0n adr) yv_Graph_compose wd_198 rfl rfl (fun _ => ⟨_, rfl⟩) rfl ⟨by decide, by decide⟩ (Nat.le_of_ble_eq_true rfl) d_Graph_decide_91 ⟨by decide, by decide⟩ (fun r91 σ91 hq91 => ?_)
    obtain ⟨hr91, hs91⟩ := hq91
    subst r91
    subst σ91
    refine pv_goto (tgt := 137) E d_Graph_decide_94 rfl ?_
    exact pv_vret E hr hlk d_Graph_decide_137 (by decide) (by decide) ⟨rfl, by unfold g_dec; simp only [hh, h11_0, h11_1, h11_2, h11_3, h11_4, if_true, if_false]; rfl⟩
  by_cases h11_5 : gF g k 2 = 5
  · refine pv_tableAt (tgt := 97) E 5 h11_5 d_Graph_decide_11 (by decide) (by decide) rfl rfl ?_
    obtain ⟨x1, hx1, hm1⟩ := lget (h5 h11_5)
    have sx1 := hR.2.1 x1 ((hW.2.2 k hk).2.1 x1 hm1)
    have hh1 := gget1 hx1
    refine pv_aload_n E d_Graph_decide_97 rfl rfl ?_
    refine pv_aload_n E d_Graph_decide_98 rfl rfl ?_
    refine pv_aload_n E d_Graph_decide_99 rfl rfl ?_
    refine gf_Stage_inputs E wd_483 d_Graph_decide_100 ?_
    refine pv_top (congrArg ps_ref e6) ?_
    refine pv_iconst (v := 1) E d_Graph_decide_103 (by decide) ?_
    refine pv_aaload (t0 := 0) E 4 _ (fun _ _ _ _ _ => rfl) rfl (by rw [e7]; exact vp_in_nI (n := 1) (h5 h11_5) (by omega)) d_Graph_decide_104 ?_
    rw [show (1 : Int32).toNatClampNeg = 1 from rfl]
    refine pv_top (congrArg ps_ref (e8 1 x1 hx1)) ?_
    refine pv_callV E (fun adr => k_Stage_combine l D ca A _ _ _ _ adr) yv_Stage_combine wd_205 rfl rfl (fun _ => ⟨_, rfl⟩) rfl ⟨by decide, by decide⟩ (Nat.le_of_ble_eq_true rfl) d_Graph_decide_105 ⟨by decide, by decide⟩ (fun r105 σ105 hq105 => ?_)
    obtain ⟨hr105, hs105⟩ := hq105
    subst r105
    subst σ105
    refine pv_goto (tgt := 137) E d_Graph_decide_108 rfl ?_
    exact pv_vret E hr hlk d_Graph_decide_137 (by decide) (by decide) ⟨rfl, by unfold g_dec; simp only [hh, hh1, h11_0, h11_1, h11_2, h11_3, h11_4, h11_5, if_true, if_false]; exact g_com_st sk sx sx1⟩
  by_cases h11_6 : gF g k 2 = 6
  · refine pv_tableAt (tgt := 111) E 6 h11_6 d_Graph_decide_11 (by decide) (by decide) rfl rfl ?_
    refine pv_aload_n E d_Graph_decide_111 rfl rfl ?_
    refine pv_aload_n E d_Graph_decide_112 rfl rfl ?_
    refine pv_callV E (fun adr => k_Stage_firstSettledInput l D ca A _ _ g hR hW hk hne (fun j _ => gT_tv hW j) adr) yv_Stage_firstSettledInput wd_209 rfl rfl (fun _ => ⟨_, rfl⟩) rfl ⟨by decide, by decide⟩ (Nat.le_of_ble_eq_true rfl) d_Graph_decide_113 ⟨by decide, by decide⟩ (fun r113 σ113 hq113 => ?_)
    obtain ⟨hr113, hs113⟩ := hq113
    subst r113
    subst σ113
    refine pv_callV E (fun adr => k_Stage_applyTo l D ca A _ _ _ adr) yv_Stage_applyTo wd_167 rfl rfl (fun _ => ⟨_, rfl⟩) rfl ⟨by decide, by decide⟩ (Nat.le_of_ble_eq_true rfl) d_Graph_decide_116 ⟨by decide, by decide⟩ (fun r116 σ116 hq116 => ?_)
    obtain ⟨hr116, hs116⟩ := hq116
    subst r116
    subst σ116
    refine pv_goto (tgt := 137) E d_Graph_decide_119 rfl ?_
    exact pv_vret E hr hlk d_Graph_decide_137 (by decide) (by decide) ⟨rfl, by unfold g_dec; simp only [hh, h11_0, h11_1, h11_2, h11_3, h11_4, h11_5, h11_6, if_true, if_false]; exact g_app_st sk (hR.2.1 _ (g_first_lt hW hk hne))⟩
  by_cases h11_7 : gF g k 2 = 7
  · refine pv_tableAt (tgt := 122) E 7 h11_7 d_Graph_decide_11 (by decide) (by decide) rfl rfl ?_
    refine pv_aload_n E d_Graph_decide_122 rfl rfl ?_
    refine pv_callV E (fun adr => k_Stage_sumUp l D ca A _ _ g hR hW hk adr) yv_Stage_sumUp wd_213 rfl rfl (fun _ => ⟨_, rfl⟩) rfl ⟨by decide, by decide⟩ (Nat.le_of_ble_eq_true rfl) d_Graph_decide_123 ⟨by decide, by decide⟩ (fun r123 σ123 hq123 => ?_)
    obtain ⟨hr123, hs123⟩ := hq123
    subst r123
    subst σ123
    refine pv_goto (tgt := 137) E d_Graph_decide_126 rfl ?_
    exact pv_vret E hr hlk d_Graph_decide_137 (by decide) (by decide) ⟨rfl, by unfold g_dec; simp only [hh, h11_0, h11_1, h11_2, h11_3, h11_4, h11_5, h11_6, h11_7, if_true, if_false]; rfl⟩
  refine pv_tableOut (tgt := 129) E d_Graph_decide_11 (by have e0 := lv_neT h11_0 (show Int32.toInt 0 = 0 by decide); have e1 := lv_neT h11_1 (show Int32.toInt 1 = 1 by decide); have e2 := lv_neT h11_2 (show Int32.toInt 2 = 2 by decide); have e3 := lv_neT h11_3 (show Int32.toInt 3 = 3 by decide); have e4 := lv_neT h11_4 (show Int32.toInt 4 = 4 by decide); have e5 := lv_neT h11_5 (show Int32.toInt 5 = 5 by decide); have e6 := lv_neT h11_6 (show Int32.toInt 6 = 6 by decide); have e7 := lv_neT h11_7 (show Int32.toInt 7 = 7 by decide); omega) rfl ?_
  refine pv_aload_n E d_Graph_decide_129 rfl rfl ?_
  refine pv_aload_n E d_Graph_decide_130 rfl rfl ?_
  refine pv_callV E (fun adr => k_Stage_firstSettledInput l D ca A _ _ g hR hW hk hne (fun j _ => gT_tv hW j) adr) yv_Stage_firstSettledInput wd_209 rfl rfl (fun _ => ⟨_, rfl⟩) rfl ⟨by decide, by decide⟩ (Nat.le_of_ble_eq_true rfl) d_Graph_decide_131 ⟨by decide, by decide⟩ (fun r131 σ131 hq131 => ?_)
  obtain ⟨hr131, hs131⟩ := hq131
  subst r131
  subst σ131
  refine pv_callV E (fun adr => k_Stage_follow l D ca A _ _ _ adr) yv_Stage_follow wd_202 rfl rfl (fun _ => ⟨_, rfl⟩) rfl ⟨by decide, by decide⟩ (Nat.le_of_ble_eq_true rfl) d_Graph_decide_134 ⟨by decide, by decide⟩ (fun r134 σ134 hq134 => ?_)
  obtain ⟨hr134, hs134⟩ := hq134
  subst r134
  subst σ134
  exact pv_vret E hr hlk d_Graph_decide_137 (by decide) (by decide) ⟨rfl, by unfold g_dec; simp only [hh, h11_0, h11_1, h11_2, h11_3, h11_4, h11_5, h11_6, h11_7, if_true, if_false]; exact g_fol_st k (hR.2.1 _ (g_first_lt hW hk hne))⟩
set_option maxHeartbeats 8000000 in
set_option maxRecDepth 100000 in
theorem k_Graph_queueAllThatAreAble (l : Launch) (D : va_G) (ca : Nat → ClassId) (A : Nat → Prop) (σ : ps_S)  (g : gT) (hR : RC σ g) (hO : gOK g) : ∀ adr, ps_M l y_Graph_queueAllThatAreAble c_Graph_queueAllThatAreAble 3 (Option.none : Option Jvm.ClassFile.FieldType) { frames := 1, cells := 0, slots := 0, locals := 22 } D ca A adr σ [ps_ref (some (1, 0))] (fun rv σ' => rv = none ∧ RC σ' (g_scan g) ∧ FrG σ σ' ∧ ps_N σ' = ps_N σ) := by
  intro adr
  refine ps_M.of (by decide +kernel) (Nat.le_of_ble_eq_true rfl) ?_
  intro p_ e_ s_ m_ args_ below_ meth_ c_ E hr hlk hnm
  refine pv_iconst (v := 0) E d_Graph_queueAllThatAreAble_0 (by decide) ?_
  refine pv_istore_n E d_Graph_queueAllThatAreAble_1 rfl (by decide) ?_
  refine pv_sub (L' := [(0, ps_ref (some (1, 0))), (1, ps_int (nI 0))]) ⟨rfl, rfl, trivial⟩ ?_
  refine pv_loop (ι := Nat × ps_S) (fun x => gN g - x.1) (fun x => [(0, ps_ref (some (1, 0))), (1, ps_int (nI x.1))]) (fun x => x.2) (fun x => x.1 ≤ gN g ∧ RC x.2 (g_scN g x.1) ∧ FrG σ x.2 ∧ ps_N x.2 = ps_N σ) (fun x hx ih => ?_) (0, σ) ⟨Nat.zero_le _, hR, FrG.rf σ, rfl⟩
  obtain ⟨i, τ⟩ := x
  obtain ⟨hi, hT, hFr, hN⟩ := hx
  dsimp only at hi hT hFr hN ih ⊢
  have hOi := hO.scN i hi
  refine pv_iload_n E d_Graph_queueAllThatAreAble_2 rfl rfl ?_
  refine pv_aload_n E d_Graph_queueAllThatAreAble_3 rfl rfl ?_
  refine gf_Graph_made E wd_54 d_Graph_queueAllThatAreAble_4 ?_
  refine pv_top (congrArg ps_int (hT.1.2.2.2.1.trans (by rw [gN_scN]))) ?_
  refine pv_icmp_ge (tgt := 68) E d_Graph_queueAllThatAreAble_7 rfl (fun h7 => ?_) (fun h7 => ?_)
  · skip
    have hi2 : gN g ≤ i := (nI_leI (by have := hO.1.1; omega) (by have := hO.1.1; omega)).mp h7
    have hin : i = gN g := by omega
    exact pv_vret E hr hlk d_Graph_queueAllThatAreAble_68 (by decide) (by decide) ⟨rfl, by rw [g_scan, ← hin]; exact hT, hFr, hN⟩
  · skip
    have hlt : i < gN g := Nat.lt_of_not_le (fun z => h7 ((nI_leI (by have := hO.1.1; omega) (by have := hO.1.1; omega)).mpr z))
    have hin : i < gN (g_scN g i) := by rw [gN_scN]; exact hlt
    obtain ⟨⟨e0, e1, e2, e3, e4, e5, e6, e7, e8⟩, e9, e10, e11, e12, e13⟩ := hT.2.1 i hin
    have h48 := hO.1.1
    refine pv_aload_n E d_Graph_queueAllThatAreAble_10 rfl rfl ?_
    refine gf_Graph_stages E wd_51 d_Graph_queueAllThatAreAble_11 ?_
    refine pv_top (congrArg ps_ref hT.1.1) ?_
    refine pv_iload_n E d_Graph_queueAllThatAreAble_14 rfl rfl ?_
    refine pv_aaload (t0 := 0) E 4 _ (fun _ _ _ _ _ => rfl) rfl (by rw [hT.1.2.2.2.2.2.1]; exact vp_in_nI (by omega) (by decide)) d_Graph_queueAllThatAreAble_15 ?_
    rw [nI_clamp (show i < 2 ^ 31 by omega)]
    refine pv_top (congrArg ps_ref e0) ?_
    refine pv_astore_n E d_Graph_queueAllThatAreAble_16 rfl (by decide) ?_
    refine pv_aload_n E d_Graph_queueAllThatAreAble_17 rfl rfl ?_
    refine gf_Stage_queued E wd_495 d_Graph_queueAllThatAreAble_18 ?_
    refine pv_top (congrArg ps_int e13) ?_
    refine pv_if_ne (tgt := 62) E d_Graph_queueAllThatAreAble_21 rfl (fun h21 => ?_) (fun h21 => ?_)
    · skip
      refine pv_inc1 E d_Graph_queueAllThatAreAble_62 rfl (by decide) ?_
      refine pv_goto (tgt := 2) E d_Graph_queueAllThatAreAble_65 rfl ?_
      exact pv_back (ih (i + 1, τ) ⟨by omega, by show RC τ (g_sc1 (g_scN g i) i); rw [g_sc1, if_neg (fun z => h21 z.1)]; exact hT, hFr, hN⟩ (by show _ - (i + 1) < _ - i; omega)) ⟨rfl, congrArg (fun z : Int32 => some (ps_int z)) (nI_1 i), trivial⟩
    · skip
      have hlt2 := hOi.2.2.lt hOi.1.1 hin h21
      refine pv_aload_n E d_Graph_queueAllThatAreAble_24 rfl rfl ?_
      refine pv_callV E (fun adr => k_Stage_isAble l D ca A _ i (g_scN g i) hT hOi.1 hin adr) yv_Stage_isAble wd_139 rfl rfl (fun _ => ⟨_, rfl⟩) rfl ⟨by decide, by decide⟩ (Nat.le_of_ble_eq_true rfl) d_Graph_queueAllThatAreAble_25 ⟨by decide, by decide⟩ (fun r25 σ25 hq25 => ?_)
      obtain ⟨hr25, hs25⟩ := hq25
      subst r25
      subst σ25
      refine pv_if_eq (tgt := 62) E d_Graph_queueAllThatAreAble_28 rfl (fun h28 => ?_) (fun h28 => ?_)
      · skip
        have hab : ¬ g_able (g_scN g i) i = true := fun z => by rw [if_pos z] at h28; exact absurd h28 (by decide)
        refine pv_inc1 E d_Graph_queueAllThatAreAble_62 rfl (by decide) ?_
        refine pv_goto (tgt := 2) E d_Graph_queueAllThatAreAble_65 rfl ?_
        exact pv_back (ih (i + 1, τ) ⟨by omega, by show RC τ (g_sc1 (g_scN g i) i); rw [g_sc1, if_neg (fun z => hab z.2)]; exact hT, hFr, hN⟩ (by show _ - (i + 1) < _ - i; omega)) ⟨rfl, congrArg (fun z : Int32 => some (ps_int z)) (nI_1 i), trivial⟩
      · skip
        have hab : g_able (g_scN g i) i = true := by
          by_cases z : g_able (g_scN g i) i = true
          · exact z
          · exact absurd (if_neg z) h28
        refine pv_aload_n E d_Graph_queueAllThatAreAble_31 rfl rfl ?_
        refine pv_iconst (v := 1) E d_Graph_queueAllThatAreAble_32 (by decide) ?_
        refine pf_Stage_queued E wd_495 d_Graph_queueAllThatAreAble_33 (by first | exact Or.inl rfl | exact Or.inr rfl | assumption) ?_
        have hT1 := hT.que i 1
        have hp1 := st_pool_g (hT1.2.1 i hin)
        rw [gF_f _ _ (show (5 : Nat) ≠ 6 by decide)] at hp1
        refine pv_aload_n E d_Graph_queueAllThatAreAble_36 rfl rfl ?_
        refine pv_callV E (fun adr => k_Stage_goesToPool l D ca A _ i adr) yv_Stage_goesToPool wd_143 rfl rfl (fun _ => ⟨_, rfl⟩) rfl ⟨by decide, by decide⟩ (Nat.le_of_ble_eq_true rfl) d_Graph_queueAllThatAreAble_37 ⟨by decide, by decide⟩ (fun r37 σ37 hq37 => ?_)
        obtain ⟨hr37, hs37⟩ := hq37
        subst r37
        subst σ37
        refine pv_if_eq (tgt := 54) E d_Graph_queueAllThatAreAble_40 rfl (fun h40 => ?_) (fun h40 => ?_)
        · skip
          have hpl : ¬ (¬ gF (g_scN g i) i 5 = 0 ∧ gA (g_scN g i) i = none) := fun z => by rw [hp1, if_neg z.1, if_pos (show gA (gsF (g_scN g i) i 6 1) i = none from z.2)] at h40; exact absurd h40 (by decide)
          obtain ⟨q1, q2, q3, q4, f0, hf0, h60, h70⟩ := hT1.2.2.1
          refine pv_aload_n E d_Graph_queueAllThatAreAble_54 rfl rfl ?_
          refine gf_Graph_line E wd_52 d_Graph_queueAllThatAreAble_55 ?_
          refine pv_top (congrArg ps_ref hT1.1.2.1) ?_
          refine pv_aload_n E d_Graph_queueAllThatAreAble_58 rfl rfl ?_
          refine pv_callV E (fun adr => k_Queue_append l D ca A _ 0 1 f0 (gL (g_scN g i)).length q1 q2 h60 q4 hf0 q3 i adr) yv_Queue_append wd_147 rfl rfl (fun _ => ⟨_, rfl⟩) rfl ⟨by decide, by decide⟩ (Nat.le_of_ble_eq_true rfl) d_Graph_queueAllThatAreAble_59 ⟨by decide, by decide⟩ (fun r59 σ59 hq59 => ?_)
          obtain ⟨hr59, hs59⟩ := hq59
          subst r59
          subst σ59
          refine pv_inc1 E d_Graph_queueAllThatAreAble_62 rfl (by decide) ?_
          refine pv_goto (tgt := 2) E d_Graph_queueAllThatAreAble_65 rfl ?_
          exact pv_back (ih (i + 1, q_app (ps_sI τ 3 i 10 1) 0 1 i f0 (gL (g_scN g i)).length) ⟨by omega, by show RC _ (g_sc1 (g_scN g i) i); rw [g_sc1, if_pos ⟨h21, hab⟩, if_neg hpl]; exact hT1.line hlt2.1 hf0 h60 h70, hFr.tr ((FrG.sI (by decide)).tr FrG.app), by rw [N_app]; exact hN⟩ (by show _ - (i + 1) < _ - i; omega)) ⟨rfl, congrArg (fun z : Int32 => some (ps_int z)) (nI_1 i), trivial⟩
        · skip
          have hpl : ¬ gF (g_scN g i) i 5 = 0 ∧ gA (g_scN g i) i = none := by
            by_cases z : ¬ gF (g_scN g i) i 5 = 0 ∧ gA (g_scN g i) i = none
            · exact z
            · exact absurd (pool_0 hp1 z) h40
          obtain ⟨q1, q2, q3, q4, f0, hf0, h60, h70⟩ := hT1.2.2.2
          refine pv_aload_n E d_Graph_queueAllThatAreAble_43 rfl rfl ?_
          refine gf_Graph_pool E wd_53 d_Graph_queueAllThatAreAble_44 ?_
          refine pv_top (congrArg ps_ref hT1.1.2.2.1) ?_
          refine pv_aload_n E d_Graph_queueAllThatAreAble_47 rfl rfl ?_
          refine pv_callV E (fun adr => k_Queue_append l D ca A _ 1 2 f0 (gP (g_scN g i)).length q1 q2 h60 q4 hf0 q3 i adr) yv_Queue_append wd_147 rfl rfl (fun _ => ⟨_, rfl⟩) rfl ⟨by decide, by decide⟩ (Nat.le_of_ble_eq_true rfl) d_Graph_queueAllThatAreAble_48 ⟨by decide, by decide⟩ (fun r48 σ48 hq48 => ?_)
          obtain ⟨hr48, hs48⟩ := hq48
          subst r48
          subst σ48
          refine pv_goto (tgt := 62) E d_Graph_queueAllThatAreAble_51 rfl ?_
          refine pv_inc1 E d_Graph_queueAllThatAreAble_62 rfl (by decide) ?_
          refine pv_goto (tgt := 2) E d_Graph_queueAllThatAreAble_65 rfl ?_
          exact pv_back (ih (i + 1, q_app (ps_sI τ 3 i 10 1) 1 2 i f0 (gP (g_scN g i)).length) ⟨by omega, by show RC _ (g_sc1 (g_scN g i) i); rw [g_sc1, if_pos ⟨h21, hab⟩, if_pos hpl]; exact hT1.pool hlt2.2 hf0 h60 h70, hFr.tr ((FrG.sI (by decide)).tr FrG.app), by rw [N_app]; exact hN⟩ (by show _ - (i + 1) < _ - i; omega)) ⟨rfl, congrArg (fun z : Int32 => some (ps_int z)) (nI_1 i), trivial⟩
set_option maxHeartbeats 8000000 in
set_option maxRecDepth 100000 in
theorem k_Graph_settle (l : Launch) (D : va_G) (ca : Nat → ClassId) (A : Nat → Prop) (σ : ps_S) (k : Nat) (u v : Int32) (g : gT) (hR : RC σ g) (hO : gOK g) (hk : k < gN g) (h0 : gF g k 0 = 0) (hu : ¬ u = 0) : ∀ adr, ps_M l y_Graph_settle c_Graph_settle 4 (Option.none : Option Jvm.ClassFile.FieldType) { frames := 2, cells := 0, slots := 0, locals := 44 } D ca A adr σ [ps_ref (some (1, 0)), ps_ref (some (3, k)), ps_int u, ps_int v] (fun rv σ' => rv = none ∧ RC σ' (g_give g k u v) ∧ FrG σ σ' ∧ ps_N σ' = ps_N σ) := by
  intro adr
  refine ps_M.of (by decide +kernel) (Nat.le_of_ble_eq_true rfl) ?_
  intro p_ e_ s_ m_ args_ below_ meth_ c_ E hr hlk hnm
  refine pv_aload_n E d_Graph_settle_0 rfl rfl ?_
  refine pv_iload_n E d_Graph_settle_1 rfl rfl ?_
  refine pv_iload_n E d_Graph_settle_2 rfl rfl ?_
  refine pv_callV E (fun adr => k_Stage_become l D ca A _ _ _ _ adr) yv_Stage_become wd_127 rfl rfl (fun _ => ⟨_, rfl⟩) rfl ⟨by decide, by decide⟩ (Nat.le_of_ble_eq_true rfl) d_Graph_settle_3 ⟨by decide, by decide⟩ (fun r3 σ3 hq3 => ?_)
  obtain ⟨hr3, hs3⟩ := hq3
  subst r3
  subst σ3
  refine pv_aload_n E d_Graph_settle_6 rfl rfl ?_
  refine pv_aload_n E d_Graph_settle_7 rfl rfl ?_
  refine pv_callV E (fun adr => k_Graph_noteTurn l D ca A _ _ adr) yv_Graph_noteTurn wd_131 rfl rfl (fun _ => ⟨_, rfl⟩) rfl ⟨by decide, by decide⟩ (Nat.le_of_ble_eq_true rfl) d_Graph_settle_8 ⟨by decide, by decide⟩ (fun r8 σ8 hq8 => ?_)
  obtain ⟨hr8, hs8⟩ := hq8
  subst r8
  subst σ8
  refine pv_aload_n E d_Graph_settle_11 rfl rfl ?_
  refine pv_callV E (fun adr => k_Graph_queueAllThatAreAble l D ca A _ (gsU (gsS g k u v) k) (hR.set k u v hu) (hO.set hk h0 hu) adr) yv_Graph_queueAllThatAreAble wd_135 rfl rfl (fun _ => ⟨_, rfl⟩) rfl ⟨by decide, by decide⟩ (Nat.le_of_ble_eq_true rfl) d_Graph_settle_12 ⟨by decide, by decide⟩ (fun r12 σ12 hq12 => ?_)
  obtain ⟨hr12, hq12, hf12, hn12⟩ := hq12
  subst r12
  exact pv_vret E hr hlk d_Graph_settle_15 (by decide) (by decide) ⟨rfl, hq12, (FrG.bec.tr FrG.note).tr hf12, hn12⟩
set_option maxHeartbeats 8000000 in
set_option maxRecDepth 100000 in
theorem k_Graph_settleIfPending (l : Launch) (D : va_G) (ca : Nat → ClassId) (A : Nat → Prop) (σ : ps_S) (s u v : Int32) (g : gT) (hR : RC σ g) (hO : gOK g) (hu : ¬ u = 0) : ∀ adr, ps_M l y_Graph_settleIfPending c_Graph_settleIfPending 5 (Option.some Jvm.ClassFile.FieldType.boolean) { frames := 3, cells := 0, slots := 0, locals := 67 } D ca A adr σ [ps_ref (some (1, 0)), ps_int s, ps_int u, ps_int v] (fun rv σ' => if (¬ s < 0 ∧ s.toNatClampNeg < gN g) ∧ gF g s.toNatClampNeg 0 = 0 then rv = some (ps_int 1) ∧ RC σ' (g_give g s.toNatClampNeg u v) ∧ FrG σ σ' ∧ ps_N σ' = ps_N σ else rv = some (ps_int 0) ∧ σ' = σ) := by
  intro adr
  refine ps_M.of (by decide +kernel) (Nat.le_of_ble_eq_true rfl) ?_
  intro p_ e_ s_ m_ args_ below_ meth_ c_ E hr hlk hnm
  refine pv_aload_n E d_Graph_settleIfPending_0 rfl rfl ?_
  refine pv_iload_n E d_Graph_settleIfPending_1 rfl rfl ?_
  refine pv_callV E (fun adr => k_Graph_find l D ca A _ _ g hR hO.1.1 adr) yv_Graph_find wd_115 rfl rfl (fun _ => ⟨_, rfl⟩) rfl ⟨by decide, by decide⟩ (Nat.le_of_ble_eq_true rfl) d_Graph_settleIfPending_2 ⟨by decide, by decide⟩ (fun r2 σ2 hq2 => ?_)
  obtain ⟨hr2, hs2⟩ := hq2
  subst r2
  subst σ2
  refine pv_astore E d_Graph_settleIfPending_5 (by decide) ?_
  refine pv_aload E d_Graph_settleIfPending_7 rfl ?_
  refine pv_ifnull (tgt := 20) E d_Graph_settleIfPending_9 rfl (fun h9 => ?_) (fun q9 h9 => ?_)
  · skip
    have hc : ¬ (¬ s < 0 ∧ s.toNatClampNeg < gN g) := fun z => by rw [g_find, if_pos z] at h9; cases h9
    refine pv_iconst (v := 0) E d_Graph_settleIfPending_20 (by decide) ?_
    exact pv_zret E hr hlk d_Graph_settleIfPending_21 (by first | rfl | (apply ps_zb; assumption)) (by decide) (by decide) (by show ite _ _ _; rw [if_neg (fun z => hc z.1)]; exact ⟨rfl, rfl⟩)
  · skip
    have hc : ¬ s < 0 ∧ s.toNatClampNeg < gN g := by
      by_cases z : ¬ s < 0 ∧ s.toNatClampNeg < gN g
      · exact z
      · rw [g_find, if_neg z] at h9; cases h9
    refine pv_aload E d_Graph_settleIfPending_12 rfl ?_
    refine pv_top (congrArg ps_ref (show g_find g s = some (3, s.toNatClampNeg) from if_pos hc)) ?_
    refine gf_Stage_state E wd_486 d_Graph_settleIfPending_14 ?_
    refine pv_top (congrArg ps_int (hR.2.1 _ hc.2).2.1) ?_
    refine pv_if_eq (tgt := 22) E d_Graph_settleIfPending_17 rfl (fun h17 => ?_) (fun h17 => ?_)
    · skip
      refine pv_aload_n E d_Graph_settleIfPending_22 rfl rfl ?_
      refine pv_aload E d_Graph_settleIfPending_23 rfl ?_
      refine pv_top (congrArg ps_ref (show g_find g s = some (3, s.toNatClampNeg) from if_pos hc)) ?_
      refine pv_iload_n E d_Graph_settleIfPending_25 rfl rfl ?_
      refine pv_iload_n E d_Graph_settleIfPending_26 rfl rfl ?_
      refine pv_callV E (fun adr => k_Graph_settle l D ca A _ s.toNatClampNeg u v g hR hO hc.2 h17 hu adr) yv_Graph_settle wd_123 rfl rfl (fun _ => ⟨_, rfl⟩) rfl ⟨by decide, by decide⟩ (Nat.le_of_ble_eq_true rfl) d_Graph_settleIfPending_27 ⟨by decide, by decide⟩ (fun r27 σ27 hq27 => ?_)
      obtain ⟨hr27, hq27, hf27, hn27⟩ := hq27
      subst r27
      refine pv_iconst (v := 1) E d_Graph_settleIfPending_30 (by decide) ?_
      exact pv_zret E hr hlk d_Graph_settleIfPending_31 (by first | rfl | (apply ps_zb; assumption)) (by decide) (by decide) (by show ite _ _ _; rw [if_pos ⟨hc, h17⟩]; exact ⟨rfl, hq27, hf27, hn27⟩)
    · skip
      refine pv_iconst (v := 0) E d_Graph_settleIfPending_20 (by decide) ?_
      exact pv_zret E hr hlk d_Graph_settleIfPending_21 (by first | rfl | (apply ps_zb; assumption)) (by decide) (by decide) (by show ite _ _ _; rw [if_neg (fun z => h17 z.2)]; exact ⟨rfl, rfl⟩)
set_option maxHeartbeats 8000000 in
set_option maxRecDepth 100000 in
theorem k_Graph_advance (l : Launch) (D : va_G) (ca : Nat → ClassId) (A : Nat → Prop) (σ : ps_S) (k : Nat) (g : gT) (hR : RC σ g) (hO : gOK (gsF g k 6 0)) (hk : k < gN g) (h9 : ¬ gF g k 2 = 9) : ∀ adr, ps_M l y_Graph_advance c_Graph_advance 2 (Option.none : Option Jvm.ClassFile.FieldType) { frames := 4, cells := 0, slots := 0, locals := 88 } D ca A adr σ [ps_ref (some (1, 0)), ps_ref (some (3, k))] (fun rv σ' => rv = none ∧ RC σ' (g_res g k) ∧ FrG σ σ' ∧ ps_N σ' = ps_N σ) := by
  intro adr
  refine ps_M.of (by decide +kernel) (Nat.le_of_ble_eq_true rfl) ?_
  intro p_ e_ s_ m_ args_ below_ meth_ c_ E hr hlk hnm
  have hR1 := hR.que k 0
  have hKk := hO.2.1 k hk
  rw [gF_f _ _ (show (2 : Nat) ≠ 6 by decide)] at hKk
  refine pv_aload_n E d_Graph_advance_0 rfl rfl ?_
  refine pv_iconst (v := 0) E d_Graph_advance_1 (by decide) ?_
  refine pf_Stage_queued E wd_495 d_Graph_advance_2 (by first | exact Or.inl rfl | exact Or.inr rfl | assumption) ?_
  refine pv_aload_n E d_Graph_advance_5 rfl rfl ?_
  refine gf_Stage_state E wd_486 d_Graph_advance_6 ?_
  refine pv_top (congrArg ps_int ((hR1.2.1 k hk).2.1.trans (gF_f _ _ (show (0 : Nat) ≠ 6 by decide)))) ?_
  refine pv_if_eq (tgt := 13) E d_Graph_advance_9 rfl (fun h9x => ?_) (fun h9x => ?_)
  · skip
    have hb9 := h9x
    have hs0 : gF (gsF g k 6 0) k 0 = 0 := (gF_f _ _ (show (0 : Nat) ≠ 6 by decide)).trans hb9
    refine pv_aload_n E d_Graph_advance_13 rfl rfl ?_
    refine pv_aload_n E d_Graph_advance_14 rfl rfl ?_
    refine pv_callV E (fun adr => k_Graph_decide l D ca A _ k (gsF g k 6 0) hR1 hO.1 hk (hKk.1.resolve_left h9) (fun z => hKk.2 ((gF_f _ _ (show (2 : Nat) ≠ 6 by decide)).symm.trans z)) adr) yv_Graph_decide wd_163 rfl rfl (fun _ => ⟨_, rfl⟩) rfl ⟨by decide, by decide⟩ (Nat.le_of_ble_eq_true rfl) d_Graph_advance_15 ⟨by decide, by decide⟩ (fun r15 σ15 hq15 => ?_)
    obtain ⟨hr15, hs15⟩ := hq15
    subst r15
    subst σ15
    refine pv_aload_n E d_Graph_advance_18 rfl rfl ?_
    refine gf_Stage_state E wd_486 d_Graph_advance_19 ?_
    refine pv_if_eq (tgt := 30) E d_Graph_advance_22 rfl (fun h22 => ?_) (fun h22 => ?_)
    · skip
      obtain ⟨a, hd⟩ := (dec_st hR1 hk hs0).mp h22
      have hRa : RC (st_dec (ps_sI σ 3 k 10 0) k (g_dec (gsF g k 6 0) k)) (gsA (gsF g k 6 0) k (some a)) := by rw [hd]; exact hR1.awa k (some a)
      refine pv_aload_n E d_Graph_advance_30 rfl rfl ?_
      refine pv_callV E (fun adr => k_Graph_queueAllThatAreAble l D ca A _ (gsA (gsF g k 6 0) k (some a)) hRa (hO.awa (g_dec_lt hd).1 (g_dec_lt hd).2) adr) yv_Graph_queueAllThatAreAble wd_135 rfl rfl (fun _ => ⟨_, rfl⟩) rfl ⟨by decide, by decide⟩ (Nat.le_of_ble_eq_true rfl) d_Graph_advance_31 ⟨by decide, by decide⟩ (fun r31 σ31 hq31 => ?_)
      obtain ⟨hr31, hq31, hf31, hn31⟩ := hq31
      subst r31
      exact pv_vret E hr hlk d_Graph_advance_34 (by decide) (by decide) ⟨rfl, by rw [g_res, if_pos hb9, hd]; exact hq31, (FrG.sI (by decide)).tr (FrG.dec.tr hf31), by rw [hn31, N_dec]; rfl⟩
    · skip
      obtain ⟨q, hd⟩ : ∃ q, g_dec (gsF g k 6 0) k = .inl q := by
        cases z : g_dec (gsF g k 6 0) k with
        | inl q => exact ⟨q, rfl⟩
        | inr a => exact absurd ((dec_st hR1 hk hs0).mpr ⟨a, z⟩) h22
      have hRa : RC (st_note (st_dec (ps_sI σ 3 k 10 0) k (g_dec (gsF g k 6 0) k)) k) (gsU (gsS (gsF g k 6 0) k q.1 q.2) k) := by rw [hd]; exact hR1.set k q.1 q.2 (g_dec_ne hd)
      refine pv_aload_n E d_Graph_advance_25 rfl rfl ?_
      refine pv_aload_n E d_Graph_advance_26 rfl rfl ?_
      refine pv_callV E (fun adr => k_Graph_noteTurn l D ca A _ _ adr) yv_Graph_noteTurn wd_131 rfl rfl (fun _ => ⟨_, rfl⟩) rfl ⟨by decide, by decide⟩ (Nat.le_of_ble_eq_true rfl) d_Graph_advance_27 ⟨by decide, by decide⟩ (fun r27 σ27 hq27 => ?_)
      obtain ⟨hr27, hs27⟩ := hq27
      subst r27
      subst σ27
      refine pv_aload_n E d_Graph_advance_30 rfl rfl ?_
      refine pv_callV E (fun adr => k_Graph_queueAllThatAreAble l D ca A _ (gsU (gsS (gsF g k 6 0) k q.1 q.2) k) hRa (hO.set hk hs0 (g_dec_ne hd)) adr) yv_Graph_queueAllThatAreAble wd_135 rfl rfl (fun _ => ⟨_, rfl⟩) rfl ⟨by decide, by decide⟩ (Nat.le_of_ble_eq_true rfl) d_Graph_advance_31 ⟨by decide, by decide⟩ (fun r31 σ31 hq31 => ?_)
      obtain ⟨hr31, hq31, hf31, hn31⟩ := hq31
      subst r31
      exact pv_vret E hr hlk d_Graph_advance_34 (by decide) (by decide) ⟨rfl, by rw [g_res, if_pos hb9, hd]; exact hq31, (FrG.sI (by decide)).tr (FrG.dec.tr (FrG.note.tr hf31)), by rw [hn31]; show ps_N (st_dec _ k _) = _; rw [N_dec]; rfl⟩
  · skip
    have hb9 := h9x
    exact pv_vret E hr hlk d_Graph_advance_12 (by decide) (by decide) ⟨rfl, by rw [g_res, if_neg hb9]; exact hR1, FrG.sI (by decide), rfl⟩
set_option maxHeartbeats 8000000 in
set_option maxRecDepth 100000 in
theorem k_Graph_workOffLine (l : Launch) (D : va_G) (ca : Nat → ClassId) (A : Nat → Prop) (σ : ps_S)  (g : gT) (hR : RC σ g) (hO : gOK g) : ∀ adr, ps_M l y_Graph_workOffLine c_Graph_workOffLine 3 (Option.none : Option Jvm.ClassFile.FieldType) { frames := 5, cells := 0, slots := 0, locals := 109 } D ca A adr σ [ps_ref (some (1, 0))] (fun rv σ' => rv = none ∧ RC σ' (g_work 96 g) ∧ FrG σ σ' ∧ ps_N σ' = ps_N σ) := by
  intro adr
  refine ps_M.of (by decide +kernel) (Nat.le_of_ble_eq_true rfl) ?_
  intro p_ e_ s_ m_ args_ below_ meth_ c_ E hr hlk hnm
  refine pv_iconst (v := 0) E d_Graph_workOffLine_0 (by decide) ?_
  refine pv_istore_n E d_Graph_workOffLine_1 rfl (by decide) ?_
  refine pv_sub (L' := [(0, ps_ref (some (1, 0))), (1, ps_int (nI 0))]) ⟨rfl, rfl, trivial⟩ ?_
  refine pv_loop (ι := Nat × (ps_S × gT)) (fun x => 96 - x.1) (fun x => [(0, ps_ref (some (1, 0))), (1, ps_int (nI x.1))]) (fun x => x.2.1) (fun x => x.1 ≤ 96 ∧ RC x.2.1 x.2.2 ∧ gOK x.2.2 ∧ g_work 96 g = g_work (96 - x.1) x.2.2 ∧ FrG σ x.2.1 ∧ ps_N x.2.1 = ps_N σ) (fun x hx ih => ?_) (0, (σ, g)) ⟨Nat.zero_le _, hR, hO, rfl, FrG.rf σ, rfl⟩
  obtain ⟨i, τ, γ⟩ := x
  obtain ⟨hi, hT, hOi, hw, hFr, hN⟩ := hx
  dsimp only at hi hT hOi hw hFr hN ih ⊢
  refine pv_iload_n E d_Graph_workOffLine_2 rfl rfl ?_
  refine pv_bipush (v := 96) E d_Graph_workOffLine_3 (by decide) ?_
  refine pv_icmp_ge (tgt := 32) E d_Graph_workOffLine_5 rfl (fun h5 => ?_) (fun h5 => ?_)
  · skip
    have hi2 : 96 ≤ i := by rw [show (96 : Int32) = nI 96 from rfl, nI_leI (by decide) (by omega)] at h5; exact h5
    exact pv_vret E hr hlk d_Graph_workOffLine_32 (by decide) (by decide) ⟨rfl, by rw [hw, show 96 - i = 0 by omega]; exact hT, hFr, hN⟩
  · skip
    have hi2 : i < 96 := by rw [show (96 : Int32) = nI 96 from rfl, nI_leI (by decide) (by omega)] at h5; omega
    obtain ⟨q1, q2, q3, q4, f0, hf0, h60, h70⟩ := hT.2.2.1
    refine pv_aload_n E d_Graph_workOffLine_8 rfl rfl ?_
    refine gf_Graph_line E wd_52 d_Graph_workOffLine_9 ?_
    refine pv_top (congrArg ps_ref hT.1.2.1) ?_
    refine pv_callV E (fun adr => k_Queue_takeFront l D ca A _ 0 1 f0 (gL γ).length q1 q2 h60 q4 hf0 q3 adr) yv_Queue_takeFront wd_155 rfl rfl (fun _ => ⟨_, rfl⟩) rfl ⟨by decide, by decide⟩ (Nat.le_of_ble_eq_true rfl) d_Graph_workOffLine_12 ⟨by decide, by decide⟩ (fun r12 σ12 hq12 => ?_)
    obtain ⟨hr12, hs12⟩ := hq12
    subst r12
    subst σ12
    refine pv_astore_n E d_Graph_workOffLine_15 rfl (by decide) ?_
    refine pv_aload_n E d_Graph_workOffLine_16 rfl rfl ?_
    refine pv_ifnonnull (tgt := 21) E d_Graph_workOffLine_17 rfl (fun q17 h17 => ?_) (fun h17 => ?_)
    · skip
      obtain ⟨k, x, hx⟩ : ∃ k x, gL γ = k :: x := by
        cases z : gL γ with
        | nil => rw [z] at h17; cases h17
        | cons k x => exact ⟨k, x, rfl⟩
      have hrk : (if (gL γ).length = 0 then none else ps_R τ 4 1 f0) = some (3, k) := by
        rw [hx, if_neg (by simp)]
        have := h70 0 k (by rw [hx]; rfl)
        rw [Nat.add_zero, Nat.mod_eq_of_lt hf0] at this
        exact this
      have hkm : k ∈ gL γ ++ gP γ := by rw [hx]; exact List.mem_append_left _ List.mem_cons_self
      have hT2 := hT.tline hx hf0 h70
      refine pv_aload_n E d_Graph_workOffLine_21 rfl rfl ?_
      refine pv_aload_n E d_Graph_workOffLine_22 rfl rfl ?_
      refine pv_top (congrArg ps_ref hrk) ?_
      refine pv_callV E (fun adr => k_Graph_advance l D ca A _ k (gsL γ x) hT2 (hOi.tline hx) (hOi.2.2.2 k hkm).1 (hOi.2.2.2 k hkm).2.2 adr) yv_Graph_advance wd_159 rfl rfl (fun _ => ⟨_, rfl⟩) rfl ⟨by decide, by decide⟩ (Nat.le_of_ble_eq_true rfl) d_Graph_workOffLine_23 ⟨by decide, by decide⟩ (fun r23 σ23 hq23 => ?_)
      obtain ⟨hr23, hq23, hf23, hn23⟩ := hq23
      subst r23
      refine pv_inc1 E d_Graph_workOffLine_26 rfl (by decide) ?_
      refine pv_goto (tgt := 2) E d_Graph_workOffLine_29 rfl ?_
      exact pv_back (ih (i + 1, (σ23, g_res (gsL γ x) k)) ⟨by omega, hq23, gOK.res (hOi.tline hx) (hOi.2.2.2 k hkm).1, by rw [hw, show 96 - i = (96 - (i + 1)) + 1 by omega, g_work, hx], hFr.tr (FrG.tk.tr hf23), by rw [hn23, N_tk]; exact hN⟩ (by show 96 - (i + 1) < 96 - i; omega)) ⟨rfl, congrArg (fun z : Int32 => some (ps_int z)) (nI_1 i), trivial⟩
    · skip
      have hx : gL γ = [] := by
        cases z : gL γ with
        | nil => rfl
        | cons k x =>
          have := h70 0 k (by rw [z]; rfl)
          rw [Nat.add_zero, Nat.mod_eq_of_lt hf0] at this
          rw [z, if_neg (by simp), this] at h17
          cases h17
      exact pv_vret E hr hlk d_Graph_workOffLine_20 (by decide) (by decide) ⟨rfl, by rw [hw, g_work_nil hx, hx]; exact hT, by rw [hx]; exact hFr, by rw [hx]; exact hN⟩
set_option maxHeartbeats 8000000 in
set_option maxRecDepth 100000 in
theorem k_Graph_advancePool (l : Launch) (D : va_G) (ca : Nat → ClassId) (A : Nat → Prop) (σ : ps_S)  (g : gT) (hR : RC σ g) (hO : gOK g) : ∀ adr, ps_M l y_Graph_advancePool c_Graph_advancePool 2 (Option.some Jvm.ClassFile.FieldType.boolean) { frames := 5, cells := 0, slots := 0, locals := 109 } D ca A adr σ [ps_ref (some (1, 0))] (fun rv σ' => (gP g = [] → rv = some (ps_int 0) ∧ σ' = σ) ∧ (∀ k x, gP g = k :: x → rv = some (ps_int 1) ∧ RC σ' (g_res (gsP g x) k) ∧ FrG σ σ' ∧ ps_N σ' = ps_N σ)) := by
  intro adr
  refine ps_M.of (by decide +kernel) (Nat.le_of_ble_eq_true rfl) ?_
  intro p_ e_ s_ m_ args_ below_ meth_ c_ E hr hlk hnm
  obtain ⟨q1, q2, q3, q4, f0, hf0, h60, h70⟩ := hR.2.2.2
  refine pv_aload_n E d_Graph_advancePool_0 rfl rfl ?_
  refine gf_Graph_pool E wd_53 d_Graph_advancePool_1 ?_
  refine pv_top (congrArg ps_ref hR.1.2.2.1) ?_
  refine pv_callV E (fun adr => k_Queue_takeFront l D ca A _ 1 2 f0 (gP g).length q1 q2 h60 q4 hf0 q3 adr) yv_Queue_takeFront wd_155 rfl rfl (fun _ => ⟨_, rfl⟩) rfl ⟨by decide, by decide⟩ (Nat.le_of_ble_eq_true rfl) d_Graph_advancePool_4 ⟨by decide, by decide⟩ (fun r4 σ4 hq4 => ?_)
  obtain ⟨hr4, hs4⟩ := hq4
  subst r4
  subst σ4
  refine pv_astore_n E d_Graph_advancePool_7 rfl (by decide) ?_
  refine pv_aload_n E d_Graph_advancePool_8 rfl rfl ?_
  refine pv_ifnonnull (tgt := 14) E d_Graph_advancePool_9 rfl (fun q9 h9 => ?_) (fun h9 => ?_)
  · skip
    obtain ⟨k, x, hx⟩ : ∃ k x, gP g = k :: x := by
      cases z : gP g with
      | nil => rw [z] at h9; cases h9
      | cons k x => exact ⟨k, x, rfl⟩
    have hrk : (if (gP g).length = 0 then none else ps_R σ 4 2 f0) = some (3, k) := by
      rw [hx, if_neg (by simp)]
      have := h70 0 k (by rw [hx]; rfl)
      rw [Nat.add_zero, Nat.mod_eq_of_lt hf0] at this
      exact this
    have hkm : k ∈ gL g ++ gP g := by rw [hx]; exact List.mem_append_right _ List.mem_cons_self
    have hT2 := hR.tpool hx hf0 h70
    refine pv_aload_n E d_Graph_advancePool_14 rfl rfl ?_
    refine pv_aload_n E d_Graph_advancePool_15 rfl rfl ?_
    refine pv_top (congrArg ps_ref hrk) ?_
    refine pv_callV E (fun adr => k_Graph_advance l D ca A _ k (gsP g x) hT2 (hO.tpool hx) (hO.2.2.2 k hkm).1 (hO.2.2.2 k hkm).2.2 adr) yv_Graph_advance wd_159 rfl rfl (fun _ => ⟨_, rfl⟩) rfl ⟨by decide, by decide⟩ (Nat.le_of_ble_eq_true rfl) d_Graph_advancePool_16 ⟨by decide, by decide⟩ (fun r16 σ16 hq16 => ?_)
    obtain ⟨hr16, hq16, hf16, hn16⟩ := hq16
    subst r16
    refine pv_iconst (v := 1) E d_Graph_advancePool_19 (by decide) ?_
    exact pv_zret E hr hlk d_Graph_advancePool_20 (by first | rfl | (apply ps_zb; assumption)) (by decide) (by decide) ⟨fun z => by (rw [hx] at z; cases z), fun k' x' z => by (rw [hx] at z; cases z; exact ⟨rfl, hq16, FrG.tk.tr hf16, by rw [hn16, N_tk]⟩)⟩
  · skip
    have hx : gP g = [] := by
      cases z : gP g with
      | nil => rfl
      | cons k x =>
        have := h70 0 k (by rw [z]; rfl)
        rw [Nat.add_zero, Nat.mod_eq_of_lt hf0] at this
        rw [z, if_neg (by simp), this] at h9
        cases h9
    refine pv_iconst (v := 0) E d_Graph_advancePool_12 (by decide) ?_
    exact pv_zret E hr hlk d_Graph_advancePool_13 (by first | rfl | (apply ps_zb; assumption)) (by decide) (by decide) ⟨fun _ => ⟨rfl, by rw [hx]; rfl⟩, fun k x z => by rw [hx] at z; cases z⟩
end
section
/-! New arrays and new stages. -/
theorem mk_I (σ : ps_S) {κ len a b : Nat} (h : ¬ (a = κ ∧ b = ps_N σ κ)) : ps_I (ps_mk σ κ len) a b = ps_I σ a b := if_neg h
theorem mk_J (σ : ps_S) {κ len a b : Nat} (h : ¬ (a = κ ∧ b = ps_N σ κ)) : ps_J (ps_mk σ κ len) a b = ps_J σ a b := if_neg h
theorem mk_R (σ : ps_S) {κ len a b : Nat} (h : ¬ (a = κ ∧ b = ps_N σ κ)) : ps_R (ps_mk σ κ len) a b = ps_R σ a b := if_neg h
theorem mk_L (σ : ps_S) {κ len a b : Nat} (h : ¬ (a = κ ∧ b = ps_N σ κ)) : ps_L (ps_mk σ κ len) a b = ps_L σ a b := if_neg h
theorem mk_L1 (σ : ps_S) (κ len : Nat) : ps_L (ps_mk σ κ len) κ (ps_N σ κ) = len := if_pos ⟨rfl, rfl⟩
theorem mk_N (σ : ps_S) {κ len a : Nat} (h : a ≠ κ) : ps_N (ps_mk σ κ len) a = ps_N σ a := if_neg h
theorem mk_N1 (σ : ps_S) (κ len : Nat) : ps_N (ps_mk σ κ len) κ = ps_N σ κ + 1 := if_pos rfl
theorem FrG.mk {σ : ps_S} {κ len : Nat} (h : 1 ≤ κ ∧ κ ≤ 4) : FrG σ (ps_mk σ κ len) := fun a ha => by
  have hne : a ≠ κ := fun z => ha (z ▸ h)
  refine ⟨?_, ?_, ?_, ?_, mk_N σ hne⟩
  · funext b; exact mk_I σ (fun z => hne z.1)
  · funext b; exact mk_J σ (fun z => hne z.1)
  · funext b; exact mk_R σ (fun z => hne z.1)
  · funext b; exact mk_L σ (fun z => hne z.1)
/-- two stores that agree on what the graph g has -/
def sameG (n : Nat) (σ τ : ps_S) : Prop := (∀ κ i j, (1 ≤ κ ∧ κ ≤ 2) ∨ (κ = 3 ∧ i < n) → ps_I τ κ i j = ps_I σ κ i j ∧ ps_R τ κ i j = ps_R σ κ i j) ∧ (∀ i, i < 3 + n → ps_L τ 4 i = ps_L σ 4 i ∧ (∀ j, i = 0 → j < n → ps_R τ 4 i j = ps_R σ 4 i j) ∧ (i ≠ 0 → ∀ j, ps_R τ 4 i j = ps_R σ 4 i j)) ∧ ∀ κ, κ ≤ 3 → ps_N τ κ = ps_N σ κ
theorem RC.same {σ τ : ps_S} {g : gT} (h : RC σ g) (hs : sameG (gN g) σ τ) : RC τ g := by
  obtain ⟨s1, s2, s3⟩ := hs
  obtain ⟨⟨a1, a2, a3, a4, a5, a6, a7, a8, a9⟩, h1, h2, h3⟩ := h
  have rq : ∀ {q r : Nat} {x : List Nat}, RQ σ q r x → (r = 1 ∨ r = 2) → RQ τ q r x := by
    intro q r x hq hr
    obtain ⟨b1, b2, b3, b4, f0, b5, b6, b7⟩ := hq
    exact ⟨by rw [(s1 2 q 0 (Or.inl (by decide))).2]; exact b1, by rw [(s2 r (by omega)).1]; exact b2, b3, by rw [(s1 2 q 2 (Or.inl (by decide))).1]; exact b4, f0, b5, by rw [(s1 2 q 1 (Or.inl (by decide))).1]; exact b6, fun i k hi => by rw [(s2 r (by omega)).2.2 (by omega)]; exact b7 i k hi⟩
  refine ⟨⟨by rw [(s1 1 0 0 (Or.inl (by decide))).2]; exact a1, by rw [(s1 1 0 1 (Or.inl (by decide))).2]; exact a2, by rw [(s1 1 0 2 (Or.inl (by decide))).2]; exact a3, by rw [(s1 1 0 3 (Or.inl (by decide))).1]; exact a4, by rw [(s1 1 0 4 (Or.inl (by decide))).1]; exact a5, by rw [(s2 0 (by omega)).1]; exact a6, by rw [s3 1 (by decide)]; exact a7, by rw [s3 2 (by decide)]; exact a8, by rw [s3 3 (by decide)]; exact a9⟩, fun k hk => ?_, rq h2 (Or.inl rfl), rq h3 (Or.inr rfl)⟩
  obtain ⟨⟨e0, e1, e2, e3, e4, e5, e6, e7, e8⟩, e9, e10, e11, e12, e13⟩ := h1 k hk
  have q := fun j => s1 3 k j (Or.inr ⟨rfl, hk⟩)
  exact ⟨⟨by rw [(s2 0 (by omega)).2.1 k rfl hk]; exact e0, by rw [(q 0).1]; exact e1, by rw [(q 1).1]; exact e2, by rw [(q 2).1]; exact e3, by rw [(q 3).1]; exact e4, by rw [(q 4).1]; exact e5, by rw [(q 5).2]; exact e6, by rw [(s2 (3 + k) (by omega)).1]; exact e7, fun j i hj => by rw [(s2 (3 + k) (by omega)).2.2 (by omega)]; exact e8 j i hj⟩, by rw [(q 6).1]; exact e9, by rw [(q 7).1]; exact e10, by rw [(q 8).1]; exact e11, by rw [(q 9).2]; exact e12, by rw [(q 10).1]; exact e13⟩
theorem sameG.tr {n : Nat} {a b c : ps_S} (h1 : sameG n a b) (h2 : sameG n b c) : sameG n a c :=
  ⟨fun κ i j h => ⟨(h2.1 κ i j h).1.trans (h1.1 κ i j h).1, (h2.1 κ i j h).2.trans (h1.1 κ i j h).2⟩, fun i hi => ⟨(h2.2.1 i hi).1.trans (h1.2.1 i hi).1, fun j h0 hj => ((h2.2.1 i hi).2.1 j h0 hj).trans ((h1.2.1 i hi).2.1 j h0 hj), fun h0 j => ((h2.2.1 i hi).2.2 h0 j).trans ((h1.2.1 i hi).2.2 h0 j)⟩, fun κ hκ => (h2.2.2 κ hκ).trans (h1.2.2 κ hκ)⟩
theorem sameG.arr {σ : ps_S} {n len : Nat} (h : ps_N σ 4 = 3 + n) : sameG n σ (ps_mk σ 4 len) := by
  refine ⟨fun κ i j hc => ?_, fun i hi => ?_, fun κ hκ => mk_N σ (by omega)⟩
  · have hne : ¬ (κ = 4 ∧ i = ps_N σ 4) := by
      rintro ⟨rfl, -⟩
      rcases hc with h | h
      · omega
      · omega
    exact ⟨congrFun (mk_I σ hne) j, congrFun (mk_R σ hne) j⟩
  · have hne : ¬ (4 = 4 ∧ i = ps_N σ 4) := fun z => by have := z.2; omega
    exact ⟨mk_L σ hne, fun j _ _ => congrFun (mk_R σ hne) j, fun _ j => congrFun (mk_R σ hne) j⟩
theorem sameG.fill {σ : ps_S} {n b j : Nat} {v : Option (Nat × Nat)} (h : 3 + n ≤ b) : sameG n σ (ps_sR σ 4 b j v) := by
  refine ⟨fun κ i c hc => ⟨rfl, ?_⟩, fun i hi => ⟨rfl, fun c _ _ => ps_R_ne σ _ (by omega), fun _ c => ps_R_ne σ _ (by omega)⟩, fun κ hκ => rfl⟩
  refine ps_R_k σ ?_
  rcases hc with h | h
  · omega
  · omega
theorem FrG.fill {σ : ps_S} {b j : Nat} {v : Option (Nat × Nat)} : FrG σ (ps_sR σ 4 b j v) := FrG.sR (by decide)
/-- Stage's constructor -/
def st_init (σ : ps_S) (k : Nat) (nu kd fn a as : Int32) (r : Option (Nat × Nat)) : ps_S :=
  ps_sI (ps_sI (ps_sR (ps_sI (ps_sI (ps_sI (ps_sI (ps_sI σ 3 k 0 nu) 3 k 1 kd) 3 k 2 fn) 3 k 3 a) 3 k 4 as) 3 k 5 r) 3 k 6 0) 3 k 8 1073741824
/-- a new stage laid into the graph -/
def st_add (σ : ps_S) (n : Nat) (kd fn a as : Int32) : ps_S := ps_sI (ps_sR (st_init (ps_mk σ 3 0) n (nI n) kd fn a as (some (4, 3 + n))) 4 0 n (some (3, n))) 1 0 3 (nI (n + 1))
theorem st_init_I (σ : ps_S) (k : Nat) (nu kd fn a as : Int32) (r : Option (Nat × Nat)) (j : Nat) : ps_I (st_init σ k nu kd fn a as r) 3 k j = if j = 8 then 1073741824 else if j = 6 then 0 else if j = 4 then as else if j = 3 then a else if j = 2 then fn else if j = 1 then kd else if j = 0 then nu else ps_I σ 3 k j := by
  unfold st_init
  simp only [ps_I_sI, ps_I_sR, true_and]
theorem st_init_ne (σ : ps_S) {k : Nat} (nu kd fn a as : Int32) (r : Option (Nat × Nat)) {κ i : Nat} (h : ¬ (κ = 3 ∧ i = k)) (j : Nat) : ps_I (st_init σ k nu kd fn a as r) κ i j = ps_I σ κ i j ∧ ps_R (st_init σ k nu kd fn a as r) κ i j = ps_R σ κ i j := by
  unfold st_init
  have h' : ∀ c : Nat, ¬ (κ = 3 ∧ i = k ∧ j = c) := fun c z => h ⟨z.1, z.2.1⟩
  constructor
  · simp only [ps_I_sI, ps_I_sR, h', if_false]
  · show ps_R (ps_sR _ 3 k 5 r) κ i j = _
    rw [ps_R_sR, if_neg (h' 5)]
    rfl
theorem st_init_R (σ : ps_S) (k : Nat) (nu kd fn a as : Int32) (r : Option (Nat × Nat)) (j : Nat) : ps_R (st_init σ k nu kd fn a as r) 3 k j = if j = 5 then r else ps_R σ 3 k j := by
  show ps_R (ps_sR _ 3 k 5 r) 3 k j = _
  rw [ps_R_sR]
  by_cases h : j = 5
  · rw [if_pos ⟨rfl, rfl, h⟩, if_pos h]
  · rw [if_neg (fun z : 3 = 3 ∧ k = k ∧ j = 5 => h z.2.2), if_neg h]
    rfl
theorem FrG.init {σ : ps_S} {k : Nat} {nu kd fn a as : Int32} {r : Option (Nat × Nat)} : FrG σ (st_init σ k nu kd fn a as r) :=
  ((((((FrG.sI (by decide)).tr (FrG.sI (by decide))).tr (FrG.sI (by decide))).tr (FrG.sI (by decide))).tr (FrG.sI (by decide))).tr (FrG.sR (by decide))).tr ((FrG.sI (by decide)).tr (FrG.sI (by decide)))
theorem FrG.add {σ : ps_S} {n : Nat} {kd fn a as : Int32} : FrG σ (st_add σ n kd fn a as) :=
  (FrG.mk (by decide)).tr (FrG.init.tr ((FrG.sR (by decide)).tr (FrG.sI (by decide))))
theorem N_add (σ : ps_S) (n : Nat) (kd fn a as : Int32) : ps_N (st_add σ n kd fn a as) = ps_N (ps_mk σ 3 0) := rfl
theorem gF_mk (g : gT) (kd fn nu asy : Int32) (ins : List Nat) {k : Nat} (h : k ≠ gN g) (c : Nat) : gF (g_mk g kd fn nu asy ins) k c = gF g k c := congrFun (if_neg h) c
theorem gF_mk1 (g : gT) (kd fn nu asy : Int32) (ins : List Nat) (c : Nat) : gF (g_mk g kd fn nu asy ins) (gN g) c = if c = 2 then kd else if c = 3 then fn else if c = 4 then nu else if c = 5 then asy else 0 := congrFun (if_pos rfl) c
theorem gI_mk (g : gT) (kd fn nu asy : Int32) (ins : List Nat) {k : Nat} (h : k ≠ gN g) : gI (g_mk g kd fn nu asy ins) k = gI g k := va_up_ne _ _ h
theorem gI_mk1 (g : gT) (kd fn nu asy : Int32) (ins : List Nat) : gI (g_mk g kd fn nu asy ins) (gN g) = ins := va_up_self _ _ _
theorem gA_mk (g : gT) (kd fn nu asy : Int32) (ins : List Nat) {k : Nat} (h : k ≠ gN g) : gA (g_mk g kd fn nu asy ins) k = gA g k := va_up_ne _ _ h
theorem gA_mk1 (g : gT) (kd fn nu asy : Int32) (ins : List Nat) : gA (g_mk g kd fn nu asy ins) (gN g) = none := va_up_self _ _ _
theorem RC.mk {σ : ps_S} {g : gT} {kd fn a as : Int32} {ins : List Nat} (h : RC σ g) (hL : ps_L σ 4 (3 + gN g) = ins.length) (hI : ∀ j i, ins[j]? = some i → ps_R σ 4 (3 + gN g) j = some (3, i)) : RC (st_add σ (gN g) kd fn a as) (g_mk g kd fn a as ins) := by
  have hN3 : ps_N σ 3 = gN g := h.1.2.2.2.2.2.2.2.2
  have hI3 : ∀ κ i j, ¬ (κ = 3 ∧ i = gN g) → ¬ (κ = 1 ∧ i = 0 ∧ j = 3) → ps_I (st_add σ (gN g) kd fn a as) κ i j = ps_I σ κ i j := by
    intro κ i j p1 p2
    unfold st_add
    rw [ps_I_sI, if_neg p2, ps_I_sR, (st_init_ne _ _ _ _ _ _ _ p1 j).1, mk_I σ (by rw [hN3]; exact p1)]
  have hR3 : ∀ κ i j, ¬ (κ = 3 ∧ i = gN g) → ¬ (κ = 4 ∧ i = 0 ∧ j = gN g) → ps_R (st_add σ (gN g) kd fn a as) κ i j = ps_R σ κ i j := by
    intro κ i j p1 p2
    show ps_R (ps_sR _ 4 0 (gN g) (some (3, gN g))) κ i j = _
    rw [ps_R_sR, if_neg p2, (st_init_ne _ _ _ _ _ _ _ p1 j).2, mk_R σ (by rw [hN3]; exact p1)]
  have hL3 : ∀ i, ps_L (st_add σ (gN g) kd fn a as) 4 i = ps_L σ 4 i := fun i => mk_L σ (fun z => absurd z.1 (by decide))
  obtain ⟨⟨a1, a2, a3, a4, a5, a6, a7, a8, a9⟩, h1, h2, h3⟩ := h
  have rq : ∀ {q r : Nat} {x : List Nat}, RQ σ q r x → (r = 1 ∨ r = 2) → RQ (st_add σ (gN g) kd fn a as) q r x := by
    intro q r x hq hr
    obtain ⟨b1, b2, b3, b4, f0, b5, b6, b7⟩ := hq
    exact ⟨by rw [hR3 2 q 0 (by omega) (by omega)]; exact b1, by rw [hL3]; exact b2, b3, by rw [hI3 2 q 2 (by omega) (by omega)]; exact b4, f0, b5, by rw [hI3 2 q 1 (by omega) (by omega)]; exact b6, fun i k hi => by rw [hR3 4 r _ (by omega) (by omega)]; exact b7 i k hi⟩
  refine ⟨⟨by rw [hR3 1 0 0 (by omega) (by omega)]; exact a1, by rw [hR3 1 0 1 (by omega) (by omega)]; exact a2, by rw [hR3 1 0 2 (by omega) (by omega)]; exact a3, ps_I_eq _ _ _ _ _, by rw [hI3 1 0 4 (by omega) (by omega)]; exact a5, by rw [hL3]; exact a6, a7, a8, ?_⟩, fun k hk => ?_, rq h2 (Or.inl rfl), rq h3 (Or.inr rfl)⟩
  · show ps_N (ps_mk σ 3 0) 3 = gN g + 1
    rw [mk_N1, hN3]
  · have hk' : k < gN g + 1 := hk
    by_cases hkn : k = gN g
    · subst hkn
      have q : ∀ j, ps_I (st_add σ (gN g) kd fn a as) 3 (gN g) j = ps_I (st_init (ps_mk σ 3 0) (gN g) (nI (gN g)) kd fn a as (some (4, 3 + gN g))) 3 (gN g) j := by
        intro j
        unfold st_add
        rw [ps_I_k _ (by decide)]
        rfl
      have q2 : ∀ j, ps_R (st_add σ (gN g) kd fn a as) 3 (gN g) j = ps_R (st_init (ps_mk σ 3 0) (gN g) (nI (gN g)) kd fn a as (some (4, 3 + gN g))) 3 (gN g) j := fun j => ps_R_k _ (by decide)
      have z1 : ∀ j, ps_I (ps_mk σ 3 0) 3 (gN g) j = 0 := fun j => by
        have : ps_I (ps_mk σ 3 0) 3 (gN g) = fun _ => 0 := if_pos ⟨rfl, hN3.symm⟩
        rw [this]
      have z2 : ∀ j, ps_R (ps_mk σ 3 0) 3 (gN g) j = none := fun j => by
        have : ps_R (ps_mk σ 3 0) 3 (gN g) = fun _ => none := if_pos ⟨rfl, hN3.symm⟩
        rw [this]
      refine ⟨⟨?_, ?_, ?_, ?_, ?_, ?_, ?_, ?_, ?_⟩, ?_, ?_, ?_, ?_, ?_⟩
      · show ps_R (ps_sR _ 4 0 (gN g) (some (3, gN g))) 4 0 (gN g) = _
        rw [ps_R_eq]
      · rw [q, st_init_I]; rfl
      · rw [q, st_init_I, gF_mk1]; rfl
      · rw [q, st_init_I, gF_mk1]; rfl
      · rw [q, st_init_I, gF_mk1]; rfl
      · rw [q, st_init_I, gF_mk1]; rfl
      · rw [q2, st_init_R]; rfl
      · rw [hL3, gI_mk1]; exact hL
      · intro j i hj
        rw [gI_mk1] at hj
        rw [hR3 4 (3 + gN g) j (by omega) (by omega)]
        exact hI j i hj
      · rw [q, st_init_I, gF_mk1]; rfl
      · rw [q, st_init_I, gF_mk1, z1]; rfl
      · rw [q, st_init_I, g_tv, gF_mk1]; rfl
      · rw [q2, st_init_R, z2, gA_mk1]; rfl
      · rw [q, st_init_I, gF_mk1, z1]; rfl
    · have hk2 : k < gN g := by omega
      obtain ⟨⟨e0, e1, e2, e3, e4, e5, e6, e7, e8⟩, e9, e10, e11, e12, e13⟩ := h1 k hk2
      have q : ∀ j, ps_I (st_add σ (gN g) kd fn a as) 3 k j = ps_I σ 3 k j := fun j => hI3 3 k j (by omega) (by omega)
      have q2 : ∀ j, ps_R (st_add σ (gN g) kd fn a as) 3 k j = ps_R σ 3 k j := fun j => hR3 3 k j (by omega) (by omega)
      have et : g_tv (g_mk g kd fn a as ins) k = g_tv g k := by
        unfold g_tv
        rw [gF_mk g _ _ _ _ _ hkn]
        rfl
      refine ⟨⟨by rw [hR3 4 0 k (by omega) (by omega)]; exact e0, by rw [q]; exact e1, by rw [q, gF_mk g _ _ _ _ _ hkn]; exact e2, by rw [q, gF_mk g _ _ _ _ _ hkn]; exact e3, by rw [q, gF_mk g _ _ _ _ _ hkn]; exact e4, by rw [q, gF_mk g _ _ _ _ _ hkn]; exact e5, by rw [q2]; exact e6, by rw [hL3, gI_mk g _ _ _ _ _ hkn]; exact e7, fun j i hj => ?_⟩, by rw [q, gF_mk g _ _ _ _ _ hkn]; exact e9, by rw [q, gF_mk g _ _ _ _ _ hkn]; exact e10, by rw [q, et]; exact e11, by rw [q2, gA_mk g _ _ _ _ _ hkn]; exact e12, by rw [q, gF_mk g _ _ _ _ _ hkn]; exact e13⟩
      rw [gI_mk g _ _ _ _ _ hkn] at hj
      rw [hR3 4 (3 + k) j (by omega) (by omega)]
      exact e8 j i hj
theorem gOK.mk {g : gT} {kd fn a as : Int32} {ins : List Nat} (h : gOK g) (hn : gN g < 48) (hl : ins.length ≤ 48) (hi : ∀ i, i ∈ ins → i < gN g) (hk : (kd = 9 ∨ 0 < ins.length) ∧ (kd = 5 → 1 < ins.length)) : gOK (g_mk g kd fn a as ins) := by
  obtain ⟨hW, hK, hQ⟩ := h
  refine ⟨⟨hn, ⟨?_, hW.2.1.2⟩, fun k hk' => ?_⟩, fun k hk' => ?_, hQ.1, fun k hk' => ?_⟩
  · have h1 := hW.2.1.1
    unfold gE at h1 ⊢
    show gC g + (sumN (g_ph (g_mk g kd fn a as ins)) (gN g) + g_ph (g_mk g kd fn a as ins) (gN g)) ≤ 2 * (gN g + 1)
    have h2 : sumN (g_ph (g_mk g kd fn a as ins)) (gN g) = sumN (g_ph g) (gN g) := sumN_congr _ (fun k hk => by
      rw [g_ph, g_ph, gF_mk g _ _ _ _ _ (by omega), gA_mk g _ _ _ _ _ (by omega)])
    have h3 : g_ph (g_mk g kd fn a as ins) (gN g) ≤ 2 := by
      unfold g_ph
      split
      · split <;> omega
      · omega
    omega
  · have hk2 : k < gN g + 1 := hk'
    by_cases hkn : k = gN g
    · subst hkn
      rw [gI_mk1, gA_mk1]
      exact ⟨hl, fun i hi' => Nat.lt_succ_of_lt (hi i hi'), fun j hj => by cases hj⟩
    · rw [gI_mk g _ _ _ _ _ hkn, gA_mk g _ _ _ _ _ hkn]
      have := hW.2.2 k (by omega)
      exact ⟨this.1, fun i hi' => Nat.lt_succ_of_lt (this.2.1 i hi'), fun j hj => Nat.lt_succ_of_lt (this.2.2 j hj)⟩
  · have hk2 : k < gN g + 1 := hk'
    by_cases hkn : k = gN g
    · subst hkn
      rw [gI_mk1, gF_mk1]
      exact hk
    · rw [gI_mk g _ _ _ _ _ hkn, gF_mk g _ _ _ _ _ hkn]
      exact hK k (by omega)
  · have := hQ.2 k hk'
    have hne : k ≠ gN g := by have := this.1; omega
    rw [gF_mk g _ _ _ _ _ hne, gF_mk g _ _ _ _ _ hne]
    exact ⟨Nat.lt_succ_of_lt this.1, this.2⟩
end
section
/-! constructors; places in the pool -/
def q_init (σ : ps_S) (q : Nat) : ps_S := ps_sR (ps_mk σ 4 48) 2 q 0 (some (4, ps_N σ 4))
def gr_1 (σ : ps_S) : ps_S := ps_sR (ps_mk σ 4 48) 1 0 0 (some (4, ps_N σ 4))
def gr_2 (σ : ps_S) : ps_S := ps_sR (q_init (ps_mk (gr_1 σ) 2 0) (ps_N (gr_1 σ) 2)) 1 0 1 (some (2, ps_N (gr_1 σ) 2))
def gr_init (σ : ps_S) : ps_S := ps_sR (q_init (ps_mk (gr_2 σ) 2 0) (ps_N (gr_2 σ) 2)) 1 0 2 (some (2, ps_N (gr_2 σ) 2))
def g_0 : gT := (0, fun _ _ => 0, fun _ => [], fun _ => none, fun _ => 0, 0, [], [])
def g_ix (k : Nat) : List Nat → Nat → Int32
  | [], _ => -1
  | a :: r, i => if a = k then nI i else g_ix k r (i + 1)
theorem q_place_ix {σ : ps_S} {r k f : Nat} : ∀ (x : List Nat) (i : Nat), (∀ j z, x[j]? = some z → ps_R σ 4 r ((f + (i + j)) % 48) = some (3, z)) → q_place σ r k f x.length i = g_ix k x i
  | [], i, _ => rfl
  | a :: x, i, h => by
    have h0 := h 0 a rfl
    rw [Nat.add_zero] at h0
    rw [List.length_cons, q_place, g_ix, h0, q_place_ix x (i + 1) (fun j z hj => by
      have := h (j + 1) z (by rw [List.getElem?_cons_succ]; exact hj)
      rw [show i + 1 + j = i + (j + 1) by omega]
      exact this)]
    by_cases hk : a = k
    · rw [if_pos hk, if_pos (by rw [hk])]
    · rw [if_neg hk, if_neg (fun z => hk (by injection z with z; injection z))]
def l_sh (set : Int64) (n : Nat) : Int64 := (set.toUInt64 >>> ((nI n).toInt64.toUInt64 &&& Int64.toUInt64 63)).toInt64
def g_hasAll (g : gT) (set : Int64) : Int32 := if lg_cmp set 0 = 0 then 0 else if lg_cmp (l_sh set (gN g)) 0 = 0 then 1 else 0
end
section
set_option maxHeartbeats 8000000 in
set_option maxRecDepth 100000 in
theorem k_Stage_init (l : Launch) (D : va_G) (ca : Nat → ClassId) (A : Nat → Prop) (σ : ps_S) (k : Nat) (nu kd fn a as : Int32) (r : Option (Nat × Nat)) (hb : as = 0 ∨ as = 1) : ∀ adr, ps_M l y_Stage_init c_Stage_init 7 (Option.none : Option Jvm.ClassFile.FieldType) { frames := 1, cells := 0, slots := 0, locals := 20 } D ca A adr σ [ps_ref (some (3, k)), ps_int nu, ps_int kd, ps_int fn, ps_int a, ps_int as, ps_ref r] (fun rv σ' => rv = none ∧ σ' = st_init σ k nu kd fn a as r) := by
  intro adr
  refine ps_M.of (by decide +kernel) (Nat.le_of_ble_eq_true rfl) ?_
  intro p_ e_ s_ m_ args_ below_ meth_ c_ E hr hlk hnm
  refine pv_aload_n E d_Stage_init_0 rfl rfl ?_
  refine pv_objInit E wd_470 wd_24 wd_25 (Nat.le_of_ble_eq_true rfl) (by decide) d_Stage_init_1 ?_
  refine pv_aload_n E d_Stage_init_4 rfl rfl ?_
  refine pv_iload_n E d_Stage_init_5 rfl rfl ?_
  refine pf_Stage_number E wd_472 d_Stage_init_6 hnm ?_
  refine pv_aload_n E d_Stage_init_9 rfl rfl ?_
  refine pv_iload_n E d_Stage_init_10 rfl rfl ?_
  refine pf_Stage_kind E wd_474 d_Stage_init_11 hnm ?_
  refine pv_aload_n E d_Stage_init_14 rfl rfl ?_
  refine pv_iload_n E d_Stage_init_15 rfl rfl ?_
  refine pf_Stage_function E wd_477 d_Stage_init_16 hnm ?_
  refine pv_aload_n E d_Stage_init_19 rfl rfl ?_
  refine pv_iload E d_Stage_init_20 rfl ?_
  refine pf_Stage_a E wd_479 d_Stage_init_22 hnm ?_
  refine pv_aload_n E d_Stage_init_25 rfl rfl ?_
  refine pv_iload E d_Stage_init_26 rfl ?_
  refine pf_Stage_async E wd_481 d_Stage_init_28 (hb) hnm ?_
  refine pv_aload_n E d_Stage_init_31 rfl rfl ?_
  refine pv_aload E d_Stage_init_32 rfl ?_
  refine pf_Stage_inputs E wd_482 d_Stage_init_34 hnm ?_
  refine pv_aload_n E d_Stage_init_37 rfl rfl ?_
  refine pv_iconst (v := 0) E d_Stage_init_38 (by decide) ?_
  refine pf_Stage_state E wd_484 d_Stage_init_39 ?_
  refine pv_aload_n E d_Stage_init_42 rfl rfl ?_
  refine pv_ldc (v := 1073741824) E wd_471 d_Stage_init_43 ?_
  refine pf_Stage_turn E wd_491 d_Stage_init_45 ?_
  exact pv_vret E hr hlk d_Stage_init_48 (by decide) (by decide) ⟨rfl, rfl⟩
set_option maxHeartbeats 8000000 in
set_option maxRecDepth 100000 in
theorem k_Queue_init (l : Launch) (D : va_G) (ca : Nat → ClassId) (A : Nat → Prop) (σ : ps_S) (q : Nat)  : ∀ adr, ps_M l y_Queue_init c_Queue_init 1 (Option.none : Option Jvm.ClassFile.FieldType) { frames := 1, cells := 1, slots := 48, locals := 20 } D ca A adr σ [ps_ref (some (2, q))] (fun rv σ' => rv = none ∧ σ' = q_init σ q) := by
  intro adr
  refine ps_M.of (by decide +kernel) (Nat.le_of_ble_eq_true rfl) ?_
  intro p_ e_ s_ m_ args_ below_ meth_ c_ E hr hlk hnm
  refine pv_aload_n E d_Queue_init_0 rfl rfl ?_
  refine pv_objInit E wd_39 wd_24 wd_25 (Nat.le_of_ble_eq_true rfl) (by decide) d_Queue_init_1 ?_
  refine pv_aload_n E d_Queue_init_4 rfl rfl ?_
  refine pv_bipush (v := 48) E d_Queue_init_5 (by decide) ?_
  refine pv_anew (t0 := 0) (N := 48) E 4 (by decide) (fun _ _ _ _ _ => rfl) rfl wd_40 wd_33 (by decide) (rfl) (by decide) (by decide) (by decide) d_Queue_init_7 ?_
  refine pf_Queue_ring E wd_41 d_Queue_init_10 hnm ?_
  exact pv_vret E hr hlk d_Queue_init_13 (by decide) (by decide) ⟨rfl, rfl⟩
set_option maxHeartbeats 8000000 in
set_option maxRecDepth 100000 in
theorem k_Graph_init (l : Launch) (D : va_G) (ca : Nat → ClassId) (A : Nat → Prop) (σ : ps_S)   : ∀ adr, ps_M l y_Graph_init c_Graph_init 1 (Option.none : Option Jvm.ClassFile.FieldType) { frames := 2, cells := 5, slots := 150, locals := 40 } D ca A adr σ [ps_ref (some (1, 0))] (fun rv σ' => rv = none ∧ σ' = gr_init σ) := by
  intro adr
  refine ps_M.of (by decide +kernel) (Nat.le_of_ble_eq_true rfl) ?_
  intro p_ e_ s_ m_ args_ below_ meth_ c_ E hr hlk hnm
  refine pv_aload_n E d_Graph_init_0 rfl rfl ?_
  refine pv_objInit E wd_31 wd_24 wd_25 (Nat.le_of_ble_eq_true rfl) (by decide) d_Graph_init_1 ?_
  refine pv_aload_n E d_Graph_init_4 rfl rfl ?_
  refine pv_bipush (v := 48) E d_Graph_init_5 (by decide) ?_
  refine pv_anew (t0 := 0) (N := 48) E 4 (by decide) (fun _ _ _ _ _ => rfl) rfl wd_32 wd_33 (by decide) (rfl) (by decide) (by decide) (by decide) d_Graph_init_7 ?_
  refine pf_Graph_stages E wd_51 d_Graph_init_10 hnm ?_
  refine pv_aload_n E d_Graph_init_13 rfl rfl ?_
  refine pv_new (ci := 2) (N := 3) (fs := [.null, .int 0, .int 0]) (C := "PromiseScopes$StageQueue") (T := T_Queue) E 2 (by decide) (fun _ => rfl) rfl in_Queue ty_Queue ty_Queue_ok wd_34 wd_35 wd_3 (by decide) (by decide) (by decide) d_Graph_init_14 ?_
  refine pv_dup E d_Graph_init_17 rfl ?_
  refine pv_callI E (fun adr => k_Queue_init l D ca A _ _ adr) yi_Queue_init wd_36 rfl rfl ⟨by decide, by decide⟩ (Nat.le_of_ble_eq_true rfl) d_Graph_init_18 ⟨by decide, by decide⟩ (fun r18 σ18 hq18 => ?_)
  obtain ⟨hr18, hs18⟩ := hq18
  subst r18
  subst σ18
  refine pf_Graph_line E wd_52 d_Graph_init_21 hnm ?_
  refine pv_aload_n E d_Graph_init_24 rfl rfl ?_
  refine pv_new (ci := 2) (N := 3) (fs := [.null, .int 0, .int 0]) (C := "PromiseScopes$StageQueue") (T := T_Queue) E 2 (by decide) (fun _ => rfl) rfl in_Queue ty_Queue ty_Queue_ok wd_34 wd_35 wd_3 (by decide) (by decide) (by decide) d_Graph_init_25 ?_
  refine pv_dup E d_Graph_init_28 rfl ?_
  refine pv_callI E (fun adr => k_Queue_init l D ca A _ _ adr) yi_Queue_init wd_36 rfl rfl ⟨by decide, by decide⟩ (Nat.le_of_ble_eq_true rfl) d_Graph_init_29 ⟨by decide, by decide⟩ (fun r29 σ29 hq29 => ?_)
  obtain ⟨hr29, hs29⟩ := hq29
  subst r29
  subst σ29
  refine pf_Graph_pool E wd_53 d_Graph_init_32 hnm ?_
  exact pv_vret E hr hlk d_Graph_init_35 (by decide) (by decide) ⟨rfl, rfl⟩
set_option maxHeartbeats 8000000 in
set_option maxRecDepth 100000 in
theorem k_Graph_addStage (l : Launch) (D : va_G) (ca : Nat → ClassId) (A : Nat → Prop) (σ : ps_S) (kd fn a as : Int32) (ins : List Nat) (g : gT) (hR : RC σ g) (hO : gOK g) (hn : gN g < 48) (hL : ps_L σ 4 (3 + gN g) = ins.length) (hI : ∀ j i, ins[j]? = some i → ps_R σ 4 (3 + gN g) j = some (3, i)) (hl : ins.length ≤ 48) (hi : ∀ i, i ∈ ins → i < gN g) (hkd : (kd = 9 ∨ 0 < ins.length) ∧ (kd = 5 → 1 < ins.length)) (hb : as = 0 ∨ as = 1) : ∀ adr, ps_M l y_Graph_addStage c_Graph_addStage 7 (Option.some (Jvm.ClassFile.FieldType.object "PromiseScopes$Stage")) { frames := 2, cells := 1, slots := 11, locals := 46 } D ca A adr σ [ps_ref (some (1, 0)), ps_ref (some (4, 3 + gN g)), ps_int kd, ps_int fn, ps_int a, ps_int as] (fun rv σ' => rv = some (ps_ref (some (3, gN g))) ∧ RC σ' (g_scan (g_mk g kd fn a as ins)) ∧ FrG σ σ' ∧ ps_N σ' = ps_N (ps_mk σ 3 0)) := by
  intro adr
  refine ps_M.of (by decide +kernel) (Nat.le_of_ble_eq_true rfl) ?_
  intro p_ e_ s_ m_ args_ below_ meth_ c_ E hr hlk hnm
  have hN3 : ps_N σ 3 = gN g := hR.1.2.2.2.2.2.2.2.2
  refine pv_new (ci := 3) (N := 11) (fs := [.int 0, .int 0, .int 0, .int 0, .int 0, .null, .int 0, .int 0, .int 0, .null, .int 0]) (C := "PromiseScopes$Stage") (T := T_Stage) E 3 (by decide) (fun _ => rfl) rfl in_Stage ty_Stage ty_Stage_ok wd_32 wd_466 wd_10 (by decide) (by decide) (by decide) d_Graph_addStage_0 ?_
  rw [hN3]
  refine pv_dup E d_Graph_addStage_3 rfl ?_
  refine pv_aload_n E d_Graph_addStage_4 rfl rfl ?_
  refine gf_Graph_made E wd_54 d_Graph_addStage_5 ?_
  refine pv_top (congrArg ps_int hR.1.2.2.2.1) ?_
  refine pv_iload_n E d_Graph_addStage_8 rfl rfl ?_
  refine pv_iload_n E d_Graph_addStage_9 rfl rfl ?_
  refine pv_iload E d_Graph_addStage_10 rfl ?_
  refine pv_iload E d_Graph_addStage_12 rfl ?_
  refine pv_aload_n E d_Graph_addStage_14 rfl rfl ?_
  refine pv_callI E (fun adr => k_Stage_init l D ca A _ _ _ _ _ _ _ _ hb adr) yi_Stage_init wd_467 rfl rfl ⟨by decide, by decide⟩ (Nat.le_of_ble_eq_true rfl) d_Graph_addStage_15 ⟨by decide, by decide⟩ (fun r15 σ15 hq15 => ?_)
  obtain ⟨hr15, hs15⟩ := hq15
  subst r15
  subst σ15
  refine pv_astore E d_Graph_addStage_18 (by decide) ?_
  refine pv_aload_n E d_Graph_addStage_20 rfl rfl ?_
  refine gf_Graph_stages E wd_51 d_Graph_addStage_21 ?_
  refine pv_top (congrArg ps_ref hR.1.1) ?_
  refine pv_aload_n E d_Graph_addStage_24 rfl rfl ?_
  refine gf_Graph_made E wd_54 d_Graph_addStage_25 ?_
  refine pv_top (congrArg ps_int hR.1.2.2.2.1) ?_
  refine pv_aload E d_Graph_addStage_28 rfl ?_
  refine pv_aastore (t0 := 0) (ci := 3) E 4 _ 3 _ (fun _ _ _ _ _ => rfl) rfl rfl (fun _ => ⟨_, rfl⟩) (by show vp_in _ (ps_L σ 4 0); rw [hR.1.2.2.2.2.2.1]; exact vp_in_nI hn (by decide)) d_Graph_addStage_30 ?_
  rw [nI_clamp (show gN g < 2 ^ 31 by omega)]
  refine pv_aload_n E d_Graph_addStage_31 rfl rfl ?_
  refine pv_dup E d_Graph_addStage_32 rfl ?_
  refine gf_Graph_made E wd_54 d_Graph_addStage_33 ?_
  refine pv_top (congrArg ps_int hR.1.2.2.2.1) ?_
  refine pv_iconst (v := 1) E d_Graph_addStage_36 (by decide) ?_
  refine pv_iadd E d_Graph_addStage_37 ?_
  refine pv_top (congrArg ps_int (nI_1 (gN g))) ?_
  refine pf_Graph_made E wd_54 d_Graph_addStage_38 ?_
  refine pv_aload_n E d_Graph_addStage_41 rfl rfl ?_
  refine pv_callV E (fun adr => k_Graph_queueAllThatAreAble l D ca A _ (g_mk g kd fn a as ins) (hR.mk hL hI) (hO.mk hn hl hi hkd) adr) yv_Graph_queueAllThatAreAble wd_135 rfl rfl (fun _ => ⟨_, rfl⟩) rfl ⟨by decide, by decide⟩ (Nat.le_of_ble_eq_true rfl) d_Graph_addStage_42 ⟨by decide, by decide⟩ (fun r42 σ42 hq42 => ?_)
  obtain ⟨hr42, hq42, hf42, hn42⟩ := hq42
  subst r42
  refine pv_aload E d_Graph_addStage_45 rfl ?_
  exact pv_aret E hr (Or.inl ⟨_, rfl⟩) hlk d_Graph_addStage_47 (by decide) (by decide) ⟨rfl, hq42, FrG.add.tr hf42, hn42⟩
set_option maxHeartbeats 8000000 in
set_option maxRecDepth 100000 in
theorem k_Graph_addSource (l : Launch) (D : va_G) (ca : Nat → ClassId) (A : Nat → Prop) (σ : ps_S)  (g : gT) (hR : RC σ g) (hO : gOK g) (hN4 : ps_N σ 4 = 3 + gN g) (hn : gN g < 48) : ∀ adr, ps_M l y_Graph_addSource c_Graph_addSource 1 (Option.some (Jvm.ClassFile.FieldType.object "PromiseScopes$Stage")) { frames := 3, cells := 2, slots := 11, locals := 72 } D ca A adr σ [ps_ref (some (1, 0))] (fun rv σ' => rv = some (ps_ref (some (3, gN g))) ∧ RC σ' (g_scan (g_mk g 9 (-1) 0 0 [])) ∧ FrG σ σ' ∧ ps_N σ' = ps_N (ps_mk (ps_mk σ 4 0) 3 0)) := by
  intro adr
  refine ps_M.of (by decide +kernel) (Nat.le_of_ble_eq_true rfl) ?_
  intro p_ e_ s_ m_ args_ below_ meth_ c_ E hr hlk hnm
  refine pv_aload_n E d_Graph_addSource_0 rfl rfl ?_
  refine pv_iconst (v := 0) E d_Graph_addSource_1 (by decide) ?_
  refine pv_anew (t0 := 0) (N := 0) E 4 (by decide) (fun _ _ _ _ _ => rfl) rfl wd_32 wd_33 (by decide) (rfl) (by decide) (by decide) (by decide) d_Graph_addSource_2 ?_
  rw [hN4]
  refine pv_bipush (v := 9) E d_Graph_addSource_5 (by decide) ?_
  refine pv_iconst (v := -1) E d_Graph_addSource_7 (by decide) ?_
  refine pv_iconst (v := 0) E d_Graph_addSource_8 (by decide) ?_
  refine pv_iconst (v := 0) E d_Graph_addSource_9 (by decide) ?_
  refine pv_callV E (fun adr => k_Graph_addStage l D ca A _ 9 (-1) 0 0 [] g (hR.same (sameG.arr hN4)) hO hn (by rw [← hN4]; exact mk_L1 σ 4 0) (fun j i z => by cases z) (by decide) (fun i z => by cases z) ⟨Or.inl rfl, fun z => absurd z (by decide)⟩ (Or.inl rfl) adr) yv_Graph_addStage wd_462 rfl rfl (fun _ => ⟨_, rfl⟩) rfl ⟨by decide, by decide⟩ (Nat.le_of_ble_eq_true rfl) d_Graph_addSource_10 ⟨by decide, by decide⟩ (fun r10 σ10 hq10 => ?_)
  obtain ⟨hr10, hq10, hf10, hn10⟩ := hq10
  subst r10
  exact pv_aret E hr (Or.inl ⟨_, rfl⟩) hlk d_Graph_addSource_13 (by decide) (by decide) ⟨rfl, hq10, (FrG.mk (by decide)).tr hf10, hn10⟩
set_option maxHeartbeats 8000000 in
set_option maxRecDepth 100000 in
theorem k_Graph_inputsOf (l : Launch) (D : va_G) (ca : Nat → ClassId) (A : Nat → Prop) (σ : ps_S) (s : Int32) (g : gT) (hR : RC σ g) (hO : gOK g) (hN4 : ps_N σ 4 = 3 + gN g) (hc : ¬ s < 0 ∧ s.toNatClampNeg < gN g) : ∀ adr, ps_M l y_Graph_inputsOf c_Graph_inputsOf 3 (Option.some (Jvm.ClassFile.FieldType.array (Jvm.ClassFile.FieldType.object "PromiseScopes$Stage"))) { frames := 0, cells := 1, slots := 1, locals := 0 } D ca A adr σ [ps_ref (some (1, 0)), ps_int s] (fun rv σ' => rv = some (ps_ref (some (4, 3 + gN g))) ∧ σ' = ps_sR (ps_mk σ 4 1) 4 (3 + gN g) 0 (some (3, s.toNatClampNeg))) := by
  intro adr
  refine ps_M.of (by decide +kernel) (Nat.le_of_ble_eq_true rfl) ?_
  intro p_ e_ s_ m_ args_ below_ meth_ c_ E hr hlk hnm
  refine pv_iconst (v := 1) E d_Graph_inputsOf_0 (by decide) ?_
  refine pv_anew (t0 := 0) (N := 1) E 4 (by decide) (fun _ _ _ _ _ => rfl) rfl wd_32 wd_33 (by decide) (rfl) (by decide) (by decide) (by decide) d_Graph_inputsOf_1 ?_
  rw [hN4]
  refine pv_astore_n E d_Graph_inputsOf_4 rfl (by decide) ?_
  refine pv_aload_n E d_Graph_inputsOf_5 rfl rfl ?_
  refine pv_iconst (v := 0) E d_Graph_inputsOf_6 (by decide) ?_
  refine pv_aload_n E d_Graph_inputsOf_7 rfl rfl ?_
  refine gf_Graph_stages E wd_51 d_Graph_inputsOf_8 ?_
  refine pv_top (congrArg ps_ref hR.1.1) ?_
  refine pv_iload_n E d_Graph_inputsOf_11 rfl rfl ?_
  refine pv_aaload (t0 := 0) E 4 _ (fun _ _ _ _ _ => rfl) rfl (by show vp_in _ (ps_L (ps_mk σ 4 1) 4 0); rw [mk_L σ (by rw [hN4]; omega), hR.1.2.2.2.2.2.1]; exact fun z => z.elim hc.1 (fun z => by have := hc.2; have := hO.1.1; omega)) d_Graph_inputsOf_12 ?_
  refine pv_top (congrArg ps_ref ((congrFun (mk_R σ (by rw [hN4]; omega)) _).trans (hR.2.1 _ hc.2).1.1)) ?_
  refine pv_aastore (t0 := 0) (ci := 3) E 4 _ 3 _ (fun _ _ _ _ _ => rfl) rfl rfl (fun _ => ⟨_, rfl⟩) (by rw [← hN4, mk_L1]; exact vp_in_nI (n := 0) (by decide) (by decide)) d_Graph_inputsOf_13 ?_
  rw [show (0 : Int32).toNatClampNeg = 0 from rfl]
  refine pv_aload_n E d_Graph_inputsOf_14 rfl rfl ?_
  exact pv_aret E hr (Or.inr ⟨_, rfl⟩) hlk d_Graph_inputsOf_15 (by decide) (by decide) ⟨rfl, rfl⟩
set_option maxHeartbeats 8000000 in
set_option maxRecDepth 100000 in
theorem k_Graph_inputsOf2 (l : Launch) (D : va_G) (ca : Nat → ClassId) (A : Nat → Prop) (σ : ps_S) (s t : Int32) (g : gT) (hR : RC σ g) (hO : gOK g) (hN4 : ps_N σ 4 = 3 + gN g) (hc : ¬ s < 0 ∧ s.toNatClampNeg < gN g) (hd : ¬ t < 0 ∧ t.toNatClampNeg < gN g) : ∀ adr, ps_M l y_Graph_inputsOf2 c_Graph_inputsOf2 4 (Option.some (Jvm.ClassFile.FieldType.array (Jvm.ClassFile.FieldType.object "PromiseScopes$Stage"))) { frames := 0, cells := 1, slots := 2, locals := 0 } D ca A adr σ [ps_ref (some (1, 0)), ps_int s, ps_int t] (fun rv σ' => rv = some (ps_ref (some (4, 3 + gN g))) ∧ σ' = ps_sR (ps_sR (ps_mk σ 4 2) 4 (3 + gN g) 0 (some (3, s.toNatClampNeg))) 4 (3 + gN g) 1 (some (3, t.toNatClampNeg))) := by
  intro adr
  refine ps_M.of (by decide +kernel) (Nat.le_of_ble_eq_true rfl) ?_
  intro p_ e_ s_ m_ args_ below_ meth_ c_ E hr hlk hnm
  refine pv_iconst (v := 2) E d_Graph_inputsOf2_0 (by decide) ?_
  refine pv_anew (t0 := 0) (N := 2) E 4 (by decide) (fun _ _ _ _ _ => rfl) rfl wd_32 wd_33 (by decide) (rfl) (by decide) (by decide) (by decide) d_Graph_inputsOf2_1 ?_
  rw [hN4]
  refine pv_astore_n E d_Graph_inputsOf2_4 rfl (by decide) ?_
  refine pv_aload_n E d_Graph_inputsOf2_5 rfl rfl ?_
  refine pv_iconst (v := 0) E d_Graph_inputsOf2_6 (by decide) ?_
  refine pv_aload_n E d_Graph_inputsOf2_7 rfl rfl ?_
  refine gf_Graph_stages E wd_51 d_Graph_inputsOf2_8 ?_
  refine pv_top (congrArg ps_ref hR.1.1) ?_
  refine pv_iload_n E d_Graph_inputsOf2_11 rfl rfl ?_
  refine pv_aaload (t0 := 0) E 4 _ (fun _ _ _ _ _ => rfl) rfl (by show vp_in _ (ps_L (ps_mk σ 4 2) 4 0); rw [mk_L σ (by rw [hN4]; omega), hR.1.2.2.2.2.2.1]; exact fun z => z.elim hc.1 (fun z => by have := hc.2; have := hO.1.1; omega)) d_Graph_inputsOf2_12 ?_
  refine pv_top (congrArg ps_ref ((congrFun (mk_R σ (by rw [hN4]; omega)) _).trans (hR.2.1 _ hc.2).1.1)) ?_
  refine pv_aastore (t0 := 0) (ci := 3) E 4 _ 3 _ (fun _ _ _ _ _ => rfl) rfl rfl (fun _ => ⟨_, rfl⟩) (by rw [← hN4, mk_L1]; exact vp_in_nI (n := 0) (by decide) (by decide)) d_Graph_inputsOf2_13 ?_
  rw [show (0 : Int32).toNatClampNeg = 0 from rfl]
  refine pv_aload_n E d_Graph_inputsOf2_14 rfl rfl ?_
  refine pv_iconst (v := 1) E d_Graph_inputsOf2_15 (by decide) ?_
  refine pv_aload_n E d_Graph_inputsOf2_16 rfl rfl ?_
  refine gf_Graph_stages E wd_51 d_Graph_inputsOf2_17 ?_
  refine pv_top (congrArg ps_ref hR.1.1) ?_
  refine pv_iload_n E d_Graph_inputsOf2_20 rfl rfl ?_
  refine pv_aaload (t0 := 0) E 4 _ (fun _ _ _ _ _ => rfl) rfl (by show vp_in _ (ps_L (ps_mk σ 4 2) 4 0); rw [mk_L σ (by rw [hN4]; omega), hR.1.2.2.2.2.2.1]; exact fun z => z.elim hd.1 (fun z => by have := hd.2; have := hO.1.1; omega)) d_Graph_inputsOf2_21 ?_
  refine pv_top (congrArg ps_ref ((ps_R_ne _ _ (show (0 : Nat) ≠ 3 + gN g by omega)).trans ((congrFun (mk_R σ (by rw [hN4]; omega)) _).trans (hR.2.1 _ hd.2).1.1))) ?_
  refine pv_aastore (t0 := 0) (ci := 3) E 4 _ 3 _ (fun _ _ _ _ _ => rfl) rfl rfl (fun _ => ⟨_, rfl⟩) (by show vp_in _ (ps_L (ps_mk σ 4 2) 4 (3 + gN g)); rw [← hN4, mk_L1]; exact vp_in_nI (n := 1) (by decide) (by decide)) d_Graph_inputsOf2_22 ?_
  rw [show (1 : Int32).toNatClampNeg = 1 from rfl]
  refine pv_aload_n E d_Graph_inputsOf2_23 rfl rfl ?_
  exact pv_aret E hr (Or.inr ⟨_, rfl⟩) hlk d_Graph_inputsOf2_24 (by decide) (by decide) ⟨rfl, rfl⟩
set_option maxHeartbeats 8000000 in
set_option maxRecDepth 100000 in
theorem k_Graph_hasAll (l : Launch) (D : va_G) (ca : Nat → ClassId) (A : Nat → Prop) (σ : ps_S) (set : Int64) (g : gT) (hR : RC σ g) : ∀ adr, ps_M l y_Graph_hasAll c_Graph_hasAll 3 (Option.some Jvm.ClassFile.FieldType.boolean) { frames := 0, cells := 0, slots := 0, locals := 0 } D ca A adr σ [ps_ref (some (1, 0)), ps_lng set] (fun rv σ' => rv = some (ps_int (g_hasAll g set)) ∧ σ' = σ) := by
  intro adr
  refine ps_M.of (by decide +kernel) (Nat.le_of_ble_eq_true rfl) ?_
  intro p_ e_ s_ m_ args_ below_ meth_ c_ E hr hlk hnm
  refine pv_lload_n E d_Graph_hasAll_0 rfl rfl ?_
  refine pv_lconst (v := 0) E d_Graph_hasAll_1 (by decide) ?_
  refine pv_lcmp E d_Graph_hasAll_2 ?_
  refine pv_if_eq (tgt := 21) E d_Graph_hasAll_3 rfl (fun h3 => ?_) (fun h3 => ?_)
  · skip
    refine pv_iconst (v := 0) E d_Graph_hasAll_21 (by decide) ?_
    exact pv_zret E hr hlk d_Graph_hasAll_22 (by first | rfl | (apply ps_zb; assumption)) (by decide) (by decide) ⟨by simp only [g_hasAll, l_sh, h3, if_true, if_false], rfl⟩
  · skip
    refine pv_lload_n E d_Graph_hasAll_6 rfl rfl ?_
    refine pv_aload_n E d_Graph_hasAll_7 rfl rfl ?_
    refine gf_Graph_made E wd_54 d_Graph_hasAll_8 ?_
    refine pv_top (congrArg ps_int hR.1.2.2.2.1) ?_
    refine pv_lushr E d_Graph_hasAll_11 ?_
    refine pv_lconst (v := 0) E d_Graph_hasAll_12 (by decide) ?_
    refine pv_lcmp E d_Graph_hasAll_13 ?_
    refine pv_if_ne (tgt := 21) E d_Graph_hasAll_14 rfl (fun h14 => ?_) (fun h14 => ?_)
    · skip
      refine pv_iconst (v := 0) E d_Graph_hasAll_21 (by decide) ?_
      exact pv_zret E hr hlk d_Graph_hasAll_22 (by first | rfl | (apply ps_zb; assumption)) (by decide) (by decide) ⟨by simp only [g_hasAll, l_sh, h3, h14, if_true, if_false], rfl⟩
    · skip
      refine pv_iconst (v := 1) E d_Graph_hasAll_17 (by decide) ?_
      refine pv_goto (tgt := 22) E d_Graph_hasAll_18 rfl ?_
      exact pv_zret E hr hlk d_Graph_hasAll_22 (by first | rfl | (apply ps_zb; assumption)) (by decide) (by decide) ⟨by simp only [g_hasAll, l_sh, h3, h14, if_true, if_false], rfl⟩
set_option maxHeartbeats 8000000 in
set_option maxRecDepth 100000 in
theorem k_Queue_placeOf (l : Launch) (D : va_G) (ca : Nat → ClassId) (A : Nat → Prop) (σ : ps_S) (q r f n : Nat) (hr0 : ps_R σ 2 q 0 = some (4, r)) (hL : ps_L σ 4 r = 48) (hf : ps_I σ 2 q 1 = nI f) (hn : ps_I σ 2 q 2 = nI n) (hf48 : f < 48) (hn48 : n ≤ 48) (k : Nat) : ∀ adr, ps_M l y_Queue_placeOf c_Queue_placeOf 3 (Option.some Jvm.ClassFile.FieldType.int) { frames := 0, cells := 0, slots := 0, locals := 0 } D ca A adr σ [ps_ref (some (2, q)), ps_ref (some (3, k))] (fun rv σ' => rv = some (ps_int (q_place σ r k f n 0)) ∧ σ' = σ) := by
  intro adr
  refine ps_M.of (by decide +kernel) (Nat.le_of_ble_eq_true rfl) ?_
  intro p_ e_ s_ m_ args_ below_ meth_ c_ E hr hlk hnm
  refine pv_iconst (v := 0) E d_Queue_placeOf_0 (by decide) ?_
  refine pv_istore_n E d_Queue_placeOf_1 rfl (by decide) ?_
  refine pv_sub (L' := [(0, ps_ref (some (2, q))), (1, ps_ref (some (3, k))), (2, ps_int (nI 0))]) ⟨rfl, rfl, rfl, trivial⟩ ?_
  refine pv_loop (ι := Nat) (fun i => n - i) (fun i => [(0, ps_ref (some (2, q))), (1, ps_ref (some (3, k))), (2, ps_int (nI i))]) (fun _ => σ) (fun i => i ≤ n ∧ q_place σ r k f n 0 = q_place σ r k f (n - i) i) (fun i hx ih => ?_) 0 ⟨Nat.zero_le _, rfl⟩
  obtain ⟨hi, hp⟩ := hx
  dsimp only at ih ⊢
  refine pv_iload_n E d_Queue_placeOf_2 rfl rfl ?_
  refine pv_aload_n E d_Queue_placeOf_3 rfl rfl ?_
  refine gf_Queue_size E wd_43 d_Queue_placeOf_4 ?_
  refine pv_top (congrArg ps_int hn) ?_
  refine pv_icmp_ge (tgt := 36) E d_Queue_placeOf_7 rfl (fun h7 => ?_) (fun h7 => ?_)
  · skip
    have hi2 : n ≤ i := (nI_leI (by omega) (by omega)).mp h7
    refine pv_iconst (v := -1) E d_Queue_placeOf_36 (by decide) ?_
    exact pv_iret E hr hlk d_Queue_placeOf_37 (by decide) (by decide) ⟨by rw [hp, show n - i = 0 by omega, q_place], rfl⟩
  · skip
    have hi2 : i < n := Nat.lt_of_not_le (fun z => h7 ((nI_leI (by omega) (by omega)).mpr z))
    refine pv_aload_n E d_Queue_placeOf_10 rfl rfl ?_
    refine gf_Queue_ring E wd_41 d_Queue_placeOf_11 ?_
    refine pv_top (congrArg ps_ref hr0) ?_
    refine pv_aload_n E d_Queue_placeOf_14 rfl rfl ?_
    refine gf_Queue_front E wd_42 d_Queue_placeOf_15 ?_
    refine pv_top (congrArg ps_int hf) ?_
    refine pv_iload_n E d_Queue_placeOf_18 rfl rfl ?_
    refine pv_iadd E d_Queue_placeOf_19 ?_
    refine pv_bipush (v := 48) E d_Queue_placeOf_20 (by decide) ?_
    refine pv_irem E d_Queue_placeOf_22 (by decide) ?_
    refine pv_top (congrArg ps_int (q_ix hf48 (show i ≤ 48 by omega))) ?_
    refine pv_aaload (t0 := 0) E 4 _ (fun _ _ _ _ _ => rfl) rfl (q_in hL (by omega)) d_Queue_placeOf_23 ?_
    rw [nI_clamp (show (f + i) % 48 < 2 ^ 31 by omega)]
    refine pv_aload_n E d_Queue_placeOf_24 rfl rfl ?_
    refine pv_acmp_ne (tgt := 30) E d_Queue_placeOf_25 rfl (fun h25 => ?_) (fun h25 => ?_)
    · skip
      refine pv_inc1 E d_Queue_placeOf_30 rfl (by decide) ?_
      refine pv_goto (tgt := 2) E d_Queue_placeOf_33 rfl ?_
      exact pv_back (ih (i + 1) ⟨by omega, hp.trans (by rw [show n - i = (n - (i + 1)) + 1 by omega, q_place, if_neg h25])⟩ (by omega)) ⟨rfl, rfl, congrArg (fun z : Int32 => some (ps_int z)) (nI_1 i), trivial⟩
    · skip
      refine pv_iload_n E d_Queue_placeOf_28 rfl rfl ?_
      exact pv_iret E hr hlk d_Queue_placeOf_29 (by decide) (by decide) ⟨by rw [hp, show n - i = (n - (i + 1)) + 1 by omega, q_place, if_pos h25], rfl⟩
set_option maxHeartbeats 8000000 in
set_option maxRecDepth 100000 in
theorem k_Graph_poolSize (l : Launch) (D : va_G) (ca : Nat → ClassId) (A : Nat → Prop) (σ : ps_S)  (g : gT) (hR : RC σ g) : ∀ adr, ps_M l y_Graph_poolSize c_Graph_poolSize 1 (Option.some Jvm.ClassFile.FieldType.int) { frames := 1, cells := 0, slots := 0, locals := 20 } D ca A adr σ [ps_ref (some (1, 0))] (fun rv σ' => rv = some (ps_int (nI (gP g).length)) ∧ σ' = σ) := by
  intro adr
  refine ps_M.of (by decide +kernel) (Nat.le_of_ble_eq_true rfl) ?_
  intro p_ e_ s_ m_ args_ below_ meth_ c_ E hr hlk hnm
  refine pv_aload_n E d_Graph_poolSize_0 rfl rfl ?_
  refine gf_Graph_pool E wd_53 d_Graph_poolSize_1 ?_
  refine pv_top (congrArg ps_ref hR.1.2.2.1) ?_
  refine pv_callV E (fun adr => k_Queue_length l D ca A _ 1 adr) yv_Queue_length wd_257 rfl rfl (fun _ => ⟨_, rfl⟩) rfl ⟨by decide, by decide⟩ (Nat.le_of_ble_eq_true rfl) d_Graph_poolSize_4 ⟨by decide, by decide⟩ (fun r4 σ4 hq4 => ?_)
  obtain ⟨hr4, hs4⟩ := hq4
  subst r4
  subst σ4
  exact pv_iret E hr hlk d_Graph_poolSize_7 (by decide) (by decide) ⟨by rw [hR.2.2.2.2.2.2.1], rfl⟩
set_option maxHeartbeats 8000000 in
set_option maxRecDepth 100000 in
theorem k_Graph_placeInPool (l : Launch) (D : va_G) (ca : Nat → ClassId) (A : Nat → Prop) (σ : ps_S) (k : Nat) (g : gT) (hR : RC σ g) : ∀ adr, ps_M l y_Graph_placeInPool c_Graph_placeInPool 2 (Option.some Jvm.ClassFile.FieldType.int) { frames := 1, cells := 0, slots := 0, locals := 22 } D ca A adr σ [ps_ref (some (1, 0)), ps_ref (some (3, k))] (fun rv σ' => rv = some (ps_int (g_ix k (gP g) 0)) ∧ σ' = σ) := by
  intro adr
  refine ps_M.of (by decide +kernel) (Nat.le_of_ble_eq_true rfl) ?_
  intro p_ e_ s_ m_ args_ below_ meth_ c_ E hr hlk hnm
  obtain ⟨q1, q2, q3, q4, f0, hf0, h60, h70⟩ := hR.2.2.2
  refine pv_aload_n E d_Graph_placeInPool_0 rfl rfl ?_
  refine gf_Graph_pool E wd_53 d_Graph_placeInPool_1 ?_
  refine pv_top (congrArg ps_ref hR.1.2.2.1) ?_
  refine pv_aload_n E d_Graph_placeInPool_4 rfl rfl ?_
  refine pv_callV E (fun adr => k_Queue_placeOf l D ca A _ 1 2 f0 (gP g).length q1 q2 h60 q4 hf0 q3 k adr) yv_Queue_placeOf wd_245 rfl rfl (fun _ => ⟨_, rfl⟩) rfl ⟨by decide, by decide⟩ (Nat.le_of_ble_eq_true rfl) d_Graph_placeInPool_5 ⟨by decide, by decide⟩ (fun r5 σ5 hq5 => ?_)
  obtain ⟨hr5, hs5⟩ := hq5
  subst r5
  subst σ5
  exact pv_iret E hr hlk d_Graph_placeInPool_8 (by decide) (by decide) ⟨by rw [q_place_ix (gP g) 0 (fun j z hj => by rw [Nat.zero_add]; exact h70 j z hj)], rfl⟩
end
section
/-! Scopes and tasks as a mathematical value. -/
/-- scopes: how many; (policy, effective deadline, state, stopped, late, own deadline) of each; parents; results; values; binds. tasks: how many; (cost, function, a, x, state, worked, content) of each; owners; turns; how many ended; the time -/
abbrev tT : Type := (Nat × (Nat → Nat → Int32) × (Nat → Option Nat) × (Nat → Nat) × (Nat → Nat → Int32) × (Nat → Nat → Int32)) × (Nat × (Nat → Nat → Int32) × (Nat → Nat) × (Nat → Nat) × Nat × Int32)
def tN (t : tT) : Nat := t.1.1
def tS (t : tT) : Nat → Nat → Int32 := t.1.2.1
def tP (t : tT) : Nat → Option Nat := t.1.2.2.1
def tR (t : tT) : Nat → Nat := t.1.2.2.2.1
def tV (t : tT) : Nat → Nat → Int32 := t.1.2.2.2.2.1
def tB (t : tT) : Nat → Nat → Int32 := t.1.2.2.2.2.2
def uN (t : tT) : Nat := t.2.1
def uK (t : tT) : Nat → Nat → Int32 := t.2.2.1
def uO (t : tT) : Nat → Nat := t.2.2.2.1
def uT (t : tT) : Nat → Nat := t.2.2.2.2.1
def uE (t : tT) : Nat := t.2.2.2.2.2.1
def uC (t : tT) : Int32 := t.2.2.2.2.2.2
def f2 (f : Nat → Nat → Int32) (a b : Nat) (v : Int32) : Nat → Nat → Int32 := fun x => if x = a then va_up (f x) b v else f x
theorem f2_eq (f : Nat → Nat → Int32) (a b : Nat) (v : Int32) (x y : Nat) : f2 f a b v x y = if x = a ∧ y = b then v else f x y := by
  unfold f2
  by_cases h : x = a
  · rw [if_pos h]
    by_cases h2 : y = b
    · rw [if_pos ⟨h, h2⟩, h2, va_up_self]
    · rw [va_up_ne _ _ h2, if_neg (fun z => h2 z.2)]
  · rw [if_neg h, if_neg (fun z => h z.1)]
def tsS (t : tT) (c f : Nat) (v : Int32) : tT := ((t.1.1, f2 (tS t) c f v, t.1.2.2), t.2)
def tsV (t : tT) (c k : Nat) (v : Int32) : tT := ((t.1.1, t.1.2.1, t.1.2.2.1, t.1.2.2.2.1, f2 (tV t) c k v, f2 (tB t) c k 1), t.2)
def usK (t : tT) (j f : Nat) (v : Int32) : tT := (t.1, (t.2.1, f2 (uK t) j f v, t.2.2.2))
def usC (t : tT) (v : Int32) : tT := (t.1, (t.2.1, t.2.2.1, t.2.2.2.1, t.2.2.2.2.1, t.2.2.2.2.2.1, v))
/-- a task's turn -/
def usE (t : tT) (j : Nat) : tT := (t.1, (t.2.1, t.2.2.1, t.2.2.2.1, va_up (uT t) j (uE t), uE t + 1, t.2.2.2.2.2.2))
def t_bel (pa : Nat → Option Nat) : Nat → Option Nat → Nat → Bool
  | 0, _, _ => false
  | _ + 1, none, _ => false
  | m + 1, some x, c => if x = c then true else t_bel pa m (pa x) c
def t_low (t : tT) (i c : Nat) : Bool := t_bel (tP t) (tN t) (tP t i) c
def t_lk (t : tT) : Nat → Option Nat → Nat → Int32
  | 0, _, _ => 0
  | _ + 1, none, _ => 0
  | m + 1, some x, k => if tB t x k = 0 then t_lk t m (tP t x) k else tV t x k
def t_look (t : tT) (c k : Nat) : Int32 := t_lk t (tN t) (some c) k
def u_cnt (t : tT) (c : Nat) (s : Int32) : Nat → Nat
  | 0 => 0
  | m + 1 => u_cnt t c s m + (if uO t m = c ∧ uK t m 4 = s then 1 else 0)
def anyN (p : Nat → Bool) : Nat → Bool
  | 0 => false
  | m + 1 => anyN p m || p m
theorem anyN_t {p : Nat → Bool} {i : Nat} (h : p i = true) : ∀ n, i < n → anyN p n = true
  | 0, hi => by omega
  | n + 1, hi => by
    rw [anyN]
    by_cases hn : i = n
    · rw [← hn, h, Bool.or_true]
    · rw [anyN_t h n (by omega), Bool.true_or]
/-- the running tasks of a scope are cancelled: of the first m -/
def u_can (t : tT) (c : Nat) : Nat → tT
  | 0 => t
  | m + 1 => if uO (u_can t c m) m = c ∧ uK (u_can t c m) m 4 = 0 then usK (u_can t c m) m 4 3 else u_can t c m
def t_st1 (t : tT) (c i : Nat) : tT := if i = c ∨ (¬ tS t i 2 = 2 ∧ t_low t i c = true) then u_can (tsS t i 3 1) i (uN t) else t
def t_stN (t : tT) (c : Nat) : Nat → tT
  | 0 => t
  | m + 1 => t_st1 (t_stN t c m) c m
def t_stop (t : tT) (c : Nat) : tT := t_stN t c (tN t)
def t_past (t : tT) (c : Nat) : Bool := !decide (tS t c 1 = -1) && decide (tS t c 1 ≤ uC t)
def t_la1 (t : tT) (i : Nat) : tT := if ¬ tS t i 2 = 2 ∧ t_past t i = true then t_stop (tsS t i 4 1) i else t
def t_laN (t : tT) : Nat → tT
  | 0 => t
  | m + 1 => t_la1 (t_laN t m) m
def t_late (t : tT) : tT := t_laN t (tN t)
/-- a task works once -/
def u_thr (t : tT) (j : Nat) : Int32 := fn_thr (uK t j 1) (uK t j 2) (uK t j 3)
def u_wk (t : tT) (j : Nat) : tT := if uK t j 5 + 1 < uK t j 0 then usK t j 5 (uK t j 5 + 1) else usK (usK (usK t j 5 (uK t j 5 + 1)) j 4 (if u_thr t j = 0 then 1 else 2)) j 6 (if u_thr t j = 0 then fn_mk (uK t j 1) (uK t j 2) (uK t j 3) else u_thr t j)
def t_by (t : tT) (j : Nat) : Bool := (decide (tS t (uO t j) 0 = 1) && decide (uK t j 4 = 2)) || (decide (tS t (uO t j) 0 = 2) && decide (uK t j 4 = 1))
def u_end (t : tT) (j : Nat) : tT := if t_by (usE t j) j = true then t_stop (usE t j) (uO t j) else usE t j
def u_ps1 (t : tT) (j : Nat) : tT := if uK t j 4 = 0 then (if uK (u_wk t j) j 4 = 0 then u_wk t j else u_end (u_wk t j) j) else t
def u_psN (t : tT) : Nat → tT
  | 0 => t
  | m + 1 => u_ps1 (u_psN t m) m
/-- how many tasks end -/
def u_pc1 (t : tT) (j : Nat) : Nat := if uK t j 4 = 0 then (if uK (u_wk t j) j 4 = 0 then 0 else 1) else 0
def u_pcN (t : tT) : Nat → Nat
  | 0 => 0
  | m + 1 => u_pcN t m + u_pc1 (u_psN t m) m
def t_tick (t : tT) : tT := t_late (usC t (uC t + 1))
def t_pass (t : tT) : tT := u_psN (t_tick t) (uN t)
/-- the first task of a scope that ended so: of the first m -/
def u_fst (t : tT) (c : Nat) (s : Int32) : Nat → Option Nat
  | 0 => none
  | m + 1 => if uO t m = c ∧ uK t m 4 = s then (match u_fst t c s m with
      | none => some m
      | some b => if uT t m < uT t b then some m else some b) else u_fst t c s m
def u_sum (t : tT) (c : Nat) : Nat → Int32
  | 0 => 0
  | m + 1 => if uO t m = c ∧ uK t m 4 = 1 then u_sum t c m + uK t m 6 else u_sum t c m
def t_ok (t : tT) (c : Nat) : Bool := if tS t c 0 = 2 then decide (0 < u_cnt t c 1 (uN t)) else decide (u_cnt t c 2 (uN t) = 0) && decide (u_cnt t c 3 (uN t) = 0)
def u_val (t : tT) (r : Option Nat) : Int32 := match r with
  | none => 0
  | some j => uK t j 6
def t_val (t : tT) (c : Nat) : Int32 := if tS t c 0 = 2 then u_val t (u_fst t c 1 (uN t)) else u_sum t c (uN t)
/-- what a scope's result becomes -/
def t_out (t : tT) (c : Nat) : Int32 × Int32 := if tS t c 4 = 0 then (if t_ok t c = true then (1, t_val t c) else (2, u_val t (u_fst t c 2 (uN t)))) else (2, 7)
def t_unc (t : tT) (c : Nat) : Bool := anyN (fun i => !decide (tS t i 2 = 2) && t_low t i c) (tN t)
def t_opn (t : tT) (c : Nat) : Bool := anyN (fun i => decide (tS t i 2 = 0) && t_low t i c) (tN t)
def t_can (t : tT) (c : Nat) : Bool := decide (tS t c 2 = 1) && decide (u_cnt t c 0 (uN t) = 0) && !(t_unc t c)
def t_give (t : tT) (g : gT) (c : Nat) : gT := if gF g (tR t c) 0 = 0 then g_give g (tR t c) (t_out t c).1 (t_out t c).2 else g
def t_cl1 (x : tT × gT) (c : Nat) : tT × gT := if t_can x.1 c = true then (tsS x.1 c 2 2, t_give (tsS x.1 c 2 2) x.2 c) else x
/-- scopes are closed from above: those from m - 1 down to 0 -/
def t_clN (x : tT × gT) : Nat → tT × gT
  | 0 => x
  | m + 1 => t_clN (t_cl1 x m) m
def t_close (x : tT × gT) : tT × gT := t_clN x (tN x.1)
/-- a deadline as it counts -/
def t_eff (t : tT) (p : Option Nat) (d : Int32) : Int32 := match p with
  | none => if 0 ≤ d then d else -1
  | some c => if tS t c 1 = -1 then (if 0 ≤ d then d else -1) else (if 0 ≤ d then (if d ≤ tS t c 1 then d else tS t c 1) else tS t c 1)
def t_mk (t : tT) (p : Option Nat) (po d : Int32) (r : Nat) : tT :=
  ((tN t + 1, fun x => if x = tN t then (fun f => if f = 0 then po else if f = 1 then t_eff t p d else if f = 5 then (if 0 ≤ d then d else -1) else 0) else tS t x, va_up (tP t) (tN t) p, va_up (tR t) (tN t) r, fun x => if x = tN t then (fun _ => 0) else tV t x, fun x => if x = tN t then (fun _ => 0) else tB t x), t.2)
def u_mk (t : tT) (c : Nat) (co fn a : Int32) : tT :=
  (t.1, (uN t + 1, fun x => if x = uN t then (fun f => if f = 0 then co else if f = 1 then fn else if f = 2 then a else if f = 3 then t_look t c 0 else if f = 4 then (if tS t c 3 = 0 then 0 else 3) else 0) else uK t x, va_up (uO t) (uN t) c, va_up (uT t) (uN t) 0, t.2.2.2.2.2))
/-! The class's scopes and tasks in the store. -/
def RTs (σ : ps_S) (t : tT) (c : Nat) : Prop :=
  (ps_R σ 8 0 c = some (5, c) ∧ ps_I σ 5 c 0 = nI c ∧ ps_R σ 5 c 1 = (tP t c).map (fun p => (5, p)) ∧ ps_I σ 5 c 2 = tS t c 0 ∧ ps_I σ 5 c 3 = tS t c 1 ∧ ps_R σ 5 c 4 = some (3, tR t c)) ∧
  (ps_R σ 5 c 5 = some (10, c) ∧ ps_R σ 5 c 6 = some (11, c) ∧ ps_L σ 10 c = 4 ∧ ps_L σ 11 c = 4 ∧ (∀ k, k < 4 → ps_I σ 10 c k = tV t c k ∧ ps_I σ 11 c k = tB t c k)) ∧
  ps_I σ 5 c 7 = tS t c 2 ∧ ps_I σ 5 c 8 = tS t c 3 ∧ ps_I σ 5 c 9 = tS t c 4
def RTk (σ : ps_S) (t : tT) (j : Nat) : Prop :=
  (ps_R σ 9 0 j = some (6, j) ∧ ps_R σ 6 j 0 = some (5, uO t j) ∧ ps_I σ 6 j 1 = uK t j 0 ∧ ps_I σ 6 j 2 = uK t j 1 ∧ ps_I σ 6 j 3 = uK t j 2 ∧ ps_I σ 6 j 4 = uK t j 3) ∧
  ps_I σ 6 j 5 = uK t j 4 ∧ ps_I σ 6 j 6 = uK t j 5 ∧ ps_I σ 6 j 7 = uK t j 6 ∧ ps_I σ 6 j 8 = nI (uT t j)
def RT0 (σ : ps_S) (t : tT) : Prop :=
  (ps_R σ 7 0 0 = some (8, 0) ∧ ps_R σ 7 0 1 = some (9, 0) ∧ ps_L σ 8 0 = 12 ∧ ps_L σ 9 0 = 30 ∧ ps_N σ 5 = tN t ∧ ps_N σ 6 = uN t ∧ ps_N σ 10 = tN t ∧ ps_N σ 11 = tN t) ∧
  ps_I σ 7 0 2 = nI (tN t) ∧ ps_I σ 7 0 3 = nI (uN t) ∧ ps_I σ 7 0 4 = uC t ∧ ps_I σ 7 0 5 = nI (uE t)
def RT (σ : ps_S) (t : tT) : Prop := RT0 σ t ∧ (∀ c, c < tN t → RTs σ t c) ∧ ∀ j, j < uN t → RTk σ t j
def u_run (t : tT) (j : Nat) : Nat := if uK t j 4 = 0 then 1 else 0
def tW (t : tT) : Prop := (tN t ≤ 12 ∧ uN t ≤ 30) ∧ (∀ c, c < tN t → ∀ p, tP t c = some p → p < c) ∧ (∀ j, j < uN t → uO t j < tN t) ∧ (uE t + sumN (u_run t) (uN t) ≤ uN t ∧ ∀ j, uT t j ≤ 30) ∧ (∀ c k, tB t c k = 0 ∨ tB t c k = 1)
/-- all but the kinds of the tree is as it was -/
def FrT (σ σ' : ps_S) : Prop := ∀ κ, ¬ (5 ≤ κ ∧ κ ≤ 11) → ps_I σ' κ = ps_I σ κ ∧ ps_J σ' κ = ps_J σ κ ∧ ps_R σ' κ = ps_R σ κ ∧ ps_L σ' κ = ps_L σ κ ∧ ps_N σ' κ = ps_N σ κ
theorem FrT.rf (σ : ps_S) : FrT σ σ := fun _ _ => ⟨rfl, rfl, rfl, rfl, rfl⟩
theorem FrT.tr {a b c : ps_S} (h1 : FrT a b) (h2 : FrT b c) : FrT a c := fun κ hκ =>
  ⟨(h2 κ hκ).1.trans (h1 κ hκ).1, (h2 κ hκ).2.1.trans (h1 κ hκ).2.1, (h2 κ hκ).2.2.1.trans (h1 κ hκ).2.2.1, (h2 κ hκ).2.2.2.1.trans (h1 κ hκ).2.2.2.1, (h2 κ hκ).2.2.2.2.trans (h1 κ hκ).2.2.2.2⟩
theorem FrT.sI {σ : ps_S} {κ i j : Nat} {v : Int32} (h : 5 ≤ κ ∧ κ ≤ 11) : FrT σ (ps_sI σ κ i j v) := fun a ha => by
  refine ⟨?_, rfl, rfl, rfl, rfl⟩
  funext b c
  rw [ps_I_sI]
  exact if_neg (fun z : a = κ ∧ b = i ∧ c = j => ha (by rw [z.1]; exact h))
theorem FrT.sR {σ : ps_S} {κ i j : Nat} {v : Option (Nat × Nat)} (h : 5 ≤ κ ∧ κ ≤ 11) : FrT σ (ps_sR σ κ i j v) := fun a ha => by
  refine ⟨rfl, rfl, ?_, rfl, rfl⟩
  funext b c
  rw [ps_R_sR]
  exact if_neg (fun z : a = κ ∧ b = i ∧ c = j => ha (by rw [z.1]; exact h))
theorem FrT.mk {σ : ps_S} {κ len : Nat} (h : 5 ≤ κ ∧ κ ≤ 11) : FrT σ (ps_mk σ κ len) := fun a ha => by
  have hne : a ≠ κ := fun z => ha (z ▸ h)
  refine ⟨?_, ?_, ?_, ?_, mk_N σ hne⟩
  · funext b; exact mk_I σ (fun z => hne z.1)
  · funext b; exact mk_J σ (fun z => hne z.1)
  · funext b; exact mk_R σ (fun z => hne z.1)
  · funext b; exact mk_L σ (fun z => hne z.1)
/-- the graph doesn't mind the tree, nor the tree the graph -/
theorem RC.fr {σ τ : ps_S} {g : gT} (h : RC σ g) (hf : FrT σ τ) : RC τ g := by
  have q := fun κ (hκ : κ ≤ 4) => hf κ (by omega)
  refine h.same ⟨fun κ i j hc => ?_, fun i _ => ?_, fun κ hκ => (q κ (by omega)).2.2.2.2⟩
  · have hκ : κ ≤ 4 := by rcases hc with z | z <;> omega
    exact ⟨congrFun (congrFun (q κ hκ).1 i) j, congrFun (congrFun (q κ hκ).2.2.1 i) j⟩
  · exact ⟨congrFun (q 4 (by omega)).2.2.2.1 i, fun j _ _ => congrFun (congrFun (q 4 (by omega)).2.2.1 i) j, fun _ j => congrFun (congrFun (q 4 (by omega)).2.2.1 i) j⟩
theorem RT.fr {σ τ : ps_S} {t : tT} (h : RT σ t) (hf : FrG σ τ) : RT τ t := by
  have qI := fun κ (hκ : ¬ (1 ≤ κ ∧ κ ≤ 4)) i j => congrFun (congrFun (hf κ hκ).1 i) j
  have qR := fun κ (hκ : ¬ (1 ≤ κ ∧ κ ≤ 4)) i j => congrFun (congrFun (hf κ hκ).2.2.1 i) j
  have qL := fun κ (hκ : ¬ (1 ≤ κ ∧ κ ≤ 4)) i => congrFun (hf κ hκ).2.2.2.1 i
  have qN := fun κ (hκ : ¬ (1 ≤ κ ∧ κ ≤ 4)) => (hf κ hκ).2.2.2.2
  unfold RT RT0 RTs RTk at h ⊢
  simp only [qI 7 (by decide), qR 7 (by decide), qL 8 (by decide), qL 9 (by decide), qN 5 (by decide), qN 6 (by decide), qN 10 (by decide), qN 11 (by decide), qR 8 (by decide), qR 9 (by decide), qI 5 (by decide), qR 5 (by decide), qL 10 (by decide), qL 11 (by decide), qI 10 (by decide), qI 11 (by decide), qR 6 (by decide), qI 6 (by decide)]
  exact h
end
