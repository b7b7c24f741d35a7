section
-- ===== PART A: goes FIRST, ahead of the names: the tables' words, and 'selects' of the private methods out of them =====
/-- a private method of a class that the tables say can be made, by its rows of tables_1 -/
def lw_okq (q : MethodName × Nat) : Prop := (q.1.cls ≠ "java/lang/invoke/MethodHandle" ∧ q.1.cls ≠ "java/lang/invoke/VarHandle") ∧ Cond.instantiable q.1.cls q.2 ∈ tables_1 ∧ Cond.privateMethod q.1 ∈ tables_1 ∧ Cond.instanceMethod q.1 ∈ tables_1
theorem lw_p0 : lw_okq (⟨"OnionProbate$Reader", "skipBlanks", "()V"⟩, 6) := ⟨⟨by decide +kernel, by decide +kernel⟩, List.mem_of_getElem? (i := 24) (by decide +kernel), List.mem_of_getElem? (i := 336) (by decide +kernel), List.mem_of_getElem? (i := 337) (by decide +kernel)⟩
theorem lw_p1 : lw_okq (⟨"OnionProbate$Reader", "readClause", "(LOnionProbate$Case;)V"⟩, 6) := ⟨⟨by decide +kernel, by decide +kernel⟩, List.mem_of_getElem? (i := 24) (by decide +kernel), List.mem_of_getElem? (i := 340) (by decide +kernel), List.mem_of_getElem? (i := 341) (by decide +kernel)⟩
theorem lw_p2 : lw_okq (⟨"OnionProbate$Reader", "here", "()I"⟩, 6) := ⟨⟨by decide +kernel, by decide +kernel⟩, List.mem_of_getElem? (i := 24) (by decide +kernel), List.mem_of_getElem? (i := 344) (by decide +kernel), List.mem_of_getElem? (i := 345) (by decide +kernel)⟩
theorem lw_p3 : lw_okq (⟨"OnionProbate$Reader", "blame", "(II)V"⟩, 6) := ⟨⟨by decide +kernel, by decide +kernel⟩, List.mem_of_getElem? (i := 24) (by decide +kernel), List.mem_of_getElem? (i := 348) (by decide +kernel), List.mem_of_getElem? (i := 349) (by decide +kernel)⟩
theorem lw_p4 : lw_okq (⟨"OnionProbate$Reader", "readRest", "(ILOnionProbate$Case;)V"⟩, 6) := ⟨⟨by decide +kernel, by decide +kernel⟩, List.mem_of_getElem? (i := 24) (by decide +kernel), List.mem_of_getElem? (i := 356) (by decide +kernel), List.mem_of_getElem? (i := 357) (by decide +kernel)⟩
theorem lw_p5 : lw_okq (⟨"OnionProbate$Reader", "readNumber", "(II)I"⟩, 6) := ⟨⟨by decide +kernel, by decide +kernel⟩, List.mem_of_getElem? (i := 24) (by decide +kernel), List.mem_of_getElem? (i := 360) (by decide +kernel), List.mem_of_getElem? (i := 361) (by decide +kernel)⟩
theorem lw_p6 : lw_okq (⟨"OnionProbate$Reader", "readType", "(LOnionProbate$Case;)V"⟩, 6) := ⟨⟨by decide +kernel, by decide +kernel⟩, List.mem_of_getElem? (i := 24) (by decide +kernel), List.mem_of_getElem? (i := 372) (by decide +kernel), List.mem_of_getElem? (i := 373) (by decide +kernel)⟩
theorem lw_p7 : lw_okq (⟨"OnionProbate$Case", "beginsAs", "(ILOnionProbate$Onion;)Z"⟩, 11) := ⟨⟨by decide +kernel, by decide +kernel⟩, List.mem_of_getElem? (i := 53) (by decide +kernel), List.mem_of_getElem? (i := 413) (by decide +kernel), List.mem_of_getElem? (i := 414) (by decide +kernel)⟩
theorem lw_p8 : lw_okq (⟨"OnionProbate$Onion", "enter", "(I)V"⟩, 12) := ⟨⟨by decide +kernel, by decide +kernel⟩, List.mem_of_getElem? (i := 111) (by decide +kernel), List.mem_of_getElem? (i := 515) (by decide +kernel), List.mem_of_getElem? (i := 516) (by decide +kernel)⟩
theorem lw_p9 : lw_okq (⟨"OnionProbate", "refusalOfYears", "(I)I"⟩, 10) := ⟨⟨by decide +kernel, by decide +kernel⟩, List.mem_of_getElem? (i := 16) (by decide +kernel), List.mem_of_getElem? (i := 535) (by decide +kernel), List.mem_of_getElem? (i := 536) (by decide +kernel)⟩
theorem lw_p10 : lw_okq (⟨"OnionProbate", "doByDraw", "()V"⟩, 10) := ⟨⟨by decide +kernel, by decide +kernel⟩, List.mem_of_getElem? (i := 16) (by decide +kernel), List.mem_of_getElem? (i := 548) (by decide +kernel), List.mem_of_getElem? (i := 549) (by decide +kernel)⟩
theorem lw_p11 : lw_okq (⟨"OnionProbate$Trial", "firstPartEnd", "(II)I"⟩, 4) := ⟨⟨by decide +kernel, by decide +kernel⟩, List.mem_of_getElem? (i := 251) (by decide +kernel), List.mem_of_getElem? (i := 588) (by decide +kernel), List.mem_of_getElem? (i := 589) (by decide +kernel)⟩
theorem lw_p12 : lw_okq (⟨"OnionProbate$Trial", "greatestWith", "(II)I"⟩, 4) := ⟨⟨by decide +kernel, by decide +kernel⟩, List.mem_of_getElem? (i := 251) (by decide +kernel), List.mem_of_getElem? (i := 592) (by decide +kernel), List.mem_of_getElem? (i := 593) (by decide +kernel)⟩
theorem lw_p13 : lw_okq (⟨"OnionProbate$Trial", "poorest", "(I)I"⟩, 4) := ⟨⟨by decide +kernel, by decide +kernel⟩, List.mem_of_getElem? (i := 251) (by decide +kernel), List.mem_of_getElem? (i := 653) (by decide +kernel), List.mem_of_getElem? (i := 654) (by decide +kernel)⟩
theorem lw_p14 : lw_okq (⟨"OnionProbate$Guesses", "fits", "(LOnionProbate$Case;I)Z"⟩, 4) := ⟨⟨by decide +kernel, by decide +kernel⟩, List.mem_of_getElem? (i := 213) (by decide +kernel), List.mem_of_getElem? (i := 680) (by decide +kernel), List.mem_of_getElem? (i := 681) (by decide +kernel)⟩
theorem lw_p15 : lw_okq (⟨"OnionProbate$Trial", "greatestAlike", "(LOnionProbate$Case;II)I"⟩, 4) := ⟨⟨by decide +kernel, by decide +kernel⟩, List.mem_of_getElem? (i := 251) (by decide +kernel), List.mem_of_getElem? (i := 699) (by decide +kernel), List.mem_of_getElem? (i := 700) (by decide +kernel)⟩
def lw_privs_1 : List (MethodName × Nat) := [(⟨"OnionProbate$Reader", "skipBlanks", "()V"⟩, 6), (⟨"OnionProbate$Reader", "readClause", "(LOnionProbate$Case;)V"⟩, 6), (⟨"OnionProbate$Reader", "here", "()I"⟩, 6), (⟨"OnionProbate$Reader", "blame", "(II)V"⟩, 6), (⟨"OnionProbate$Reader", "readRest", "(ILOnionProbate$Case;)V"⟩, 6), (⟨"OnionProbate$Reader", "readNumber", "(II)I"⟩, 6), (⟨"OnionProbate$Reader", "readType", "(LOnionProbate$Case;)V"⟩, 6), (⟨"OnionProbate$Case", "beginsAs", "(ILOnionProbate$Onion;)Z"⟩, 11), (⟨"OnionProbate$Onion", "enter", "(I)V"⟩, 12), (⟨"OnionProbate", "refusalOfYears", "(I)I"⟩, 10), (⟨"OnionProbate", "doByDraw", "()V"⟩, 10), (⟨"OnionProbate$Trial", "firstPartEnd", "(II)I"⟩, 4), (⟨"OnionProbate$Trial", "greatestWith", "(II)I"⟩, 4), (⟨"OnionProbate$Trial", "poorest", "(I)I"⟩, 4), (⟨"OnionProbate$Guesses", "fits", "(LOnionProbate$Case;I)Z"⟩, 4), (⟨"OnionProbate$Trial", "greatestAlike", "(LOnionProbate$Case;II)I"⟩, 4)]
theorem lw_r1 : ∀ q ∈ lw_privs_1, lw_okq q := List.forall_mem_cons.mpr ⟨lw_p0, List.forall_mem_cons.mpr ⟨lw_p1, List.forall_mem_cons.mpr ⟨lw_p2, List.forall_mem_cons.mpr ⟨lw_p3, List.forall_mem_cons.mpr ⟨lw_p4, List.forall_mem_cons.mpr ⟨lw_p5, List.forall_mem_cons.mpr ⟨lw_p6, List.forall_mem_cons.mpr ⟨lw_p7, List.forall_mem_cons.mpr ⟨lw_p8, List.forall_mem_cons.mpr ⟨lw_p9, List.forall_mem_cons.mpr ⟨lw_p10, List.forall_mem_cons.mpr ⟨lw_p11, List.forall_mem_cons.mpr ⟨lw_p12, List.forall_mem_cons.mpr ⟨lw_p13, List.forall_mem_cons.mpr ⟨lw_p14, List.forall_mem_cons.mpr ⟨lw_p15, fun _ h => absurd h List.not_mem_nil⟩⟩⟩⟩⟩⟩⟩⟩⟩⟩⟩⟩⟩⟩⟩⟩
theorem lw_p16 : lw_okq (⟨"OnionProbateModel", "empties", "()V"⟩, 40) := ⟨⟨by decide +kernel, by decide +kernel⟩, List.mem_of_getElem? (i := 738) (by decide +kernel), List.mem_of_getElem? (i := 744) (by decide +kernel), List.mem_of_getElem? (i := 745) (by decide +kernel)⟩
theorem lw_p17 : lw_okq (⟨"OnionProbateModel", "here", "()I"⟩, 40) := ⟨⟨by decide +kernel, by decide +kernel⟩, List.mem_of_getElem? (i := 738) (by decide +kernel), List.mem_of_getElem? (i := 883) (by decide +kernel), List.mem_of_getElem? (i := 884) (by decide +kernel)⟩
theorem lw_p18 : lw_okq (⟨"OnionProbateModel", "takeClause", "()I"⟩, 40) := ⟨⟨by decide +kernel, by decide +kernel⟩, List.mem_of_getElem? (i := 738) (by decide +kernel), List.mem_of_getElem? (i := 887) (by decide +kernel), List.mem_of_getElem? (i := 888) (by decide +kernel)⟩
theorem lw_p19 : lw_okq (⟨"OnionProbateModel", "fails", "(II)I"⟩, 40) := ⟨⟨by decide +kernel, by decide +kernel⟩, List.mem_of_getElem? (i := 738) (by decide +kernel), List.mem_of_getElem? (i := 891) (by decide +kernel), List.mem_of_getElem? (i := 892) (by decide +kernel)⟩
theorem lw_p20 : lw_okq (⟨"OnionProbateModel", "isFull", "(I)Z"⟩, 40) := ⟨⟨by decide +kernel, by decide +kernel⟩, List.mem_of_getElem? (i := 738) (by decide +kernel), List.mem_of_getElem? (i := 895) (by decide +kernel), List.mem_of_getElem? (i := 896) (by decide +kernel)⟩
theorem lw_p21 : lw_okq (⟨"OnionProbateModel", "takeBody", "(I)I"⟩, 40) := ⟨⟨by decide +kernel, by decide +kernel⟩, List.mem_of_getElem? (i := 738) (by decide +kernel), List.mem_of_getElem? (i := 899) (by decide +kernel), List.mem_of_getElem? (i := 900) (by decide +kernel)⟩
theorem lw_p22 : lw_okq (⟨"OnionProbateModel", "takeMiddle", "()I"⟩, 40) := ⟨⟨by decide +kernel, by decide +kernel⟩, List.mem_of_getElem? (i := 738) (by decide +kernel), List.mem_of_getElem? (i := 903) (by decide +kernel), List.mem_of_getElem? (i := 904) (by decide +kernel)⟩
theorem lw_p23 : lw_okq (⟨"OnionProbateModel", "takeNumber", "(II)I"⟩, 40) := ⟨⟨by decide +kernel, by decide +kernel⟩, List.mem_of_getElem? (i := 738) (by decide +kernel), List.mem_of_getElem? (i := 907) (by decide +kernel), List.mem_of_getElem? (i := 908) (by decide +kernel)⟩
theorem lw_p24 : lw_okq (⟨"OnionProbateModel", "takeLayer", "()I"⟩, 40) := ⟨⟨by decide +kernel, by decide +kernel⟩, List.mem_of_getElem? (i := 738) (by decide +kernel), List.mem_of_getElem? (i := 913) (by decide +kernel), List.mem_of_getElem? (i := 914) (by decide +kernel)⟩
theorem lw_p25 : lw_okq (⟨"OnionProbateModel", "takeExecutor", "()I"⟩, 40) := ⟨⟨by decide +kernel, by decide +kernel⟩, List.mem_of_getElem? (i := 738) (by decide +kernel), List.mem_of_getElem? (i := 917) (by decide +kernel), List.mem_of_getElem? (i := 918) (by decide +kernel)⟩
theorem lw_p26 : lw_okq (⟨"OnionProbateModel", "takeType", "()I"⟩, 40) := ⟨⟨by decide +kernel, by decide +kernel⟩, List.mem_of_getElem? (i := 738) (by decide +kernel), List.mem_of_getElem? (i := 921) (by decide +kernel), List.mem_of_getElem? (i := 922) (by decide +kernel)⟩
theorem lw_p27 : lw_okq (⟨"OnionProbateModel", "takeRead", "()V"⟩, 40) := ⟨⟨by decide +kernel, by decide +kernel⟩, List.mem_of_getElem? (i := 738) (by decide +kernel), List.mem_of_getElem? (i := 925) (by decide +kernel), List.mem_of_getElem? (i := 926) (by decide +kernel)⟩
theorem lw_p28 : lw_okq (⟨"OnionProbateModel", "allThick", "()I"⟩, 40) := ⟨⟨by decide +kernel, by decide +kernel⟩, List.mem_of_getElem? (i := 738) (by decide +kernel), List.mem_of_getElem? (i := 937) (by decide +kernel), List.mem_of_getElem? (i := 938) (by decide +kernel)⟩
theorem lw_p29 : lw_okq (⟨"OnionProbateModel", "cut", "()I"⟩, 40) := ⟨⟨by decide +kernel, by decide +kernel⟩, List.mem_of_getElem? (i := 738) (by decide +kernel), List.mem_of_getElem? (i := 941) (by decide +kernel), List.mem_of_getElem? (i := 942) (by decide +kernel)⟩
theorem lw_p30 : lw_okq (⟨"OnionProbateModel", "canBeOnes", "()I"⟩, 40) := ⟨⟨by decide +kernel, by decide +kernel⟩, List.mem_of_getElem? (i := 738) (by decide +kernel), List.mem_of_getElem? (i := 945) (by decide +kernel), List.mem_of_getElem? (i := 946) (by decide +kernel)⟩
theorem lw_p31 : lw_okq (⟨"OnionProbateModel", "canBe", "(I)Z"⟩, 40) := ⟨⟨by decide +kernel, by decide +kernel⟩, List.mem_of_getElem? (i := 738) (by decide +kernel), List.mem_of_getElem? (i := 949) (by decide +kernel), List.mem_of_getElem? (i := 950) (by decide +kernel)⟩
def lw_privs_2 : List (MethodName × Nat) := [(⟨"OnionProbateModel", "empties", "()V"⟩, 40), (⟨"OnionProbateModel", "here", "()I"⟩, 40), (⟨"OnionProbateModel", "takeClause", "()I"⟩, 40), (⟨"OnionProbateModel", "fails", "(II)I"⟩, 40), (⟨"OnionProbateModel", "isFull", "(I)Z"⟩, 40), (⟨"OnionProbateModel", "takeBody", "(I)I"⟩, 40), (⟨"OnionProbateModel", "takeMiddle", "()I"⟩, 40), (⟨"OnionProbateModel", "takeNumber", "(II)I"⟩, 40), (⟨"OnionProbateModel", "takeLayer", "()I"⟩, 40), (⟨"OnionProbateModel", "takeExecutor", "()I"⟩, 40), (⟨"OnionProbateModel", "takeType", "()I"⟩, 40), (⟨"OnionProbateModel", "takeRead", "()V"⟩, 40), (⟨"OnionProbateModel", "allThick", "()I"⟩, 40), (⟨"OnionProbateModel", "cut", "()I"⟩, 40), (⟨"OnionProbateModel", "canBeOnes", "()I"⟩, 40), (⟨"OnionProbateModel", "canBe", "(I)Z"⟩, 40)]
theorem lw_r2 : ∀ q ∈ lw_privs_2, lw_okq q := List.forall_mem_cons.mpr ⟨lw_p16, List.forall_mem_cons.mpr ⟨lw_p17, List.forall_mem_cons.mpr ⟨lw_p18, List.forall_mem_cons.mpr ⟨lw_p19, List.forall_mem_cons.mpr ⟨lw_p20, List.forall_mem_cons.mpr ⟨lw_p21, List.forall_mem_cons.mpr ⟨lw_p22, List.forall_mem_cons.mpr ⟨lw_p23, List.forall_mem_cons.mpr ⟨lw_p24, List.forall_mem_cons.mpr ⟨lw_p25, List.forall_mem_cons.mpr ⟨lw_p26, List.forall_mem_cons.mpr ⟨lw_p27, List.forall_mem_cons.mpr ⟨lw_p28, List.forall_mem_cons.mpr ⟨lw_p29, List.forall_mem_cons.mpr ⟨lw_p30, List.forall_mem_cons.mpr ⟨lw_p31, fun _ h => absurd h List.not_mem_nil⟩⟩⟩⟩⟩⟩⟩⟩⟩⟩⟩⟩⟩⟩⟩⟩
theorem lw_p32 : lw_okq (⟨"OnionProbateModel", "sure", "()I"⟩, 40) := ⟨⟨by decide +kernel, by decide +kernel⟩, List.mem_of_getElem? (i := 738) (by decide +kernel), List.mem_of_getElem? (i := 953) (by decide +kernel), List.mem_of_getElem? (i := 954) (by decide +kernel)⟩
theorem lw_p33 : lw_okq (⟨"OnionProbateModel", "nextOf", "(I)I"⟩, 40) := ⟨⟨by decide +kernel, by decide +kernel⟩, List.mem_of_getElem? (i := 738) (by decide +kernel), List.mem_of_getElem? (i := 957) (by decide +kernel), List.mem_of_getElem? (i := 958) (by decide +kernel)⟩
theorem lw_p34 : lw_okq (⟨"OnionProbateModel", "law", "()I"⟩, 40) := ⟨⟨by decide +kernel, by decide +kernel⟩, List.mem_of_getElem? (i := 738) (by decide +kernel), List.mem_of_getElem? (i := 961) (by decide +kernel), List.mem_of_getElem? (i := 962) (by decide +kernel)⟩
theorem lw_p35 : lw_okq (⟨"OnionProbateModel", "envyBy", "([II)I"⟩, 40) := ⟨⟨by decide +kernel, by decide +kernel⟩, List.mem_of_getElem? (i := 738) (by decide +kernel), List.mem_of_getElem? (i := 965) (by decide +kernel), List.mem_of_getElem? (i := 966) (by decide +kernel)⟩
theorem lw_p36 : lw_okq (⟨"OnionProbateModel", "weeps", "()I"⟩, 40) := ⟨⟨by decide +kernel, by decide +kernel⟩, List.mem_of_getElem? (i := 738) (by decide +kernel), List.mem_of_getElem? (i := 970) (by decide +kernel), List.mem_of_getElem? (i := 971) (by decide +kernel)⟩
theorem lw_p37 : lw_okq (⟨"OnionProbateModel", "dryIn", "()I"⟩, 40) := ⟨⟨by decide +kernel, by decide +kernel⟩, List.mem_of_getElem? (i := 738) (by decide +kernel), List.mem_of_getElem? (i := 974) (by decide +kernel), List.mem_of_getElem? (i := 975) (by decide +kernel)⟩
theorem lw_p38 : lw_okq (⟨"OnionProbateModel", "isLayer", "(I)Z"⟩, 40) := ⟨⟨by decide +kernel, by decide +kernel⟩, List.mem_of_getElem? (i := 738) (by decide +kernel), List.mem_of_getElem? (i := 982) (by decide +kernel), List.mem_of_getElem? (i := 983) (by decide +kernel)⟩
theorem lw_p39 : lw_okq (⟨"OnionProbateModel", "worthOf", "(I)I"⟩, 40) := ⟨⟨by decide +kernel, by decide +kernel⟩, List.mem_of_getElem? (i := 738) (by decide +kernel), List.mem_of_getElem? (i := 987) (by decide +kernel), List.mem_of_getElem? (i := 988) (by decide +kernel)⟩
theorem lw_p40 : lw_okq (⟨"OnionProbateModel", "stingOf", "(I)I"⟩, 40) := ⟨⟨by decide +kernel, by decide +kernel⟩, List.mem_of_getElem? (i := 738) (by decide +kernel), List.mem_of_getElem? (i := 994) (by decide +kernel), List.mem_of_getElem? (i := 995) (by decide +kernel)⟩
theorem lw_p41 : lw_okq (⟨"OnionProbateModel", "isExecutor", "(I)Z"⟩, 40) := ⟨⟨by decide +kernel, by decide +kernel⟩, List.mem_of_getElem? (i := 738) (by decide +kernel), List.mem_of_getElem? (i := 1005) (by decide +kernel), List.mem_of_getElem? (i := 1006) (by decide +kernel)⟩
theorem lw_p42 : lw_okq (⟨"OnionProbateModel", "canPeel", "()Z"⟩, 40) := ⟨⟨by decide +kernel, by decide +kernel⟩, List.mem_of_getElem? (i := 738) (by decide +kernel), List.mem_of_getElem? (i := 1023) (by decide +kernel), List.mem_of_getElem? (i := 1024) (by decide +kernel)⟩
theorem lw_p43 : lw_okq (⟨"OnionProbateModel", "remember", "()V"⟩, 40) := ⟨⟨by decide +kernel, by decide +kernel⟩, List.mem_of_getElem? (i := 738) (by decide +kernel), List.mem_of_getElem? (i := 1028) (by decide +kernel), List.mem_of_getElem? (i := 1029) (by decide +kernel)⟩
theorem lw_p44 : lw_okq (⟨"OnionProbateModel", "peels", "(I)I"⟩, 40) := ⟨⟨by decide +kernel, by decide +kernel⟩, List.mem_of_getElem? (i := 738) (by decide +kernel), List.mem_of_getElem? (i := 1032) (by decide +kernel), List.mem_of_getElem? (i := 1033) (by decide +kernel)⟩
theorem lw_p45 : lw_okq (⟨"OnionProbateModel", "enters", "(III)V"⟩, 40) := ⟨⟨by decide +kernel, by decide +kernel⟩, List.mem_of_getElem? (i := 738) (by decide +kernel), List.mem_of_getElem? (i := 1039) (by decide +kernel), List.mem_of_getElem? (i := 1040) (by decide +kernel)⟩
theorem lw_p46 : lw_okq (⟨"OnionProbateModel", "grows", "()V"⟩, 40) := ⟨⟨by decide +kernel, by decide +kernel⟩, List.mem_of_getElem? (i := 738) (by decide +kernel), List.mem_of_getElem? (i := 1051) (by decide +kernel), List.mem_of_getElem? (i := 1052) (by decide +kernel)⟩
theorem lw_p47 : lw_okq (⟨"OnionProbateModel", "yearsRefused", "(I)I"⟩, 40) := ⟨⟨by decide +kernel, by decide +kernel⟩, List.mem_of_getElem? (i := 738) (by decide +kernel), List.mem_of_getElem? (i := 1059) (by decide +kernel), List.mem_of_getElem? (i := 1060) (by decide +kernel)⟩
def lw_privs_3 : List (MethodName × Nat) := [(⟨"OnionProbateModel", "sure", "()I"⟩, 40), (⟨"OnionProbateModel", "nextOf", "(I)I"⟩, 40), (⟨"OnionProbateModel", "law", "()I"⟩, 40), (⟨"OnionProbateModel", "envyBy", "([II)I"⟩, 40), (⟨"OnionProbateModel", "weeps", "()I"⟩, 40), (⟨"OnionProbateModel", "dryIn", "()I"⟩, 40), (⟨"OnionProbateModel", "isLayer", "(I)Z"⟩, 40), (⟨"OnionProbateModel", "worthOf", "(I)I"⟩, 40), (⟨"OnionProbateModel", "stingOf", "(I)I"⟩, 40), (⟨"OnionProbateModel", "isExecutor", "(I)Z"⟩, 40), (⟨"OnionProbateModel", "canPeel", "()Z"⟩, 40), (⟨"OnionProbateModel", "remember", "()V"⟩, 40), (⟨"OnionProbateModel", "peels", "(I)I"⟩, 40), (⟨"OnionProbateModel", "enters", "(III)V"⟩, 40), (⟨"OnionProbateModel", "grows", "()V"⟩, 40), (⟨"OnionProbateModel", "yearsRefused", "(I)I"⟩, 40)]
theorem lw_r3 : ∀ q ∈ lw_privs_3, lw_okq q := List.forall_mem_cons.mpr ⟨lw_p32, List.forall_mem_cons.mpr ⟨lw_p33, List.forall_mem_cons.mpr ⟨lw_p34, List.forall_mem_cons.mpr ⟨lw_p35, List.forall_mem_cons.mpr ⟨lw_p36, List.forall_mem_cons.mpr ⟨lw_p37, List.forall_mem_cons.mpr ⟨lw_p38, List.forall_mem_cons.mpr ⟨lw_p39, List.forall_mem_cons.mpr ⟨lw_p40, List.forall_mem_cons.mpr ⟨lw_p41, List.forall_mem_cons.mpr ⟨lw_p42, List.forall_mem_cons.mpr ⟨lw_p43, List.forall_mem_cons.mpr ⟨lw_p44, List.forall_mem_cons.mpr ⟨lw_p45, List.forall_mem_cons.mpr ⟨lw_p46, List.forall_mem_cons.mpr ⟨lw_p47, fun _ h => absurd h List.not_mem_nil⟩⟩⟩⟩⟩⟩⟩⟩⟩⟩⟩⟩⟩⟩⟩⟩
theorem lw_p48 : lw_okq (⟨"OnionProbateModel", "passes", "()V"⟩, 40) := ⟨⟨by decide +kernel, by decide +kernel⟩, List.mem_of_getElem? (i := 738) (by decide +kernel), List.mem_of_getElem? (i := 1064) (by decide +kernel), List.mem_of_getElem? (i := 1065) (by decide +kernel)⟩
theorem lw_p49 : lw_okq (⟨"OnionProbateModel", "chance", "()V"⟩, 40) := ⟨⟨by decide +kernel, by decide +kernel⟩, List.mem_of_getElem? (i := 738) (by decide +kernel), List.mem_of_getElem? (i := 1072) (by decide +kernel), List.mem_of_getElem? (i := 1073) (by decide +kernel)⟩
theorem lw_p50 : lw_okq (⟨"OnionProbateModel", "draw", "(I)I"⟩, 40) := ⟨⟨by decide +kernel, by decide +kernel⟩, List.mem_of_getElem? (i := 738) (by decide +kernel), List.mem_of_getElem? (i := 1076) (by decide +kernel), List.mem_of_getElem? (i := 1077) (by decide +kernel)⟩
theorem lw_p51 : lw_okq (⟨"OnionProbateModel", "stingFrom", "(II)I"⟩, 40) := ⟨⟨by decide +kernel, by decide +kernel⟩, List.mem_of_getElem? (i := 738) (by decide +kernel), List.mem_of_getElem? (i := 1097) (by decide +kernel), List.mem_of_getElem? (i := 1098) (by decide +kernel)⟩
theorem lw_p52 : lw_okq (⟨"OnionProbateModel", "isPair", "(II)Z"⟩, 40) := ⟨⟨by decide +kernel, by decide +kernel⟩, List.mem_of_getElem? (i := 738) (by decide +kernel), List.mem_of_getElem? (i := 1119) (by decide +kernel), List.mem_of_getElem? (i := 1120) (by decide +kernel)⟩
theorem lw_p53 : lw_okq (⟨"OnionProbateModel", "couldBeOne", "(I)Z"⟩, 40) := ⟨⟨by decide +kernel, by decide +kernel⟩, List.mem_of_getElem? (i := 738) (by decide +kernel), List.mem_of_getElem? (i := 1146) (by decide +kernel), List.mem_of_getElem? (i := 1147) (by decide +kernel)⟩
theorem lw_p54 : lw_okq (⟨"OnionProbateModel", "kindIn", "(II)I"⟩, 40) := ⟨⟨by decide +kernel, by decide +kernel⟩, List.mem_of_getElem? (i := 738) (by decide +kernel), List.mem_of_getElem? (i := 1150) (by decide +kernel), List.mem_of_getElem? (i := 1151) (by decide +kernel)⟩
def lw_privs_4 : List (MethodName × Nat) := [(⟨"OnionProbateModel", "passes", "()V"⟩, 40), (⟨"OnionProbateModel", "chance", "()V"⟩, 40), (⟨"OnionProbateModel", "draw", "(I)I"⟩, 40), (⟨"OnionProbateModel", "stingFrom", "(II)I"⟩, 40), (⟨"OnionProbateModel", "isPair", "(II)Z"⟩, 40), (⟨"OnionProbateModel", "couldBeOne", "(I)Z"⟩, 40), (⟨"OnionProbateModel", "kindIn", "(II)I"⟩, 40)]
theorem lw_r4 : ∀ q ∈ lw_privs_4, lw_okq q := List.forall_mem_cons.mpr ⟨lw_p48, List.forall_mem_cons.mpr ⟨lw_p49, List.forall_mem_cons.mpr ⟨lw_p50, List.forall_mem_cons.mpr ⟨lw_p51, List.forall_mem_cons.mpr ⟨lw_p52, List.forall_mem_cons.mpr ⟨lw_p53, List.forall_mem_cons.mpr ⟨lw_p54, fun _ h => absurd h List.not_mem_nil⟩⟩⟩⟩⟩⟩⟩
def lw_privs : List (MethodName × Nat) := lw_privs_1 ++ (lw_privs_2 ++ (lw_privs_3 ++ (lw_privs_4)))
def lw_tbl : List Cond := k2_sels lw_privs ++ tables_1
theorem lw_privs_ok : ∀ q ∈ lw_privs, lw_okq q := by
  show ∀ q ∈ lw_privs_1 ++ (lw_privs_2 ++ (lw_privs_3 ++ (lw_privs_4))), lw_okq q
  exact List.forall_mem_append.mpr ⟨lw_r1, List.forall_mem_append.mpr ⟨lw_r2, List.forall_mem_append.mpr ⟨lw_r3, lw_r4⟩⟩⟩
end
section
def RX0 : String := "OnionProbate$Book"
def TX0 : u_T := fun k => match k with
  | 0 => ("OnionProbate$Book", "executorOf", "[I", true)
  | 1 => ("OnionProbate$Book", "gotOf", "[I", true)
  | _ => ("OnionProbate$Book", "count", "I", false)
def tyX0 : Nat → FieldType := fun k => match k with
  | 0 => .array .int
  | 1 => .array .int
  | _ => .int
abbrev wsX00 : List Cond := u_ws RX0 TX0 3
theorem nmX0 : ∀ a, a < 3 → ∀ b, b < 3 → a ≠ b → (TX0 a).2.1 ≠ (TX0 b).2.1 := by decide +kernel
theorem tyX0_ok : ∀ k, k < 3 → parseFieldDescriptor (TX0 k).2.2.1 = some (tyX0 k) := by decide +kernel
abbrev cX0_init : ByteArray := prog_2_method_1_code
def yX0_init : MethodName := ⟨RX0, "<init>", "()V"⟩
abbrev cX0_add : ByteArray := prog_2_method_2_code
def yX0_add : MethodName := ⟨RX0, "add", "(II)I"⟩
abbrev cX0_firstWrong : ByteArray := prog_2_method_3_code
def yX0_firstWrong : MethodName := ⟨RX0, "firstWrong", "(LOnionProbate$Onion;)I"⟩
def RX1 : String := "OnionProbate$Case"
def TX1 : u_T := fun k => match k with
  | 0 => ("OnionProbate$Case", "isThere", "Z", false)
  | 1 => ("OnionProbate$Case", "middle", "I", false)
  | 2 => ("OnionProbate$Case", "layers", "I", false)
  | 3 => ("OnionProbate$Case", "executors", "I", false)
  | 4 => ("OnionProbate$Case", "types", "I", false)
  | 5 => ("OnionProbate$Case", "kinds", "[I", true)
  | 6 => ("OnionProbate$Case", "thicks", "[I", true)
  | 7 => ("OnionProbate$Case", "cared", "[I", true)
  | 8 => ("OnionProbate$Case", "quick", "[I", true)
  | 9 => ("OnionProbate$Case", "typeLengths", "[I", true)
  | _ => ("OnionProbate$Case", "typeKinds", "[[I", true)
def tyX1 : Nat → FieldType := fun k => match k with
  | 0 => .boolean
  | 1 => .int
  | 2 => .int
  | 3 => .int
  | 4 => .int
  | 5 => .array .int
  | 6 => .array .int
  | 7 => .array .int
  | 8 => .array .int
  | 9 => .array .int
  | _ => .array (.array .int)
abbrev wsX10 : List Cond := u_ws RX1 TX1 11
theorem nmX1 : ∀ a, a < 11 → ∀ b, b < 11 → a ≠ b → (TX1 a).2.1 ≠ (TX1 b).2.1 := by decide +kernel
theorem tyX1_ok : ∀ k, k < 11 → parseFieldDescriptor (TX1 k).2.2.1 = some (tyX1 k) := by decide +kernel
abbrev cX1_init : ByteArray := prog_3_method_1_code
def yX1_init : MethodName := ⟨RX1, "<init>", "()V"⟩
abbrev cX1_clear : ByteArray := prog_3_method_2_code
def yX1_clear : MethodName := ⟨RX1, "clear", "()V"⟩
abbrev cX1_hasExecutor : ByteArray := prog_3_method_3_code
def yX1_hasExecutor : MethodName := ⟨RX1, "hasExecutor", "(I)Z"⟩
abbrev cX1_isFullOf : ByteArray := prog_3_method_4_code
def yX1_isFullOf : MethodName := ⟨RX1, "isFullOf", "(I)Z"⟩
abbrev cX1_addLayer : ByteArray := prog_3_method_5_code
def yX1_addLayer : MethodName := ⟨RX1, "addLayer", "(II)V"⟩
abbrev cX1_addExecutor : ByteArray := prog_3_method_6_code
def yX1_addExecutor : MethodName := ⟨RX1, "addExecutor", "(II)V"⟩
abbrev cX1_addType : ByteArray := prog_3_method_7_code
def yX1_addType : MethodName := ⟨RX1, "addType", "([II)V"⟩
abbrev cX1_kindOfType : ByteArray := prog_3_method_8_code
def yX1_kindOfType : MethodName := ⟨RX1, "kindOfType", "(II)I"⟩
abbrev cX1_canBe : ByteArray := prog_3_method_9_code
def yX1_canBe : MethodName := ⟨RX1, "canBe", "(LOnionProbate$Onion;)I"⟩
abbrev cX1_beginsAs : ByteArray := prog_3_method_10_code
def yX1_beginsAs : MethodName := ⟨RX1, "beginsAs", "(ILOnionProbate$Onion;)Z"⟩
abbrev cX1_countNext : ByteArray := prog_3_method_11_code
def yX1_countNext : MethodName := ⟨RX1, "countNext", "(LOnionProbate$Onion;I)I"⟩
abbrev cX1_sureKind : ByteArray := prog_3_method_12_code
def yX1_sureKind : MethodName := ⟨RX1, "sureKind", "(LOnionProbate$Onion;)I"⟩
abbrev cX1_lawOfTypes : ByteArray := prog_3_method_13_code
def yX1_lawOfTypes : MethodName := ⟨RX1, "lawOfTypes", "()I"⟩
def RX2 : String := "OnionProbate$Deeds"
def TX2 : u_T := fun k => match k with
  | 0 => ("OnionProbate$Deeds", "before", "[LOnionProbate$Onion;", true)
  | 1 => ("OnionProbate$Deeds", "next", "I", false)
  | _ => ("OnionProbate$Deeds", "count", "I", false)
def tyX2 : Nat → FieldType := fun k => match k with
  | 0 => .array (.object "OnionProbate$Onion")
  | 1 => .int
  | _ => .int
abbrev wsX20 : List Cond := u_ws RX2 TX2 3
theorem nmX2 : ∀ a, a < 3 → ∀ b, b < 3 → a ≠ b → (TX2 a).2.1 ≠ (TX2 b).2.1 := by decide +kernel
theorem tyX2_ok : ∀ k, k < 3 → parseFieldDescriptor (TX2 k).2.2.1 = some (tyX2 k) := by decide +kernel
abbrev cX2_init : ByteArray := prog_4_method_1_code
def yX2_init : MethodName := ⟨RX2, "<init>", "()V"⟩
abbrev cX2_forget : ByteArray := prog_4_method_2_code
def yX2_forget : MethodName := ⟨RX2, "forget", "()V"⟩
abbrev cX2_remember : ByteArray := prog_4_method_3_code
def yX2_remember : MethodName := ⟨RX2, "remember", "(LOnionProbate$Onion;)V"⟩
abbrev cX2_takeBack : ByteArray := prog_4_method_4_code
def yX2_takeBack : MethodName := ⟨RX2, "takeBack", "(ILOnionProbate$Onion;)V"⟩
def RX3 : String := "OnionProbate$Draws"
def TX3 : u_T := fun k => match k with
  | _ => ("OnionProbate$Draws", "state", "I", false)
def tyX3 : Nat → FieldType := fun k => match k with
  | _ => .int
abbrev wsX30 : List Cond := u_ws RX3 TX3 1
theorem nmX3 : ∀ a, a < 1 → ∀ b, b < 1 → a ≠ b → (TX3 a).2.1 ≠ (TX3 b).2.1 := by decide +kernel
theorem tyX3_ok : ∀ k, k < 1 → parseFieldDescriptor (TX3 k).2.2.1 = some (tyX3 k) := by decide +kernel
abbrev cX3_init : ByteArray := prog_5_method_1_code
def yX3_init : MethodName := ⟨RX3, "<init>", "()V"⟩
abbrev cX3_below : ByteArray := prog_5_method_2_code
def yX3_below : MethodName := ⟨RX3, "below", "(I)I"⟩
def RX4 : String := "OnionProbate$Guesses"
def TX4 : u_T := fun k => match k with
  | 0 => ("OnionProbate$Guesses", "layerOf", "[I", true)
  | 1 => ("OnionProbate$Guesses", "kindOf", "[I", true)
  | 2 => ("OnionProbate$Guesses", "isSo", "[Z", true)
  | _ => ("OnionProbate$Guesses", "count", "I", false)
def tyX4 : Nat → FieldType := fun k => match k with
  | 0 => .array .int
  | 1 => .array .int
  | 2 => .array .boolean
  | _ => .int
abbrev wsX40 : List Cond := u_ws RX4 TX4 4
theorem nmX4 : ∀ a, a < 4 → ∀ b, b < 4 → a ≠ b → (TX4 a).2.1 ≠ (TX4 b).2.1 := by decide +kernel
theorem tyX4_ok : ∀ k, k < 4 → parseFieldDescriptor (TX4 k).2.2.1 = some (tyX4 k) := by decide +kernel
abbrev cX4_init : ByteArray := prog_6_method_1_code
def yX4_init : MethodName := ⟨RX4, "<init>", "()V"⟩
abbrev cX4_add : ByteArray := prog_6_method_2_code
def yX4_add : MethodName := ⟨RX4, "add", "(IIZ)I"⟩
abbrev cX4_fitting : ByteArray := prog_6_method_3_code
def yX4_fitting : MethodName := ⟨RX4, "fitting", "(LOnionProbate$Case;)I"⟩
abbrev cX4_fits : ByteArray := prog_6_method_4_code
def yX4_fits : MethodName := ⟨RX4, "fits", "(LOnionProbate$Case;I)Z"⟩
def RX5 : String := "OnionProbate$Image"
def TX5 : u_T := fun k => match k with
  | 0 => ("OnionProbate$Image", "kept", "Z", false)
  | 1 => ("OnionProbate$Image", "onion", "LOnionProbate$Onion;", true)
  | _ => ("OnionProbate$Image", "drawState", "I", false)
def tyX5 : Nat → FieldType := fun k => match k with
  | 0 => .boolean
  | 1 => .object "OnionProbate$Onion"
  | _ => .int
abbrev wsX50 : List Cond := u_ws RX5 TX5 3
theorem nmX5 : ∀ a, a < 3 → ∀ b, b < 3 → a ≠ b → (TX5 a).2.1 ≠ (TX5 b).2.1 := by decide +kernel
theorem tyX5_ok : ∀ k, k < 3 → parseFieldDescriptor (TX5 k).2.2.1 = some (tyX5 k) := by decide +kernel
abbrev cX5_init : ByteArray := prog_7_method_1_code
def yX5_init : MethodName := ⟨RX5, "<init>", "()V"⟩
def RX6 : String := "OnionProbate$Onion"
def TX6 : u_T := fun k => match k with
  | 0 => ("OnionProbate$Onion", "layers", "I", false)
  | 1 => ("OnionProbate$Onion", "kinds", "[I", true)
  | 2 => ("OnionProbate$Onion", "thicks", "[I", true)
  | 3 => ("OnionProbate$Onion", "got", "[I", true)
  | 4 => ("OnionProbate$Onion", "tears", "[I", true)
  | 5 => ("OnionProbate$Onion", "peeled", "[I", true)
  | 6 => ("OnionProbate$Onion", "log", "[I", true)
  | 7 => ("OnionProbate$Onion", "entries", "I", false)
  | 8 => ("OnionProbate$Onion", "years", "I", false)
  | 9 => ("OnionProbate$Onion", "stopped", "Z", false)
  | 10 => ("OnionProbate$Onion", "found", "Z", false)
  | _ => ("OnionProbate$Onion", "lastPeeler", "I", false)
def tyX6 : Nat → FieldType := fun k => match k with
  | 0 => .int
  | 1 => .array .int
  | 2 => .array .int
  | 3 => .array .int
  | 4 => .array .int
  | 5 => .array .int
  | 6 => .array .int
  | 7 => .int
  | 8 => .int
  | 9 => .boolean
  | 10 => .boolean
  | _ => .int
abbrev wsX60 : List Cond := u_ws RX6 TX6 12
theorem nmX6 : ∀ a, a < 12 → ∀ b, b < 12 → a ≠ b → (TX6 a).2.1 ≠ (TX6 b).2.1 := by decide +kernel
theorem tyX6_ok : ∀ k, k < 12 → parseFieldDescriptor (TX6 k).2.2.1 = some (tyX6 k) := by decide +kernel
abbrev cX6_init : ByteArray := prog_8_method_1_code
def yX6_init : MethodName := ⟨RX6, "<init>", "()V"⟩
abbrev cX6_begin : ByteArray := prog_8_method_2_code
def yX6_begin : MethodName := ⟨RX6, "begin", "(LOnionProbate$Case;)V"⟩
abbrev cX6_copy : ByteArray := prog_8_method_3_code
def yX6_copy : MethodName := ⟨RX6, "copy", "(LOnionProbate$Onion;)V"⟩
abbrev cX6_hasLayer : ByteArray := prog_8_method_4_code
def yX6_hasLayer : MethodName := ⟨RX6, "hasLayer", "(I)Z"⟩
abbrev cX6_canBePeeled : ByteArray := prog_8_method_5_code
def yX6_canBePeeled : MethodName := ⟨RX6, "canBePeeled", "()Z"⟩
abbrev cX6_worthOf : ByteArray := prog_8_method_6_code
def yX6_worthOf : MethodName := ⟨RX6, "worthOf", "(I)I"⟩
abbrev cX6_stingOf : ByteArray := prog_8_method_7_code
def yX6_stingOf : MethodName := ⟨RX6, "stingOf", "(I)I"⟩
abbrev cX6_worthBetween : ByteArray := prog_8_method_8_code
def yX6_worthBetween : MethodName := ⟨RX6, "worthBetween", "(II)I"⟩
abbrev cX6_takeOff : ByteArray := prog_8_method_9_code
def yX6_takeOff : MethodName := ⟨RX6, "takeOff", "(II)I"⟩
abbrev cX6_enter : ByteArray := prog_8_method_10_code
def yX6_enter : MethodName := ⟨RX6, "enter", "(I)V"⟩
abbrev cX6_thicken : ByteArray := prog_8_method_11_code
def yX6_thicken : MethodName := ⟨RX6, "thicken", "()V"⟩
abbrev cX6_passYear : ByteArray := prog_8_method_12_code
def yX6_passYear : MethodName := ⟨RX6, "passYear", "(LOnionProbate$Case;)V"⟩
abbrev cX6_allThick : ByteArray := prog_8_method_13_code
def yX6_allThick : MethodName := ⟨RX6, "allThick", "()I"⟩
abbrev cX6_cut : ByteArray := prog_8_method_14_code
def yX6_cut : MethodName := ⟨RX6, "cut", "()I"⟩
abbrev cX6_law : ByteArray := prog_8_method_15_code
def yX6_law : MethodName := ⟨RX6, "law", "()I"⟩
abbrev cX6_layersUnder : ByteArray := prog_8_method_16_code
def yX6_layersUnder : MethodName := ⟨RX6, "layersUnder", "(II)I"⟩
abbrev cX6_rowFrom : ByteArray := prog_8_method_17_code
def yX6_rowFrom : MethodName := ⟨RX6, "rowFrom", "(I)I"⟩
abbrev cX6_startOfLongestRow : ByteArray := prog_8_method_18_code
def yX6_startOfLongestRow : MethodName := ⟨RX6, "startOfLongestRow", "()I"⟩
abbrev cX6_mostTears : ByteArray := prog_8_method_19_code
def yX6_mostTears : MethodName := ⟨RX6, "mostTears", "(I)I"⟩
abbrev cX6_dryIn : ByteArray := prog_8_method_20_code
def yX6_dryIn : MethodName := ⟨RX6, "dryIn", "(LOnionProbate$Case;)I"⟩
def RX7 : String := "OnionProbate$Reader"
def TX7 : u_T := fun k => match k with
  | 0 => ("OnionProbate$Reader", "letters", "[I", true)
  | 1 => ("OnionProbate$Reader", "typeRow", "[I", true)
  | 2 => ("OnionProbate$Reader", "length", "I", false)
  | 3 => ("OnionProbate$Reader", "at", "I", false)
  | 4 => ("OnionProbate$Reader", "faultNumber", "I", false)
  | _ => ("OnionProbate$Reader", "faultAt", "I", false)
def tyX7 : Nat → FieldType := fun k => match k with
  | 0 => .array .int
  | 1 => .array .int
  | 2 => .int
  | 3 => .int
  | 4 => .int
  | _ => .int
abbrev wsX70 : List Cond := u_ws RX7 TX7 6
theorem nmX7 : ∀ a, a < 6 → ∀ b, b < 6 → a ≠ b → (TX7 a).2.1 ≠ (TX7 b).2.1 := by decide +kernel
theorem tyX7_ok : ∀ k, k < 6 → parseFieldDescriptor (TX7 k).2.2.1 = some (tyX7 k) := by decide +kernel
abbrev cX7_init : ByteArray := prog_9_method_1_code
def yX7_init : MethodName := ⟨RX7, "<init>", "()V"⟩
abbrev cX7_add : ByteArray := prog_9_method_2_code
def yX7_add : MethodName := ⟨RX7, "add", "(I)I"⟩
abbrev cX7_readInto : ByteArray := prog_9_method_3_code
def yX7_readInto : MethodName := ⟨RX7, "readInto", "(LOnionProbate$Case;)V"⟩
abbrev cX7_readClause : ByteArray := prog_9_method_4_code
def yX7_readClause : MethodName := ⟨RX7, "readClause", "(LOnionProbate$Case;)V"⟩
abbrev cX7_readRest : ByteArray := prog_9_method_5_code
def yX7_readRest : MethodName := ⟨RX7, "readRest", "(ILOnionProbate$Case;)V"⟩
abbrev cX7_readType : ByteArray := prog_9_method_6_code
def yX7_readType : MethodName := ⟨RX7, "readType", "(LOnionProbate$Case;)V"⟩
abbrev cX7_readNumber : ByteArray := prog_9_method_7_code
def yX7_readNumber : MethodName := ⟨RX7, "readNumber", "(II)I"⟩
abbrev cX7_skipBlanks : ByteArray := prog_9_method_8_code
def yX7_skipBlanks : MethodName := ⟨RX7, "skipBlanks", "()V"⟩
abbrev cX7_here : ByteArray := prog_9_method_9_code
def yX7_here : MethodName := ⟨RX7, "here", "()I"⟩
abbrev cX7_blame : ByteArray := prog_9_method_10_code
def yX7_blame : MethodName := ⟨RX7, "blame", "(II)V"⟩
def RX8 : String := "OnionProbate$Trial"
def TX8 : u_T := fun k => match k with
  | 0 => ("OnionProbate$Trial", "row", "[I", true)
  | 1 => ("OnionProbate$Trial", "stingAbove", "[I", true)
  | 2 => ("OnionProbate$Trial", "shares", "[I", true)
  | _ => ("OnionProbate$Trial", "alike", "[I", true)
def tyX8 : Nat → FieldType := fun k => match k with
  | 0 => .array .int
  | 1 => .array .int
  | 2 => .array .int
  | _ => .array .int
abbrev wsX80 : List Cond := u_ws RX8 TX8 4
theorem nmX8 : ∀ a, a < 4 → ∀ b, b < 4 → a ≠ b → (TX8 a).2.1 ≠ (TX8 b).2.1 := by decide +kernel
theorem tyX8_ok : ∀ k, k < 4 → parseFieldDescriptor (TX8 k).2.2.1 = some (tyX8 k) := by decide +kernel
abbrev cX8_init : ByteArray := prog_10_method_1_code
def yX8_init : MethodName := ⟨RX8, "<init>", "()V"⟩
abbrev cX8_bestPeels : ByteArray := prog_10_method_2_code
def yX8_bestPeels : MethodName := ⟨RX8, "bestPeels", "(LOnionProbate$Onion;I)I"⟩
abbrev cX8_gainOf : ByteArray := prog_10_method_3_code
def yX8_gainOf : MethodName := ⟨RX8, "gainOf", "(LOnionProbate$Onion;II)I"⟩
abbrev cX8_partUp : ByteArray := prog_10_method_4_code
def yX8_partUp : MethodName := ⟨RX8, "partUp", "(LOnionProbate$Onion;I)I"⟩
abbrev cX8_firstPartEnd : ByteArray := prog_10_method_5_code
def yX8_firstPartEnd : MethodName := ⟨RX8, "firstPartEnd", "(II)I"⟩
abbrev cX8_greatestWith : ByteArray := prog_10_method_6_code
def yX8_greatestWith : MethodName := ⟨RX8, "greatestWith", "(II)I"⟩
abbrev cX8_playByTurns : ByteArray := prog_10_method_7_code
def yX8_playByTurns : MethodName := ⟨RX8, "playByTurns", "(LOnionProbate$Onion;)I"⟩
abbrev cX8_shareOut : ByteArray := prog_10_method_8_code
def yX8_shareOut : MethodName := ⟨RX8, "shareOut", "(LOnionProbate$Onion;II)I"⟩
abbrev cX8_poorest : ByteArray := prog_10_method_9_code
def yX8_poorest : MethodName := ⟨RX8, "poorest", "(I)I"⟩
abbrev cX8_bestQuestion : ByteArray := prog_10_method_10_code
def yX8_bestQuestion : MethodName := ⟨RX8, "bestQuestion", "(LOnionProbate$Case;I)I"⟩
abbrev cX8_greatestAlike : ByteArray := prog_10_method_11_code
def yX8_greatestAlike : MethodName := ⟨RX8, "greatestAlike", "(LOnionProbate$Case;II)I"⟩
def RX9 : String := "OnionProbate"
def TX9 : u_T := fun k => match k with
  | 0 => ("OnionProbate", "reader", "LOnionProbate$Reader;", true)
  | 1 => ("OnionProbate", "theCase", "LOnionProbate$Case;", false)
  | 2 => ("OnionProbate", "draft", "LOnionProbate$Case;", false)
  | 3 => ("OnionProbate", "onion", "LOnionProbate$Onion;", true)
  | 4 => ("OnionProbate", "deeds", "LOnionProbate$Deeds;", true)
  | 5 => ("OnionProbate", "images", "[LOnionProbate$Image;", true)
  | 6 => ("OnionProbate", "guesses", "LOnionProbate$Guesses;", true)
  | 7 => ("OnionProbate", "book", "LOnionProbate$Book;", true)
  | 8 => ("OnionProbate", "trial", "LOnionProbate$Trial;", true)
  | _ => ("OnionProbate", "draws", "LOnionProbate$Draws;", true)
def tyX9 : Nat → FieldType := fun k => match k with
  | 0 => .object "OnionProbate$Reader"
  | 1 => .object "OnionProbate$Case"
  | 2 => .object "OnionProbate$Case"
  | 3 => .object "OnionProbate$Onion"
  | 4 => .object "OnionProbate$Deeds"
  | 5 => .array (.object "OnionProbate$Image")
  | 6 => .object "OnionProbate$Guesses"
  | 7 => .object "OnionProbate$Book"
  | 8 => .object "OnionProbate$Trial"
  | _ => .object "OnionProbate$Draws"
abbrev wsX90 : List Cond := u_ws RX9 TX9 10
theorem nmX9 : ∀ a, a < 10 → ∀ b, b < 10 → a ≠ b → (TX9 a).2.1 ≠ (TX9 b).2.1 := by decide +kernel
theorem tyX9_ok : ∀ k, k < 10 → parseFieldDescriptor (TX9 k).2.2.1 = some (tyX9 k) := by decide +kernel
abbrev cX9_init : ByteArray := prog_1_method_1_code
def yX9_init : MethodName := ⟨RX9, "<init>", "()V"⟩
abbrev cX9_feed : ByteArray := prog_1_method_2_code
def yX9_feed : MethodName := ⟨RX9, "feed", "(I)I"⟩
abbrev cX9_probate : ByteArray := prog_1_method_3_code
def yX9_probate : MethodName := ⟨RX9, "probate", "()I"⟩
abbrev cX9_fault : ByteArray := prog_1_method_4_code
def yX9_fault : MethodName := ⟨RX9, "fault", "()I"⟩
abbrev cX9_told : ByteArray := prog_1_method_5_code
def yX9_told : MethodName := ⟨RX9, "told", "(I)I"⟩
abbrev cX9_layer : ByteArray := prog_1_method_6_code
def yX9_layer : MethodName := ⟨RX9, "layer", "(II)I"⟩
abbrev cX9_executor : ByteArray := prog_1_method_7_code
def yX9_executor : MethodName := ⟨RX9, "executor", "(II)I"⟩
abbrev cX9_type : ByteArray := prog_1_method_8_code
def yX9_type : MethodName := ⟨RX9, "type", "(II)I"⟩
abbrev cX9_logged : ByteArray := prog_1_method_9_code
def yX9_logged : MethodName := ⟨RX9, "logged", "(II)I"⟩
abbrev cX9_peel : ByteArray := prog_1_method_10_code
def yX9_peel : MethodName := ⟨RX9, "peel", "(I)I"⟩
abbrev cX9_stop : ByteArray := prog_1_method_11_code
def yX9_stop : MethodName := ⟨RX9, "stop", "(Z)I"⟩
abbrev cX9_visit : ByteArray := prog_1_method_12_code
def yX9_visit : MethodName := ⟨RX9, "visit", "()I"⟩
abbrev cX9_year : ByteArray := prog_1_method_13_code
def yX9_year : MethodName := ⟨RX9, "year", "(I)I"⟩
abbrev cX9_drift : ByteArray := prog_1_method_14_code
def yX9_drift : MethodName := ⟨RX9, "drift", "(I)I"⟩
abbrev cX9_undo : ByteArray := prog_1_method_15_code
def yX9_undo : MethodName := ⟨RX9, "undo", "(I)I"⟩
abbrev cX9_worthIt : ByteArray := prog_1_method_16_code
def yX9_worthIt : MethodName := ⟨RX9, "worthIt", "(II)I"⟩
abbrev cX9_parts : ByteArray := prog_1_method_17_code
def yX9_parts : MethodName := ⟨RX9, "parts", "(II)I"⟩
abbrev cX9_byTurns : ByteArray := prog_1_method_18_code
def yX9_byTurns : MethodName := ⟨RX9, "byTurns", "(I)I"⟩
abbrev cX9_twoSides : ByteArray := prog_1_method_19_code
def yX9_twoSides : MethodName := ⟨RX9, "twoSides", "(I)I"⟩
abbrev cX9_nextKind : ByteArray := prog_1_method_20_code
def yX9_nextKind : MethodName := ⟨RX9, "nextKind", "(I)I"⟩
abbrev cX9_allows : ByteArray := prog_1_method_21_code
def yX9_allows : MethodName := ⟨RX9, "allows", "(I)I"⟩
abbrev cX9_run : ByteArray := prog_1_method_22_code
def yX9_run : MethodName := ⟨RX9, "run", "(I)I"⟩
abbrev cX9_fair : ByteArray := prog_1_method_23_code
def yX9_fair : MethodName := ⟨RX9, "fair", "(I)I"⟩
abbrev cX9_dry : ByteArray := prog_1_method_24_code
def yX9_dry : MethodName := ⟨RX9, "dry", "(II)I"⟩
abbrev cX9_guess : ByteArray := prog_1_method_25_code
def yX9_guess : MethodName := ⟨RX9, "guess", "(IIZ)I"⟩
abbrev cX9_couldBe : ByteArray := prog_1_method_26_code
def yX9_couldBe : MethodName := ⟨RX9, "couldBe", "()I"⟩
abbrev cX9_ask : ByteArray := prog_1_method_27_code
def yX9_ask : MethodName := ⟨RX9, "ask", "()I"⟩
abbrev cX9_write : ByteArray := prog_1_method_28_code
def yX9_write : MethodName := ⟨RX9, "write", "(II)I"⟩
abbrev cX9_judge : ByteArray := prog_1_method_29_code
def yX9_judge : MethodName := ⟨RX9, "judge", "()I"⟩
abbrev cX9_tear : ByteArray := prog_1_method_30_code
def yX9_tear : MethodName := ⟨RX9, "tear", "()I"⟩
abbrev cX9_seed : ByteArray := prog_1_method_31_code
def yX9_seed : MethodName := ⟨RX9, "seed", "(I)I"⟩
abbrev cX9_keep : ByteArray := prog_1_method_32_code
def yX9_keep : MethodName := ⟨RX9, "keep", "(I)I"⟩
abbrev cX9_goBack : ByteArray := prog_1_method_33_code
def yX9_goBack : MethodName := ⟨RX9, "goBack", "(I)I"⟩
abbrev cX9_refusalOfYears : ByteArray := prog_1_method_34_code
def yX9_refusalOfYears : MethodName := ⟨RX9, "refusalOfYears", "(I)I"⟩
abbrev cX9_doByDraw : ByteArray := prog_1_method_35_code
def yX9_doByDraw : MethodName := ⟨RX9, "doByDraw", "()V"⟩
abbrev cX9_spread : ByteArray := prog_1_method_36_code
def yX9_spread : MethodName := ⟨RX9, "spread", "([II)I"⟩
abbrev cX9_pairBit : ByteArray := prog_1_method_37_code
def yX9_pairBit : MethodName := ⟨RX9, "pairBit", "(II)I"⟩
def RX10 : String := "OnionProbateModel"
def TX10 : u_T := fun k => match k with
  | 0 => ("OnionProbateModel", "isCase", "Z", false)
  | 1 => ("OnionProbateModel", "middle", "I", false)
  | 2 => ("OnionProbateModel", "executors", "I", false)
  | 3 => ("OnionProbateModel", "cared", "[I", true)
  | 4 => ("OnionProbateModel", "quick", "[I", true)
  | 5 => ("OnionProbateModel", "types", "I", false)
  | 6 => ("OnionProbateModel", "typeLong", "[I", true)
  | 7 => ("OnionProbateModel", "typeKind", "[I", true)
  | 8 => ("OnionProbateModel", "now", "[I", true)
  | 9 => ("OnionProbateModel", "seed", "I", false)
  | 10 => ("OnionProbateModel", "written", "I", false)
  | 11 => ("OnionProbateModel", "bookOf", "[I", true)
  | 12 => ("OnionProbateModel", "bookGot", "[I", true)
  | 13 => ("OnionProbateModel", "guessed", "I", false)
  | 14 => ("OnionProbateModel", "guessAt", "[I", true)
  | 15 => ("OnionProbateModel", "guessKind", "[I", true)
  | 16 => ("OnionProbateModel", "guessIs", "[I", true)
  | 17 => ("OnionProbateModel", "text", "[I", true)
  | 18 => ("OnionProbateModel", "texted", "I", false)
  | 19 => ("OnionProbateModel", "faultPlace", "I", false)
  | 20 => ("OnionProbateModel", "at0", "I", false)
  | 21 => ("OnionProbateModel", "number", "I", false)
  | 22 => ("OnionProbateModel", "numberAt", "I", false)
  | 23 => ("OnionProbateModel", "readMiddle", "I", false)
  | 24 => ("OnionProbateModel", "readLayers", "I", false)
  | 25 => ("OnionProbateModel", "readKind", "[I", true)
  | 26 => ("OnionProbateModel", "readThick", "[I", true)
  | 27 => ("OnionProbateModel", "readExecutors", "I", false)
  | 28 => ("OnionProbateModel", "readCared", "[I", true)
  | 29 => ("OnionProbateModel", "readQuick", "[I", true)
  | 30 => ("OnionProbateModel", "readTypes", "I", false)
  | 31 => ("OnionProbateModel", "readLong", "[I", true)
  | 32 => ("OnionProbateModel", "readTypeKind", "[I", true)
  | 33 => ("OnionProbateModel", "undos", "I", false)
  | 34 => ("OnionProbateModel", "past", "[I", true)
  | 35 => ("OnionProbateModel", "least", "[I", true)
  | 36 => ("OnionProbateModel", "more", "[I", true)
  | 37 => ("OnionProbateModel", "would", "[I", true)
  | 38 => ("OnionProbateModel", "images", "[I", true)
  | _ => ("OnionProbateModel", "isKept", "[Z", true)
def tyX10 : Nat → FieldType := fun k => match k with
  | 0 => .boolean
  | 1 => .int
  | 2 => .int
  | 3 => .array .int
  | 4 => .array .int
  | 5 => .int
  | 6 => .array .int
  | 7 => .array .int
  | 8 => .array .int
  | 9 => .int
  | 10 => .int
  | 11 => .array .int
  | 12 => .array .int
  | 13 => .int
  | 14 => .array .int
  | 15 => .array .int
  | 16 => .array .int
  | 17 => .array .int
  | 18 => .int
  | 19 => .int
  | 20 => .int
  | 21 => .int
  | 22 => .int
  | 23 => .int
  | 24 => .int
  | 25 => .array .int
  | 26 => .array .int
  | 27 => .int
  | 28 => .array .int
  | 29 => .array .int
  | 30 => .int
  | 31 => .array .int
  | 32 => .array .int
  | 33 => .int
  | 34 => .array .int
  | 35 => .array .int
  | 36 => .array .int
  | 37 => .array .int
  | 38 => .array .int
  | _ => .array .boolean
abbrev wsX100 : List Cond := u_ws RX10 TX10 40
theorem nmX10 : ∀ a, a < 40 → ∀ b, b < 40 → a ≠ b → (TX10 a).2.1 ≠ (TX10 b).2.1 := by decide +kernel
theorem tyX10_ok : ∀ k, k < 40 → parseFieldDescriptor (TX10 k).2.2.1 = some (tyX10 k) := by decide +kernel
abbrev cX10_init : ByteArray := prog_12_method_1_code
def yX10_init : MethodName := ⟨RX10, "<init>", "()V"⟩
abbrev cX10_in : ByteArray := prog_12_method_3_code
def yX10_in : MethodName := ⟨RX10, "in", "(JJJ)Z"⟩
abbrev cX10_has : ByteArray := prog_12_method_4_code
def yX10_has : MethodName := ⟨RX10, "has", "(II)Z"⟩
abbrev cX10_isLayer : ByteArray := prog_12_method_5_code
def yX10_isLayer : MethodName := ⟨RX10, "isLayer", "(I)Z"⟩
abbrev cX10_isExecutor : ByteArray := prog_12_method_6_code
def yX10_isExecutor : MethodName := ⟨RX10, "isExecutor", "(I)Z"⟩
abbrev cX10_empties : ByteArray := prog_12_method_7_code
def yX10_empties : MethodName := ⟨RX10, "empties", "()V"⟩
abbrev cX10_feed : ByteArray := prog_12_method_8_code
def yX10_feed : MethodName := ⟨RX10, "feed", "(I)I"⟩
abbrev cX10_here : ByteArray := prog_12_method_9_code
def yX10_here : MethodName := ⟨RX10, "here", "()I"⟩
abbrev cX10_fails : ByteArray := prog_12_method_10_code
def yX10_fails : MethodName := ⟨RX10, "fails", "(II)I"⟩
abbrev cX10_takeNumber : ByteArray := prog_12_method_11_code
def yX10_takeNumber : MethodName := ⟨RX10, "takeNumber", "(II)I"⟩
abbrev cX10_takeMiddle : ByteArray := prog_12_method_12_code
def yX10_takeMiddle : MethodName := ⟨RX10, "takeMiddle", "()I"⟩
abbrev cX10_takeLayer : ByteArray := prog_12_method_13_code
def yX10_takeLayer : MethodName := ⟨RX10, "takeLayer", "()I"⟩
abbrev cX10_takeExecutor : ByteArray := prog_12_method_14_code
def yX10_takeExecutor : MethodName := ⟨RX10, "takeExecutor", "()I"⟩
abbrev cX10_takeType : ByteArray := prog_12_method_15_code
def yX10_takeType : MethodName := ⟨RX10, "takeType", "()I"⟩
abbrev cX10_isFull : ByteArray := prog_12_method_16_code
def yX10_isFull : MethodName := ⟨RX10, "isFull", "(I)Z"⟩
abbrev cX10_takeBody : ByteArray := prog_12_method_17_code
def yX10_takeBody : MethodName := ⟨RX10, "takeBody", "(I)I"⟩
abbrev cX10_takeClause : ByteArray := prog_12_method_18_code
def yX10_takeClause : MethodName := ⟨RX10, "takeClause", "()I"⟩
abbrev cX10_takeRead : ByteArray := prog_12_method_19_code
def yX10_takeRead : MethodName := ⟨RX10, "takeRead", "()V"⟩
abbrev cX10_probate : ByteArray := prog_12_method_20_code
def yX10_probate : MethodName := ⟨RX10, "probate", "()I"⟩
abbrev cX10_fault : ByteArray := prog_12_method_21_code
def yX10_fault : MethodName := ⟨RX10, "fault", "()I"⟩
abbrev cX10_worthBy : ByteArray := prog_12_method_22_code
def yX10_worthBy : MethodName := ⟨RX10, "worthBy", "(II)I"⟩
abbrev cX10_stingBy : ByteArray := prog_12_method_23_code
def yX10_stingBy : MethodName := ⟨RX10, "stingBy", "(II)I"⟩
abbrev cX10_worthOf : ByteArray := prog_12_method_24_code
def yX10_worthOf : MethodName := ⟨RX10, "worthOf", "(I)I"⟩
abbrev cX10_stingOf : ByteArray := prog_12_method_25_code
def yX10_stingOf : MethodName := ⟨RX10, "stingOf", "(I)I"⟩
abbrev cX10_allThick : ByteArray := prog_12_method_26_code
def yX10_allThick : MethodName := ⟨RX10, "allThick", "()I"⟩
abbrev cX10_cut : ByteArray := prog_12_method_27_code
def yX10_cut : MethodName := ⟨RX10, "cut", "()I"⟩
abbrev cX10_canBe : ByteArray := prog_12_method_28_code
def yX10_canBe : MethodName := ⟨RX10, "canBe", "(I)Z"⟩
abbrev cX10_canBeOnes : ByteArray := prog_12_method_29_code
def yX10_canBeOnes : MethodName := ⟨RX10, "canBeOnes", "()I"⟩
abbrev cX10_nextOf : ByteArray := prog_12_method_30_code
def yX10_nextOf : MethodName := ⟨RX10, "nextOf", "(I)I"⟩
abbrev cX10_sure : ByteArray := prog_12_method_31_code
def yX10_sure : MethodName := ⟨RX10, "sure", "()I"⟩
abbrev cX10_law : ByteArray := prog_12_method_32_code
def yX10_law : MethodName := ⟨RX10, "law", "()I"⟩
abbrev cX10_envyBy : ByteArray := prog_12_method_33_code
def yX10_envyBy : MethodName := ⟨RX10, "envyBy", "([II)I"⟩
abbrev cX10_weeps : ByteArray := prog_12_method_34_code
def yX10_weeps : MethodName := ⟨RX10, "weeps", "()I"⟩
abbrev cX10_dryIn : ByteArray := prog_12_method_35_code
def yX10_dryIn : MethodName := ⟨RX10, "dryIn", "()I"⟩
abbrev cX10_told : ByteArray := prog_12_method_36_code
def yX10_told : MethodName := ⟨RX10, "told", "(I)I"⟩
abbrev cX10_layer : ByteArray := prog_12_method_37_code
def yX10_layer : MethodName := ⟨RX10, "layer", "(II)I"⟩
abbrev cX10_executor : ByteArray := prog_12_method_38_code
def yX10_executor : MethodName := ⟨RX10, "executor", "(II)I"⟩
abbrev cX10_type : ByteArray := prog_12_method_39_code
def yX10_type : MethodName := ⟨RX10, "type", "(II)I"⟩
abbrev cX10_logged : ByteArray := prog_12_method_40_code
def yX10_logged : MethodName := ⟨RX10, "logged", "(II)I"⟩
abbrev cX10_remember : ByteArray := prog_12_method_41_code
def yX10_remember : MethodName := ⟨RX10, "remember", "()V"⟩
abbrev cX10_enters : ByteArray := prog_12_method_42_code
def yX10_enters : MethodName := ⟨RX10, "enters", "(III)V"⟩
abbrev cX10_capped : ByteArray := prog_12_method_43_code
def yX10_capped : MethodName := ⟨RX10, "capped", "(I)I"⟩
abbrev cX10_peels : ByteArray := prog_12_method_44_code
def yX10_peels : MethodName := ⟨RX10, "peels", "(I)I"⟩
abbrev cX10_grows : ByteArray := prog_12_method_45_code
def yX10_grows : MethodName := ⟨RX10, "grows", "()V"⟩
abbrev cX10_passes : ByteArray := prog_12_method_46_code
def yX10_passes : MethodName := ⟨RX10, "passes", "()V"⟩
abbrev cX10_canPeel : ByteArray := prog_12_method_47_code
def yX10_canPeel : MethodName := ⟨RX10, "canPeel", "()Z"⟩
abbrev cX10_peel : ByteArray := prog_12_method_48_code
def yX10_peel : MethodName := ⟨RX10, "peel", "(I)I"⟩
abbrev cX10_stop : ByteArray := prog_12_method_49_code
def yX10_stop : MethodName := ⟨RX10, "stop", "(Z)I"⟩
abbrev cX10_visit : ByteArray := prog_12_method_50_code
def yX10_visit : MethodName := ⟨RX10, "visit", "()I"⟩
abbrev cX10_yearsRefused : ByteArray := prog_12_method_51_code
def yX10_yearsRefused : MethodName := ⟨RX10, "yearsRefused", "(I)I"⟩
abbrev cX10_year : ByteArray := prog_12_method_52_code
def yX10_year : MethodName := ⟨RX10, "year", "(I)I"⟩
abbrev cX10_draw : ByteArray := prog_12_method_53_code
def yX10_draw : MethodName := ⟨RX10, "draw", "(I)I"⟩
abbrev cX10_chance : ByteArray := prog_12_method_54_code
def yX10_chance : MethodName := ⟨RX10, "chance", "()V"⟩
abbrev cX10_drift : ByteArray := prog_12_method_55_code
def yX10_drift : MethodName := ⟨RX10, "drift", "(I)I"⟩
abbrev cX10_undo : ByteArray := prog_12_method_56_code
def yX10_undo : MethodName := ⟨RX10, "undo", "(I)I"⟩
abbrev cX10_worthIt : ByteArray := prog_12_method_57_code
def yX10_worthIt : MethodName := ⟨RX10, "worthIt", "(II)I"⟩
abbrev cX10_stingFrom : ByteArray := prog_12_method_58_code
def yX10_stingFrom : MethodName := ⟨RX10, "stingFrom", "(II)I"⟩
abbrev cX10_parts : ByteArray := prog_12_method_59_code
def yX10_parts : MethodName := ⟨RX10, "parts", "(II)I"⟩
abbrev cX10_byTurns : ByteArray := prog_12_method_60_code
def yX10_byTurns : MethodName := ⟨RX10, "byTurns", "(I)I"⟩
abbrev cX10_twoSides : ByteArray := prog_12_method_61_code
def yX10_twoSides : MethodName := ⟨RX10, "twoSides", "(I)I"⟩
abbrev cX10_nextKind : ByteArray := prog_12_method_62_code
def yX10_nextKind : MethodName := ⟨RX10, "nextKind", "(I)I"⟩
abbrev cX10_isPair : ByteArray := prog_12_method_63_code
def yX10_isPair : MethodName := ⟨RX10, "isPair", "(II)Z"⟩
abbrev cX10_allows : ByteArray := prog_12_method_64_code
def yX10_allows : MethodName := ⟨RX10, "allows", "(I)I"⟩
abbrev cX10_run : ByteArray := prog_12_method_65_code
def yX10_run : MethodName := ⟨RX10, "run", "(I)I"⟩
abbrev cX10_fair : ByteArray := prog_12_method_66_code
def yX10_fair : MethodName := ⟨RX10, "fair", "(I)I"⟩
abbrev cX10_dry : ByteArray := prog_12_method_67_code
def yX10_dry : MethodName := ⟨RX10, "dry", "(II)I"⟩
abbrev cX10_guess : ByteArray := prog_12_method_68_code
def yX10_guess : MethodName := ⟨RX10, "guess", "(IIZ)I"⟩
abbrev cX10_kindIn : ByteArray := prog_12_method_69_code
def yX10_kindIn : MethodName := ⟨RX10, "kindIn", "(II)I"⟩
abbrev cX10_couldBeOne : ByteArray := prog_12_method_70_code
def yX10_couldBeOne : MethodName := ⟨RX10, "couldBeOne", "(I)Z"⟩
abbrev cX10_couldBe : ByteArray := prog_12_method_71_code
def yX10_couldBe : MethodName := ⟨RX10, "couldBe", "()I"⟩
abbrev cX10_ask : ByteArray := prog_12_method_72_code
def yX10_ask : MethodName := ⟨RX10, "ask", "()I"⟩
abbrev cX10_write : ByteArray := prog_12_method_73_code
def yX10_write : MethodName := ⟨RX10, "write", "(II)I"⟩
abbrev cX10_judge : ByteArray := prog_12_method_74_code
def yX10_judge : MethodName := ⟨RX10, "judge", "()I"⟩
abbrev cX10_tear : ByteArray := prog_12_method_75_code
def yX10_tear : MethodName := ⟨RX10, "tear", "()I"⟩
abbrev cX10_seed : ByteArray := prog_12_method_76_code
def yX10_seed : MethodName := ⟨RX10, "seed", "(I)I"⟩
abbrev cX10_keep : ByteArray := prog_12_method_77_code
def yX10_keep : MethodName := ⟨RX10, "keep", "(I)I"⟩
abbrev cX10_goBack : ByteArray := prog_12_method_78_code
def yX10_goBack : MethodName := ⟨RX10, "goBack", "(I)I"⟩
def RJ6 : String := "java/lang/Integer"
def TJ6 : u_T := fun k => match k with
  | _ => ("", "", "", false)
def tyJ6 : Nat → FieldType := fun k => match k with
  | _ => .int
abbrev wsJ60 : List Cond := u_ws RJ6 TJ6 0
theorem nmJ6 : ∀ a, a < 0 → ∀ b, b < 0 → a ≠ b → (TJ6 a).2.1 ≠ (TJ6 b).2.1 := by decide +kernel
theorem tyJ6_ok : ∀ k, k < 0 → parseFieldDescriptor (TJ6 k).2.2.1 = some (tyJ6 k) := by decide +kernel
abbrev cJ6_bitCount_0f7a4 : ByteArray := prog_13_method_49_code
def yJ6_bitCount_0f7a4 : MethodName := ⟨RJ6, "bitCount", "(I)I"⟩
def RJ9 : String := "java/lang/Math"
def TJ9 : u_T := fun k => match k with
  | _ => ("", "", "", false)
def tyJ9 : Nat → FieldType := fun k => match k with
  | _ => .int
abbrev wsJ90 : List Cond := u_ws RJ9 TJ9 0
theorem nmJ9 : ∀ a, a < 0 → ∀ b, b < 0 → a ≠ b → (TJ9 a).2.1 ≠ (TJ9 b).2.1 := by decide +kernel
theorem tyJ9_ok : ∀ k, k < 0 → parseFieldDescriptor (TJ9 k).2.2.1 = some (tyJ9 k) := by decide +kernel
abbrev cJ9_max_7cf53 : ByteArray := prog_14_method_65_code
def yJ9_max_7cf53 : MethodName := ⟨RJ9, "max", "(II)I"⟩
abbrev cJ9_min_7cf53 : ByteArray := prog_14_method_69_code
def yJ9_min_7cf53 : MethodName := ⟨RJ9, "min", "(II)I"⟩
def RJ10 : String := "java/lang/System"
def TJ10 : u_T := fun k => match k with
  | _ => ("", "", "", false)
def tyJ10 : Nat → FieldType := fun k => match k with
  | _ => .int
abbrev wsJ100 : List Cond := u_ws RJ10 TJ10 0
theorem nmJ10 : ∀ a, a < 0 → ∀ b, b < 0 → a ≠ b → (TJ10 a).2.1 ≠ (TJ10 b).2.1 := by decide +kernel
theorem tyJ10_ok : ∀ k, k < 0 → parseFieldDescriptor (TJ10 k).2.2.1 = some (tyJ10 k) := by decide +kernel
def RL : String := "OnionProbateLaw"
abbrev cL_law : ByteArray := code
def yL_law : MethodName := ⟨RL, "law", "([I)Z"⟩
abbrev vwCl : List vw_C := [(RX0, TX0, 3), (RX1, TX1, 11), (RX2, TX2, 3), (RX3, TX3, 1), (RX4, TX4, 4), (RX5, TX5, 3), (RX6, TX6, 12), (RX7, TX7, 6), (RX8, TX8, 4), (RX9, TX9, 10), (RX10, TX10, 40)]
end
section
theorem dX0_init_0 : decode cX0_init 0 = .ok (.aload_n 0, 1) := by decide +kernel
theorem dX0_init_1 : decode cX0_init 1 = .ok (.invokespecial 3, 3) := by decide +kernel
theorem dX0_init_4 : decode cX0_init 4 = .ok (.aload_n 0, 1) := by decide +kernel
theorem dX0_init_5 : decode cX0_init 5 = .ok (.bipush 20, 2) := by decide +kernel
theorem dX0_init_7 : decode cX0_init 7 = .ok (.newarray .int, 2) := by decide +kernel
theorem dX0_init_9 : decode cX0_init 9 = .ok (.putfield 9, 3) := by decide +kernel
theorem dX0_init_12 : decode cX0_init 12 = .ok (.aload_n 0, 1) := by decide +kernel
theorem dX0_init_13 : decode cX0_init 13 = .ok (.bipush 20, 2) := by decide +kernel
theorem dX0_init_15 : decode cX0_init 15 = .ok (.newarray .int, 2) := by decide +kernel
theorem dX0_init_17 : decode cX0_init 17 = .ok (.putfield 15, 3) := by decide +kernel
theorem dX0_init_20 : decode cX0_init 20 = .ok (.aload_n 0, 1) := by decide +kernel
theorem dX0_init_21 : decode cX0_init 21 = .ok (.iconst 0, 1) := by decide +kernel
theorem dX0_init_22 : decode cX0_init 22 = .ok (.putfield 18, 3) := by decide +kernel
theorem dX0_init_25 : decode cX0_init 25 = .ok (.return_, 1) := by decide +kernel
theorem dX0_add_0 : decode cX0_add 0 = .ok (.aload_n 0, 1) := by decide +kernel
theorem dX0_add_1 : decode cX0_add 1 = .ok (.getfield 18, 3) := by decide +kernel
theorem dX0_add_4 : decode cX0_add 4 = .ok (.bipush 20, 2) := by decide +kernel
theorem dX0_add_6 : decode cX0_add 6 = .ok (.if_icmp .lt 6, 3) := by decide +kernel
theorem dX0_add_9 : decode cX0_add 9 = .ok (.ldc 22, 2) := by decide +kernel
theorem dX0_add_11 : decode cX0_add 11 = .ok (.ireturn, 1) := by decide +kernel
theorem dX0_add_12 : decode cX0_add 12 = .ok (.aload_n 0, 1) := by decide +kernel
theorem dX0_add_13 : decode cX0_add 13 = .ok (.getfield 9, 3) := by decide +kernel
theorem dX0_add_16 : decode cX0_add 16 = .ok (.aload_n 0, 1) := by decide +kernel
theorem dX0_add_17 : decode cX0_add 17 = .ok (.getfield 18, 3) := by decide +kernel
theorem dX0_add_20 : decode cX0_add 20 = .ok (.iload_n 1, 1) := by decide +kernel
theorem dX0_add_21 : decode cX0_add 21 = .ok (.iastore, 1) := by decide +kernel
theorem dX0_add_22 : decode cX0_add 22 = .ok (.aload_n 0, 1) := by decide +kernel
theorem dX0_add_23 : decode cX0_add 23 = .ok (.getfield 15, 3) := by decide +kernel
theorem dX0_add_26 : decode cX0_add 26 = .ok (.aload_n 0, 1) := by decide +kernel
theorem dX0_add_27 : decode cX0_add 27 = .ok (.getfield 18, 3) := by decide +kernel
theorem dX0_add_30 : decode cX0_add 30 = .ok (.iload_n 2, 1) := by decide +kernel
theorem dX0_add_31 : decode cX0_add 31 = .ok (.iastore, 1) := by decide +kernel
theorem dX0_add_32 : decode cX0_add 32 = .ok (.aload_n 0, 1) := by decide +kernel
theorem dX0_add_33 : decode cX0_add 33 = .ok (.dup, 1) := by decide +kernel
theorem dX0_add_34 : decode cX0_add 34 = .ok (.getfield 18, 3) := by decide +kernel
theorem dX0_add_37 : decode cX0_add 37 = .ok (.iconst 1, 1) := by decide +kernel
theorem dX0_add_38 : decode cX0_add 38 = .ok (.iadd, 1) := by decide +kernel
theorem dX0_add_39 : decode cX0_add 39 = .ok (.putfield 18, 3) := by decide +kernel
theorem dX0_add_42 : decode cX0_add 42 = .ok (.aload_n 0, 1) := by decide +kernel
theorem dX0_add_43 : decode cX0_add 43 = .ok (.getfield 18, 3) := by decide +kernel
theorem dX0_add_46 : decode cX0_add 46 = .ok (.ireturn, 1) := by decide +kernel
theorem dX0_firstWrong_0 : decode cX0_firstWrong 0 = .ok (.iconst 0, 1) := by decide +kernel
theorem dX0_firstWrong_1 : decode cX0_firstWrong 1 = .ok (.istore_n 2, 1) := by decide +kernel
theorem dX0_firstWrong_2 : decode cX0_firstWrong 2 = .ok (.iload_n 2, 1) := by decide +kernel
theorem dX0_firstWrong_3 : decode cX0_firstWrong 3 = .ok (.aload_n 0, 1) := by decide +kernel
theorem dX0_firstWrong_4 : decode cX0_firstWrong 4 = .ok (.getfield 18, 3) := by decide +kernel
theorem dX0_firstWrong_7 : decode cX0_firstWrong 7 = .ok (.if_icmp .ge 42, 3) := by decide +kernel
theorem dX0_firstWrong_10 : decode cX0_firstWrong 10 = .ok (.aload_n 0, 1) := by decide +kernel
theorem dX0_firstWrong_11 : decode cX0_firstWrong 11 = .ok (.getfield 9, 3) := by decide +kernel
theorem dX0_firstWrong_14 : decode cX0_firstWrong 14 = .ok (.iload_n 2, 1) := by decide +kernel
theorem dX0_firstWrong_15 : decode cX0_firstWrong 15 = .ok (.iaload, 1) := by decide +kernel
theorem dX0_firstWrong_16 : decode cX0_firstWrong 16 = .ok (.istore_n 3, 1) := by decide +kernel
theorem dX0_firstWrong_17 : decode cX0_firstWrong 17 = .ok (.iload_n 3, 1) := by decide +kernel
theorem dX0_firstWrong_18 : decode cX0_firstWrong 18 = .ok (.ifCond .lt 25, 3) := by decide +kernel
theorem dX0_firstWrong_21 : decode cX0_firstWrong 21 = .ok (.iload_n 3, 1) := by decide +kernel
theorem dX0_firstWrong_22 : decode cX0_firstWrong 22 = .ok (.iconst 5, 1) := by decide +kernel
theorem dX0_firstWrong_23 : decode cX0_firstWrong 23 = .ok (.if_icmp .ge 20, 3) := by decide +kernel
theorem dX0_firstWrong_26 : decode cX0_firstWrong 26 = .ok (.aload_n 1, 1) := by decide +kernel
theorem dX0_firstWrong_27 : decode cX0_firstWrong 27 = .ok (.getfield 23, 3) := by decide +kernel
theorem dX0_firstWrong_30 : decode cX0_firstWrong 30 = .ok (.iload_n 3, 1) := by decide +kernel
theorem dX0_firstWrong_31 : decode cX0_firstWrong 31 = .ok (.iaload, 1) := by decide +kernel
theorem dX0_firstWrong_32 : decode cX0_firstWrong 32 = .ok (.aload_n 0, 1) := by decide +kernel
theorem dX0_firstWrong_33 : decode cX0_firstWrong 33 = .ok (.getfield 15, 3) := by decide +kernel
theorem dX0_firstWrong_36 : decode cX0_firstWrong 36 = .ok (.iload_n 2, 1) := by decide +kernel
theorem dX0_firstWrong_37 : decode cX0_firstWrong 37 = .ok (.iaload, 1) := by decide +kernel
theorem dX0_firstWrong_38 : decode cX0_firstWrong 38 = .ok (.if_icmp .eq 5, 3) := by decide +kernel
theorem dX0_firstWrong_41 : decode cX0_firstWrong 41 = .ok (.iload_n 2, 1) := by decide +kernel
theorem dX0_firstWrong_42 : decode cX0_firstWrong 42 = .ok (.ireturn, 1) := by decide +kernel
theorem dX0_firstWrong_43 : decode cX0_firstWrong 43 = .ok (.iinc 2 1, 3) := by decide +kernel
theorem dX0_firstWrong_46 : decode cX0_firstWrong 46 = .ok (.goto (-44), 3) := by decide +kernel
theorem dX0_firstWrong_49 : decode cX0_firstWrong 49 = .ok (.iconst (-1), 1) := by decide +kernel
theorem dX0_firstWrong_50 : decode cX0_firstWrong 50 = .ok (.ireturn, 1) := by decide +kernel
theorem dX1_init_0 : decode cX1_init 0 = .ok (.aload_n 0, 1) := by decide +kernel
theorem dX1_init_1 : decode cX1_init 1 = .ok (.invokespecial 3, 3) := by decide +kernel
theorem dX1_init_4 : decode cX1_init 4 = .ok (.aload_n 0, 1) := by decide +kernel
theorem dX1_init_5 : decode cX1_init 5 = .ok (.iconst 0, 1) := by decide +kernel
theorem dX1_init_6 : decode cX1_init 6 = .ok (.putfield 9, 3) := by decide +kernel
theorem dX1_init_9 : decode cX1_init 9 = .ok (.aload_n 0, 1) := by decide +kernel
theorem dX1_init_10 : decode cX1_init 10 = .ok (.iconst (-1), 1) := by decide +kernel
theorem dX1_init_11 : decode cX1_init 11 = .ok (.putfield 15, 3) := by decide +kernel
theorem dX1_init_14 : decode cX1_init 14 = .ok (.aload_n 0, 1) := by decide +kernel
theorem dX1_init_15 : decode cX1_init 15 = .ok (.iconst 0, 1) := by decide +kernel
theorem dX1_init_16 : decode cX1_init 16 = .ok (.putfield 19, 3) := by decide +kernel
theorem dX1_init_19 : decode cX1_init 19 = .ok (.aload_n 0, 1) := by decide +kernel
theorem dX1_init_20 : decode cX1_init 20 = .ok (.iconst 0, 1) := by decide +kernel
theorem dX1_init_21 : decode cX1_init 21 = .ok (.putfield 22, 3) := by decide +kernel
theorem dX1_init_24 : decode cX1_init 24 = .ok (.aload_n 0, 1) := by decide +kernel
theorem dX1_init_25 : decode cX1_init 25 = .ok (.iconst 0, 1) := by decide +kernel
theorem dX1_init_26 : decode cX1_init 26 = .ok (.putfield 25, 3) := by decide +kernel
theorem dX1_init_29 : decode cX1_init 29 = .ok (.aload_n 0, 1) := by decide +kernel
theorem dX1_init_30 : decode cX1_init 30 = .ok (.bipush 12, 2) := by decide +kernel
theorem dX1_init_32 : decode cX1_init 32 = .ok (.newarray .int, 2) := by decide +kernel
theorem dX1_init_34 : decode cX1_init 34 = .ok (.putfield 28, 3) := by decide +kernel
theorem dX1_init_37 : decode cX1_init 37 = .ok (.aload_n 0, 1) := by decide +kernel
theorem dX1_init_38 : decode cX1_init 38 = .ok (.bipush 12, 2) := by decide +kernel
theorem dX1_init_40 : decode cX1_init 40 = .ok (.newarray .int, 2) := by decide +kernel
theorem dX1_init_42 : decode cX1_init 42 = .ok (.putfield 32, 3) := by decide +kernel
theorem dX1_init_45 : decode cX1_init 45 = .ok (.aload_n 0, 1) := by decide +kernel
theorem dX1_init_46 : decode cX1_init 46 = .ok (.iconst 5, 1) := by decide +kernel
theorem dX1_init_47 : decode cX1_init 47 = .ok (.newarray .int, 2) := by decide +kernel
theorem dX1_init_49 : decode cX1_init 49 = .ok (.putfield 35, 3) := by decide +kernel
theorem dX1_init_52 : decode cX1_init 52 = .ok (.aload_n 0, 1) := by decide +kernel
theorem dX1_init_53 : decode cX1_init 53 = .ok (.iconst 5, 1) := by decide +kernel
theorem dX1_init_54 : decode cX1_init 54 = .ok (.newarray .int, 2) := by decide +kernel
theorem dX1_init_56 : decode cX1_init 56 = .ok (.putfield 38, 3) := by decide +kernel
theorem dX1_init_59 : decode cX1_init 59 = .ok (.aload_n 0, 1) := by decide +kernel
theorem dX1_init_60 : decode cX1_init 60 = .ok (.bipush 6, 2) := by decide +kernel
theorem dX1_init_62 : decode cX1_init 62 = .ok (.newarray .int, 2) := by decide +kernel
theorem dX1_init_64 : decode cX1_init 64 = .ok (.putfield 41, 3) := by decide +kernel
theorem dX1_init_67 : decode cX1_init 67 = .ok (.aload_n 0, 1) := by decide +kernel
theorem dX1_init_68 : decode cX1_init 68 = .ok (.bipush 6, 2) := by decide +kernel
theorem dX1_init_70 : decode cX1_init 70 = .ok (.bipush 8, 2) := by decide +kernel
theorem dX1_init_72 : decode cX1_init 72 = .ok (.multianewarray 44 2, 4) := by decide +kernel
theorem dX1_init_76 : decode cX1_init 76 = .ok (.putfield 46, 3) := by decide +kernel
theorem dX1_init_79 : decode cX1_init 79 = .ok (.return_, 1) := by decide +kernel
theorem dX1_clear_0 : decode cX1_clear 0 = .ok (.aload_n 0, 1) := by decide +kernel
theorem dX1_clear_1 : decode cX1_clear 1 = .ok (.iconst 0, 1) := by decide +kernel
theorem dX1_clear_2 : decode cX1_clear 2 = .ok (.putfield 9, 3) := by decide +kernel
theorem dX1_clear_5 : decode cX1_clear 5 = .ok (.aload_n 0, 1) := by decide +kernel
theorem dX1_clear_6 : decode cX1_clear 6 = .ok (.iconst (-1), 1) := by decide +kernel
theorem dX1_clear_7 : decode cX1_clear 7 = .ok (.putfield 15, 3) := by decide +kernel
theorem dX1_clear_10 : decode cX1_clear 10 = .ok (.aload_n 0, 1) := by decide +kernel
theorem dX1_clear_11 : decode cX1_clear 11 = .ok (.iconst 0, 1) := by decide +kernel
theorem dX1_clear_12 : decode cX1_clear 12 = .ok (.putfield 19, 3) := by decide +kernel
theorem dX1_clear_15 : decode cX1_clear 15 = .ok (.aload_n 0, 1) := by decide +kernel
theorem dX1_clear_16 : decode cX1_clear 16 = .ok (.iconst 0, 1) := by decide +kernel
theorem dX1_clear_17 : decode cX1_clear 17 = .ok (.putfield 22, 3) := by decide +kernel
theorem dX1_clear_20 : decode cX1_clear 20 = .ok (.aload_n 0, 1) := by decide +kernel
theorem dX1_clear_21 : decode cX1_clear 21 = .ok (.iconst 0, 1) := by decide +kernel
theorem dX1_clear_22 : decode cX1_clear 22 = .ok (.putfield 25, 3) := by decide +kernel
theorem dX1_clear_25 : decode cX1_clear 25 = .ok (.return_, 1) := by decide +kernel
theorem dX1_hasExecutor_0 : decode cX1_hasExecutor 0 = .ok (.iload_n 1, 1) := by decide +kernel
theorem dX1_hasExecutor_1 : decode cX1_hasExecutor 1 = .ok (.ifCond .lt 15, 3) := by decide +kernel
theorem dX1_hasExecutor_4 : decode cX1_hasExecutor 4 = .ok (.iload_n 1, 1) := by decide +kernel
theorem dX1_hasExecutor_5 : decode cX1_hasExecutor 5 = .ok (.aload_n 0, 1) := by decide +kernel
theorem dX1_hasExecutor_6 : decode cX1_hasExecutor 6 = .ok (.getfield 22, 3) := by decide +kernel
theorem dX1_hasExecutor_9 : decode cX1_hasExecutor 9 = .ok (.if_icmp .ge 7, 3) := by decide +kernel
theorem dX1_hasExecutor_12 : decode cX1_hasExecutor 12 = .ok (.iconst 1, 1) := by decide +kernel
theorem dX1_hasExecutor_13 : decode cX1_hasExecutor 13 = .ok (.goto 4, 3) := by decide +kernel
theorem dX1_hasExecutor_16 : decode cX1_hasExecutor 16 = .ok (.iconst 0, 1) := by decide +kernel
theorem dX1_hasExecutor_17 : decode cX1_hasExecutor 17 = .ok (.ireturn, 1) := by decide +kernel
theorem dX1_isFullOf_0 : decode cX1_isFullOf 0 = .ok (.iload_n 1, 1) := by decide +kernel
theorem dX1_isFullOf_1 : decode cX1_isFullOf 1 = .ok (.lookupswitch 78 #[(101, 64), (108, 49), (109, 35)], 35) := by decide +kernel
theorem dX1_isFullOf_36 : decode cX1_isFullOf 36 = .ok (.aload_n 0, 1) := by decide +kernel
theorem dX1_isFullOf_37 : decode cX1_isFullOf 37 = .ok (.getfield 15, 3) := by decide +kernel
theorem dX1_isFullOf_40 : decode cX1_isFullOf 40 = .ok (.iconst (-1), 1) := by decide +kernel
theorem dX1_isFullOf_41 : decode cX1_isFullOf 41 = .ok (.if_icmp .eq 7, 3) := by decide +kernel
theorem dX1_isFullOf_44 : decode cX1_isFullOf 44 = .ok (.iconst 1, 1) := by decide +kernel
theorem dX1_isFullOf_45 : decode cX1_isFullOf 45 = .ok (.goto 4, 3) := by decide +kernel
theorem dX1_isFullOf_48 : decode cX1_isFullOf 48 = .ok (.iconst 0, 1) := by decide +kernel
theorem dX1_isFullOf_49 : decode cX1_isFullOf 49 = .ok (.ireturn, 1) := by decide +kernel
theorem dX1_isFullOf_50 : decode cX1_isFullOf 50 = .ok (.aload_n 0, 1) := by decide +kernel
theorem dX1_isFullOf_51 : decode cX1_isFullOf 51 = .ok (.getfield 19, 3) := by decide +kernel
theorem dX1_isFullOf_54 : decode cX1_isFullOf 54 = .ok (.bipush 12, 2) := by decide +kernel
theorem dX1_isFullOf_56 : decode cX1_isFullOf 56 = .ok (.if_icmp .lt 7, 3) := by decide +kernel
theorem dX1_isFullOf_59 : decode cX1_isFullOf 59 = .ok (.iconst 1, 1) := by decide +kernel
theorem dX1_isFullOf_60 : decode cX1_isFullOf 60 = .ok (.goto 4, 3) := by decide +kernel
theorem dX1_isFullOf_63 : decode cX1_isFullOf 63 = .ok (.iconst 0, 1) := by decide +kernel
theorem dX1_isFullOf_64 : decode cX1_isFullOf 64 = .ok (.ireturn, 1) := by decide +kernel
theorem dX1_isFullOf_65 : decode cX1_isFullOf 65 = .ok (.aload_n 0, 1) := by decide +kernel
theorem dX1_isFullOf_66 : decode cX1_isFullOf 66 = .ok (.getfield 22, 3) := by decide +kernel
theorem dX1_isFullOf_69 : decode cX1_isFullOf 69 = .ok (.iconst 5, 1) := by decide +kernel
theorem dX1_isFullOf_70 : decode cX1_isFullOf 70 = .ok (.if_icmp .lt 7, 3) := by decide +kernel
theorem dX1_isFullOf_73 : decode cX1_isFullOf 73 = .ok (.iconst 1, 1) := by decide +kernel
theorem dX1_isFullOf_74 : decode cX1_isFullOf 74 = .ok (.goto 4, 3) := by decide +kernel
theorem dX1_isFullOf_77 : decode cX1_isFullOf 77 = .ok (.iconst 0, 1) := by decide +kernel
theorem dX1_isFullOf_78 : decode cX1_isFullOf 78 = .ok (.ireturn, 1) := by decide +kernel
theorem dX1_isFullOf_79 : decode cX1_isFullOf 79 = .ok (.aload_n 0, 1) := by decide +kernel
theorem dX1_isFullOf_80 : decode cX1_isFullOf 80 = .ok (.getfield 25, 3) := by decide +kernel
theorem dX1_isFullOf_83 : decode cX1_isFullOf 83 = .ok (.bipush 6, 2) := by decide +kernel
theorem dX1_isFullOf_85 : decode cX1_isFullOf 85 = .ok (.if_icmp .lt 7, 3) := by decide +kernel
theorem dX1_isFullOf_88 : decode cX1_isFullOf 88 = .ok (.iconst 1, 1) := by decide +kernel
theorem dX1_isFullOf_89 : decode cX1_isFullOf 89 = .ok (.goto 4, 3) := by decide +kernel
theorem dX1_isFullOf_92 : decode cX1_isFullOf 92 = .ok (.iconst 0, 1) := by decide +kernel
theorem dX1_isFullOf_93 : decode cX1_isFullOf 93 = .ok (.ireturn, 1) := by decide +kernel
theorem dX1_addLayer_0 : decode cX1_addLayer 0 = .ok (.aload_n 0, 1) := by decide +kernel
theorem dX1_addLayer_1 : decode cX1_addLayer 1 = .ok (.getfield 19, 3) := by decide +kernel
theorem dX1_addLayer_4 : decode cX1_addLayer 4 = .ok (.bipush 12, 2) := by decide +kernel
theorem dX1_addLayer_6 : decode cX1_addLayer 6 = .ok (.if_icmp .ge 33, 3) := by decide +kernel
theorem dX1_addLayer_9 : decode cX1_addLayer 9 = .ok (.aload_n 0, 1) := by decide +kernel
theorem dX1_addLayer_10 : decode cX1_addLayer 10 = .ok (.getfield 28, 3) := by decide +kernel
theorem dX1_addLayer_13 : decode cX1_addLayer 13 = .ok (.aload_n 0, 1) := by decide +kernel
theorem dX1_addLayer_14 : decode cX1_addLayer 14 = .ok (.getfield 19, 3) := by decide +kernel
theorem dX1_addLayer_17 : decode cX1_addLayer 17 = .ok (.iload_n 1, 1) := by decide +kernel
theorem dX1_addLayer_18 : decode cX1_addLayer 18 = .ok (.iastore, 1) := by decide +kernel
theorem dX1_addLayer_19 : decode cX1_addLayer 19 = .ok (.aload_n 0, 1) := by decide +kernel
theorem dX1_addLayer_20 : decode cX1_addLayer 20 = .ok (.getfield 32, 3) := by decide +kernel
theorem dX1_addLayer_23 : decode cX1_addLayer 23 = .ok (.aload_n 0, 1) := by decide +kernel
theorem dX1_addLayer_24 : decode cX1_addLayer 24 = .ok (.getfield 19, 3) := by decide +kernel
theorem dX1_addLayer_27 : decode cX1_addLayer 27 = .ok (.iload_n 2, 1) := by decide +kernel
theorem dX1_addLayer_28 : decode cX1_addLayer 28 = .ok (.iastore, 1) := by decide +kernel
theorem dX1_addLayer_29 : decode cX1_addLayer 29 = .ok (.aload_n 0, 1) := by decide +kernel
theorem dX1_addLayer_30 : decode cX1_addLayer 30 = .ok (.dup, 1) := by decide +kernel
theorem dX1_addLayer_31 : decode cX1_addLayer 31 = .ok (.getfield 19, 3) := by decide +kernel
theorem dX1_addLayer_34 : decode cX1_addLayer 34 = .ok (.iconst 1, 1) := by decide +kernel
theorem dX1_addLayer_35 : decode cX1_addLayer 35 = .ok (.iadd, 1) := by decide +kernel
theorem dX1_addLayer_36 : decode cX1_addLayer 36 = .ok (.putfield 19, 3) := by decide +kernel
theorem dX1_addLayer_39 : decode cX1_addLayer 39 = .ok (.return_, 1) := by decide +kernel
theorem dX1_addExecutor_0 : decode cX1_addExecutor 0 = .ok (.aload_n 0, 1) := by decide +kernel
theorem dX1_addExecutor_1 : decode cX1_addExecutor 1 = .ok (.getfield 22, 3) := by decide +kernel
theorem dX1_addExecutor_4 : decode cX1_addExecutor 4 = .ok (.iconst 5, 1) := by decide +kernel
theorem dX1_addExecutor_5 : decode cX1_addExecutor 5 = .ok (.if_icmp .ge 33, 3) := by decide +kernel
theorem dX1_addExecutor_8 : decode cX1_addExecutor 8 = .ok (.aload_n 0, 1) := by decide +kernel
theorem dX1_addExecutor_9 : decode cX1_addExecutor 9 = .ok (.getfield 35, 3) := by decide +kernel
theorem dX1_addExecutor_12 : decode cX1_addExecutor 12 = .ok (.aload_n 0, 1) := by decide +kernel
theorem dX1_addExecutor_13 : decode cX1_addExecutor 13 = .ok (.getfield 22, 3) := by decide +kernel
theorem dX1_addExecutor_16 : decode cX1_addExecutor 16 = .ok (.iload_n 1, 1) := by decide +kernel
theorem dX1_addExecutor_17 : decode cX1_addExecutor 17 = .ok (.iastore, 1) := by decide +kernel
theorem dX1_addExecutor_18 : decode cX1_addExecutor 18 = .ok (.aload_n 0, 1) := by decide +kernel
theorem dX1_addExecutor_19 : decode cX1_addExecutor 19 = .ok (.getfield 38, 3) := by decide +kernel
theorem dX1_addExecutor_22 : decode cX1_addExecutor 22 = .ok (.aload_n 0, 1) := by decide +kernel
theorem dX1_addExecutor_23 : decode cX1_addExecutor 23 = .ok (.getfield 22, 3) := by decide +kernel
theorem dX1_addExecutor_26 : decode cX1_addExecutor 26 = .ok (.iload_n 2, 1) := by decide +kernel
theorem dX1_addExecutor_27 : decode cX1_addExecutor 27 = .ok (.iastore, 1) := by decide +kernel
theorem dX1_addExecutor_28 : decode cX1_addExecutor 28 = .ok (.aload_n 0, 1) := by decide +kernel
theorem dX1_addExecutor_29 : decode cX1_addExecutor 29 = .ok (.dup, 1) := by decide +kernel
theorem dX1_addExecutor_30 : decode cX1_addExecutor 30 = .ok (.getfield 22, 3) := by decide +kernel
theorem dX1_addExecutor_33 : decode cX1_addExecutor 33 = .ok (.iconst 1, 1) := by decide +kernel
theorem dX1_addExecutor_34 : decode cX1_addExecutor 34 = .ok (.iadd, 1) := by decide +kernel
theorem dX1_addExecutor_35 : decode cX1_addExecutor 35 = .ok (.putfield 22, 3) := by decide +kernel
theorem dX1_addExecutor_38 : decode cX1_addExecutor 38 = .ok (.return_, 1) := by decide +kernel
theorem dX1_addType_0 : decode cX1_addType 0 = .ok (.aload_n 0, 1) := by decide +kernel
theorem dX1_addType_1 : decode cX1_addType 1 = .ok (.getfield 25, 3) := by decide +kernel
theorem dX1_addType_4 : decode cX1_addType 4 = .ok (.bipush 6, 2) := by decide +kernel
theorem dX1_addType_6 : decode cX1_addType 6 = .ok (.if_icmp .ge 55, 3) := by decide +kernel
theorem dX1_addType_9 : decode cX1_addType 9 = .ok (.iload_n 2, 1) := by decide +kernel
theorem dX1_addType_10 : decode cX1_addType 10 = .ok (.ifCond .lt 51, 3) := by decide +kernel
theorem dX1_addType_13 : decode cX1_addType 13 = .ok (.iload_n 2, 1) := by decide +kernel
theorem dX1_addType_14 : decode cX1_addType 14 = .ok (.bipush 8, 2) := by decide +kernel
theorem dX1_addType_16 : decode cX1_addType 16 = .ok (.if_icmp .gt 45, 3) := by decide +kernel
theorem dX1_addType_19 : decode cX1_addType 19 = .ok (.iload_n 2, 1) := by decide +kernel
theorem dX1_addType_20 : decode cX1_addType 20 = .ok (.aload_n 1, 1) := by decide +kernel
theorem dX1_addType_21 : decode cX1_addType 21 = .ok (.arraylength, 1) := by decide +kernel
theorem dX1_addType_22 : decode cX1_addType 22 = .ok (.if_icmp .gt 39, 3) := by decide +kernel
theorem dX1_addType_25 : decode cX1_addType 25 = .ok (.aload_n 1, 1) := by decide +kernel
theorem dX1_addType_26 : decode cX1_addType 26 = .ok (.iconst 0, 1) := by decide +kernel
theorem dX1_addType_27 : decode cX1_addType 27 = .ok (.aload_n 0, 1) := by decide +kernel
theorem dX1_addType_28 : decode cX1_addType 28 = .ok (.getfield 46, 3) := by decide +kernel
theorem dX1_addType_31 : decode cX1_addType 31 = .ok (.aload_n 0, 1) := by decide +kernel
theorem dX1_addType_32 : decode cX1_addType 32 = .ok (.getfield 25, 3) := by decide +kernel
theorem dX1_addType_35 : decode cX1_addType 35 = .ok (.aaload, 1) := by decide +kernel
theorem dX1_addType_36 : decode cX1_addType 36 = .ok (.iconst 0, 1) := by decide +kernel
theorem dX1_addType_37 : decode cX1_addType 37 = .ok (.iload_n 2, 1) := by decide +kernel
theorem dX1_addType_38 : decode cX1_addType 38 = .ok (.invokestatic 49, 3) := by decide +kernel
theorem dX1_addType_41 : decode cX1_addType 41 = .ok (.aload_n 0, 1) := by decide +kernel
theorem dX1_addType_42 : decode cX1_addType 42 = .ok (.getfield 41, 3) := by decide +kernel
theorem dX1_addType_45 : decode cX1_addType 45 = .ok (.aload_n 0, 1) := by decide +kernel
theorem dX1_addType_46 : decode cX1_addType 46 = .ok (.getfield 25, 3) := by decide +kernel
theorem dX1_addType_49 : decode cX1_addType 49 = .ok (.iload_n 2, 1) := by decide +kernel
theorem dX1_addType_50 : decode cX1_addType 50 = .ok (.iastore, 1) := by decide +kernel
theorem dX1_addType_51 : decode cX1_addType 51 = .ok (.aload_n 0, 1) := by decide +kernel
theorem dX1_addType_52 : decode cX1_addType 52 = .ok (.dup, 1) := by decide +kernel
theorem dX1_addType_53 : decode cX1_addType 53 = .ok (.getfield 25, 3) := by decide +kernel
theorem dX1_addType_56 : decode cX1_addType 56 = .ok (.iconst 1, 1) := by decide +kernel
theorem dX1_addType_57 : decode cX1_addType 57 = .ok (.iadd, 1) := by decide +kernel
theorem dX1_addType_58 : decode cX1_addType 58 = .ok (.putfield 25, 3) := by decide +kernel
theorem dX1_addType_61 : decode cX1_addType 61 = .ok (.return_, 1) := by decide +kernel
theorem dX1_kindOfType_0 : decode cX1_kindOfType 0 = .ok (.iload_n 1, 1) := by decide +kernel
theorem dX1_kindOfType_1 : decode cX1_kindOfType 1 = .ok (.ifCond .lt 25, 3) := by decide +kernel
theorem dX1_kindOfType_4 : decode cX1_kindOfType 4 = .ok (.iload_n 1, 1) := by decide +kernel
theorem dX1_kindOfType_5 : decode cX1_kindOfType 5 = .ok (.aload_n 0, 1) := by decide +kernel
theorem dX1_kindOfType_6 : decode cX1_kindOfType 6 = .ok (.getfield 25, 3) := by decide +kernel
theorem dX1_kindOfType_9 : decode cX1_kindOfType 9 = .ok (.if_icmp .ge 17, 3) := by decide +kernel
theorem dX1_kindOfType_12 : decode cX1_kindOfType 12 = .ok (.iload_n 2, 1) := by decide +kernel
theorem dX1_kindOfType_13 : decode cX1_kindOfType 13 = .ok (.ifCond .lt 13, 3) := by decide +kernel
theorem dX1_kindOfType_16 : decode cX1_kindOfType 16 = .ok (.iload_n 2, 1) := by decide +kernel
theorem dX1_kindOfType_17 : decode cX1_kindOfType 17 = .ok (.aload_n 0, 1) := by decide +kernel
theorem dX1_kindOfType_18 : decode cX1_kindOfType 18 = .ok (.getfield 41, 3) := by decide +kernel
theorem dX1_kindOfType_21 : decode cX1_kindOfType 21 = .ok (.iload_n 1, 1) := by decide +kernel
theorem dX1_kindOfType_22 : decode cX1_kindOfType 22 = .ok (.iaload, 1) := by decide +kernel
theorem dX1_kindOfType_23 : decode cX1_kindOfType 23 = .ok (.if_icmp .lt 5, 3) := by decide +kernel
theorem dX1_kindOfType_26 : decode cX1_kindOfType 26 = .ok (.iconst (-1), 1) := by decide +kernel
theorem dX1_kindOfType_27 : decode cX1_kindOfType 27 = .ok (.ireturn, 1) := by decide +kernel
theorem dX1_kindOfType_28 : decode cX1_kindOfType 28 = .ok (.aload_n 0, 1) := by decide +kernel
theorem dX1_kindOfType_29 : decode cX1_kindOfType 29 = .ok (.getfield 46, 3) := by decide +kernel
theorem dX1_kindOfType_32 : decode cX1_kindOfType 32 = .ok (.iload_n 1, 1) := by decide +kernel
theorem dX1_kindOfType_33 : decode cX1_kindOfType 33 = .ok (.aaload, 1) := by decide +kernel
theorem dX1_kindOfType_34 : decode cX1_kindOfType 34 = .ok (.iload_n 2, 1) := by decide +kernel
theorem dX1_kindOfType_35 : decode cX1_kindOfType 35 = .ok (.iaload, 1) := by decide +kernel
theorem dX1_kindOfType_36 : decode cX1_kindOfType 36 = .ok (.ireturn, 1) := by decide +kernel
theorem dX1_canBe_0 : decode cX1_canBe 0 = .ok (.iconst 0, 1) := by decide +kernel
theorem dX1_canBe_1 : decode cX1_canBe 1 = .ok (.istore_n 2, 1) := by decide +kernel
theorem dX1_canBe_2 : decode cX1_canBe 2 = .ok (.iconst 0, 1) := by decide +kernel
theorem dX1_canBe_3 : decode cX1_canBe 3 = .ok (.istore_n 3, 1) := by decide +kernel
theorem dX1_canBe_4 : decode cX1_canBe 4 = .ok (.iload_n 3, 1) := by decide +kernel
theorem dX1_canBe_5 : decode cX1_canBe 5 = .ok (.aload_n 0, 1) := by decide +kernel
theorem dX1_canBe_6 : decode cX1_canBe 6 = .ok (.getfield 25, 3) := by decide +kernel
theorem dX1_canBe_9 : decode cX1_canBe 9 = .ok (.if_icmp .ge 24, 3) := by decide +kernel
theorem dX1_canBe_12 : decode cX1_canBe 12 = .ok (.aload_n 0, 1) := by decide +kernel
theorem dX1_canBe_13 : decode cX1_canBe 13 = .ok (.iload_n 3, 1) := by decide +kernel
theorem dX1_canBe_14 : decode cX1_canBe 14 = .ok (.aload_n 1, 1) := by decide +kernel
theorem dX1_canBe_15 : decode cX1_canBe 15 = .ok (.invokevirtual 55, 3) := by decide +kernel
theorem dX1_canBe_18 : decode cX1_canBe 18 = .ok (.ifCond .eq 9, 3) := by decide +kernel
theorem dX1_canBe_21 : decode cX1_canBe 21 = .ok (.iload_n 2, 1) := by decide +kernel
theorem dX1_canBe_22 : decode cX1_canBe 22 = .ok (.iconst 1, 1) := by decide +kernel
theorem dX1_canBe_23 : decode cX1_canBe 23 = .ok (.iload_n 3, 1) := by decide +kernel
theorem dX1_canBe_24 : decode cX1_canBe 24 = .ok (.ishl, 1) := by decide +kernel
theorem dX1_canBe_25 : decode cX1_canBe 25 = .ok (.ior, 1) := by decide +kernel
theorem dX1_canBe_26 : decode cX1_canBe 26 = .ok (.istore_n 2, 1) := by decide +kernel
theorem dX1_canBe_27 : decode cX1_canBe 27 = .ok (.iinc 3 1, 3) := by decide +kernel
theorem dX1_canBe_30 : decode cX1_canBe 30 = .ok (.goto (-26), 3) := by decide +kernel
theorem dX1_canBe_33 : decode cX1_canBe 33 = .ok (.iload_n 2, 1) := by decide +kernel
theorem dX1_canBe_34 : decode cX1_canBe 34 = .ok (.ireturn, 1) := by decide +kernel
theorem dX1_beginsAs_0 : decode cX1_beginsAs 0 = .ok (.aload_n 0, 1) := by decide +kernel
theorem dX1_beginsAs_1 : decode cX1_beginsAs 1 = .ok (.getfield 41, 3) := by decide +kernel
theorem dX1_beginsAs_4 : decode cX1_beginsAs 4 = .ok (.iload_n 1, 1) := by decide +kernel
theorem dX1_beginsAs_5 : decode cX1_beginsAs 5 = .ok (.iaload, 1) := by decide +kernel
theorem dX1_beginsAs_6 : decode cX1_beginsAs 6 = .ok (.aload_n 2, 1) := by decide +kernel
theorem dX1_beginsAs_7 : decode cX1_beginsAs 7 = .ok (.getfield 59, 3) := by decide +kernel
theorem dX1_beginsAs_10 : decode cX1_beginsAs 10 = .ok (.invokestatic 62, 3) := by decide +kernel
theorem dX1_beginsAs_13 : decode cX1_beginsAs 13 = .ok (.istore_n 3, 1) := by decide +kernel
theorem dX1_beginsAs_14 : decode cX1_beginsAs 14 = .ok (.iconst 0, 1) := by decide +kernel
theorem dX1_beginsAs_15 : decode cX1_beginsAs 15 = .ok (.istore 4, 2) := by decide +kernel
theorem dX1_beginsAs_17 : decode cX1_beginsAs 17 = .ok (.iload 4, 2) := by decide +kernel
theorem dX1_beginsAs_19 : decode cX1_beginsAs 19 = .ok (.iload_n 3, 1) := by decide +kernel
theorem dX1_beginsAs_20 : decode cX1_beginsAs 20 = .ok (.if_icmp .ge 30, 3) := by decide +kernel
theorem dX1_beginsAs_23 : decode cX1_beginsAs 23 = .ok (.aload_n 0, 1) := by decide +kernel
theorem dX1_beginsAs_24 : decode cX1_beginsAs 24 = .ok (.getfield 46, 3) := by decide +kernel
theorem dX1_beginsAs_27 : decode cX1_beginsAs 27 = .ok (.iload_n 1, 1) := by decide +kernel
theorem dX1_beginsAs_28 : decode cX1_beginsAs 28 = .ok (.aaload, 1) := by decide +kernel
theorem dX1_beginsAs_29 : decode cX1_beginsAs 29 = .ok (.iload 4, 2) := by decide +kernel
theorem dX1_beginsAs_31 : decode cX1_beginsAs 31 = .ok (.iaload, 1) := by decide +kernel
theorem dX1_beginsAs_32 : decode cX1_beginsAs 32 = .ok (.aload_n 2, 1) := by decide +kernel
theorem dX1_beginsAs_33 : decode cX1_beginsAs 33 = .ok (.getfield 68, 3) := by decide +kernel
theorem dX1_beginsAs_36 : decode cX1_beginsAs 36 = .ok (.iload 4, 2) := by decide +kernel
theorem dX1_beginsAs_38 : decode cX1_beginsAs 38 = .ok (.iaload, 1) := by decide +kernel
theorem dX1_beginsAs_39 : decode cX1_beginsAs 39 = .ok (.if_icmp .eq 5, 3) := by decide +kernel
theorem dX1_beginsAs_42 : decode cX1_beginsAs 42 = .ok (.iconst 0, 1) := by decide +kernel
theorem dX1_beginsAs_43 : decode cX1_beginsAs 43 = .ok (.ireturn, 1) := by decide +kernel
theorem dX1_beginsAs_44 : decode cX1_beginsAs 44 = .ok (.iinc 4 1, 3) := by decide +kernel
theorem dX1_beginsAs_47 : decode cX1_beginsAs 47 = .ok (.goto (-30), 3) := by decide +kernel
theorem dX1_beginsAs_50 : decode cX1_beginsAs 50 = .ok (.iconst 1, 1) := by decide +kernel
theorem dX1_beginsAs_51 : decode cX1_beginsAs 51 = .ok (.ireturn, 1) := by decide +kernel
theorem dX1_countNext_0 : decode cX1_countNext 0 = .ok (.iconst 0, 1) := by decide +kernel
theorem dX1_countNext_1 : decode cX1_countNext 1 = .ok (.istore_n 3, 1) := by decide +kernel
theorem dX1_countNext_2 : decode cX1_countNext 2 = .ok (.iconst 0, 1) := by decide +kernel
theorem dX1_countNext_3 : decode cX1_countNext 3 = .ok (.istore 4, 2) := by decide +kernel
theorem dX1_countNext_5 : decode cX1_countNext 5 = .ok (.iload 4, 2) := by decide +kernel
theorem dX1_countNext_7 : decode cX1_countNext 7 = .ok (.aload_n 0, 1) := by decide +kernel
theorem dX1_countNext_8 : decode cX1_countNext 8 = .ok (.getfield 25, 3) := by decide +kernel
theorem dX1_countNext_11 : decode cX1_countNext 11 = .ok (.if_icmp .ge 36, 3) := by decide +kernel
theorem dX1_countNext_14 : decode cX1_countNext 14 = .ok (.aload_n 0, 1) := by decide +kernel
theorem dX1_countNext_15 : decode cX1_countNext 15 = .ok (.iload 4, 2) := by decide +kernel
theorem dX1_countNext_17 : decode cX1_countNext 17 = .ok (.aload_n 1, 1) := by decide +kernel
theorem dX1_countNext_18 : decode cX1_countNext 18 = .ok (.getfield 59, 3) := by decide +kernel
theorem dX1_countNext_21 : decode cX1_countNext 21 = .ok (.invokevirtual 69, 3) := by decide +kernel
theorem dX1_countNext_24 : decode cX1_countNext 24 = .ok (.iload_n 2, 1) := by decide +kernel
theorem dX1_countNext_25 : decode cX1_countNext 25 = .ok (.if_icmp .ne 16, 3) := by decide +kernel
theorem dX1_countNext_28 : decode cX1_countNext 28 = .ok (.aload_n 0, 1) := by decide +kernel
theorem dX1_countNext_29 : decode cX1_countNext 29 = .ok (.iload 4, 2) := by decide +kernel
theorem dX1_countNext_31 : decode cX1_countNext 31 = .ok (.aload_n 1, 1) := by decide +kernel
theorem dX1_countNext_32 : decode cX1_countNext 32 = .ok (.invokevirtual 55, 3) := by decide +kernel
theorem dX1_countNext_35 : decode cX1_countNext 35 = .ok (.ifCond .eq 6, 3) := by decide +kernel
theorem dX1_countNext_38 : decode cX1_countNext 38 = .ok (.iinc 3 1, 3) := by decide +kernel
theorem dX1_countNext_41 : decode cX1_countNext 41 = .ok (.iinc 4 1, 3) := by decide +kernel
theorem dX1_countNext_44 : decode cX1_countNext 44 = .ok (.goto (-39), 3) := by decide +kernel
theorem dX1_countNext_47 : decode cX1_countNext 47 = .ok (.iload_n 3, 1) := by decide +kernel
theorem dX1_countNext_48 : decode cX1_countNext 48 = .ok (.ireturn, 1) := by decide +kernel
theorem dX1_sureKind_0 : decode cX1_sureKind 0 = .ok (.iconst (-1), 1) := by decide +kernel
theorem dX1_sureKind_1 : decode cX1_sureKind 1 = .ok (.istore_n 2, 1) := by decide +kernel
theorem dX1_sureKind_2 : decode cX1_sureKind 2 = .ok (.iconst 0, 1) := by decide +kernel
theorem dX1_sureKind_3 : decode cX1_sureKind 3 = .ok (.istore_n 3, 1) := by decide +kernel
theorem dX1_sureKind_4 : decode cX1_sureKind 4 = .ok (.iload_n 3, 1) := by decide +kernel
theorem dX1_sureKind_5 : decode cX1_sureKind 5 = .ok (.iconst 5, 1) := by decide +kernel
theorem dX1_sureKind_6 : decode cX1_sureKind 6 = .ok (.if_icmp .ge 27, 3) := by decide +kernel
theorem dX1_sureKind_9 : decode cX1_sureKind 9 = .ok (.aload_n 0, 1) := by decide +kernel
theorem dX1_sureKind_10 : decode cX1_sureKind 10 = .ok (.aload_n 1, 1) := by decide +kernel
theorem dX1_sureKind_11 : decode cX1_sureKind 11 = .ok (.iload_n 3, 1) := by decide +kernel
theorem dX1_sureKind_12 : decode cX1_sureKind 12 = .ok (.invokevirtual 72, 3) := by decide +kernel
theorem dX1_sureKind_15 : decode cX1_sureKind 15 = .ok (.ifCond .le 12, 3) := by decide +kernel
theorem dX1_sureKind_18 : decode cX1_sureKind 18 = .ok (.iload_n 2, 1) := by decide +kernel
theorem dX1_sureKind_19 : decode cX1_sureKind 19 = .ok (.iconst (-1), 1) := by decide +kernel
theorem dX1_sureKind_20 : decode cX1_sureKind 20 = .ok (.if_icmp .eq 5, 3) := by decide +kernel
theorem dX1_sureKind_23 : decode cX1_sureKind 23 = .ok (.iconst (-1), 1) := by decide +kernel
theorem dX1_sureKind_24 : decode cX1_sureKind 24 = .ok (.ireturn, 1) := by decide +kernel
theorem dX1_sureKind_25 : decode cX1_sureKind 25 = .ok (.iload_n 3, 1) := by decide +kernel
theorem dX1_sureKind_26 : decode cX1_sureKind 26 = .ok (.istore_n 2, 1) := by decide +kernel
theorem dX1_sureKind_27 : decode cX1_sureKind 27 = .ok (.iinc 3 1, 3) := by decide +kernel
theorem dX1_sureKind_30 : decode cX1_sureKind 30 = .ok (.goto (-26), 3) := by decide +kernel
theorem dX1_sureKind_33 : decode cX1_sureKind 33 = .ok (.iload_n 2, 1) := by decide +kernel
theorem dX1_sureKind_34 : decode cX1_sureKind 34 = .ok (.ireturn, 1) := by decide +kernel
theorem dX1_lawOfTypes_0 : decode cX1_lawOfTypes 0 = .ok (.iconst 0, 1) := by decide +kernel
theorem dX1_lawOfTypes_1 : decode cX1_lawOfTypes 1 = .ok (.istore_n 1, 1) := by decide +kernel
theorem dX1_lawOfTypes_2 : decode cX1_lawOfTypes 2 = .ok (.iconst 0, 1) := by decide +kernel
theorem dX1_lawOfTypes_3 : decode cX1_lawOfTypes 3 = .ok (.istore_n 2, 1) := by decide +kernel
theorem dX1_lawOfTypes_4 : decode cX1_lawOfTypes 4 = .ok (.iload_n 2, 1) := by decide +kernel
theorem dX1_lawOfTypes_5 : decode cX1_lawOfTypes 5 = .ok (.aload_n 0, 1) := by decide +kernel
theorem dX1_lawOfTypes_6 : decode cX1_lawOfTypes 6 = .ok (.getfield 25, 3) := by decide +kernel
theorem dX1_lawOfTypes_9 : decode cX1_lawOfTypes 9 = .ok (.if_icmp .ge 51, 3) := by decide +kernel
theorem dX1_lawOfTypes_12 : decode cX1_lawOfTypes 12 = .ok (.iconst 1, 1) := by decide +kernel
theorem dX1_lawOfTypes_13 : decode cX1_lawOfTypes 13 = .ok (.istore_n 3, 1) := by decide +kernel
theorem dX1_lawOfTypes_14 : decode cX1_lawOfTypes 14 = .ok (.iload_n 3, 1) := by decide +kernel
theorem dX1_lawOfTypes_15 : decode cX1_lawOfTypes 15 = .ok (.aload_n 0, 1) := by decide +kernel
theorem dX1_lawOfTypes_16 : decode cX1_lawOfTypes 16 = .ok (.getfield 41, 3) := by decide +kernel
theorem dX1_lawOfTypes_19 : decode cX1_lawOfTypes 19 = .ok (.iload_n 2, 1) := by decide +kernel
theorem dX1_lawOfTypes_20 : decode cX1_lawOfTypes 20 = .ok (.iaload, 1) := by decide +kernel
theorem dX1_lawOfTypes_21 : decode cX1_lawOfTypes 21 = .ok (.if_icmp .ge 33, 3) := by decide +kernel
theorem dX1_lawOfTypes_24 : decode cX1_lawOfTypes 24 = .ok (.iload_n 1, 1) := by decide +kernel
theorem dX1_lawOfTypes_25 : decode cX1_lawOfTypes 25 = .ok (.aload_n 0, 1) := by decide +kernel
theorem dX1_lawOfTypes_26 : decode cX1_lawOfTypes 26 = .ok (.getfield 46, 3) := by decide +kernel
theorem dX1_lawOfTypes_29 : decode cX1_lawOfTypes 29 = .ok (.iload_n 2, 1) := by decide +kernel
theorem dX1_lawOfTypes_30 : decode cX1_lawOfTypes 30 = .ok (.aaload, 1) := by decide +kernel
theorem dX1_lawOfTypes_31 : decode cX1_lawOfTypes 31 = .ok (.iload_n 3, 1) := by decide +kernel
theorem dX1_lawOfTypes_32 : decode cX1_lawOfTypes 32 = .ok (.iconst 1, 1) := by decide +kernel
theorem dX1_lawOfTypes_33 : decode cX1_lawOfTypes 33 = .ok (.isub, 1) := by decide +kernel
theorem dX1_lawOfTypes_34 : decode cX1_lawOfTypes 34 = .ok (.iaload, 1) := by decide +kernel
theorem dX1_lawOfTypes_35 : decode cX1_lawOfTypes 35 = .ok (.aload_n 0, 1) := by decide +kernel
theorem dX1_lawOfTypes_36 : decode cX1_lawOfTypes 36 = .ok (.getfield 46, 3) := by decide +kernel
theorem dX1_lawOfTypes_39 : decode cX1_lawOfTypes 39 = .ok (.iload_n 2, 1) := by decide +kernel
theorem dX1_lawOfTypes_40 : decode cX1_lawOfTypes 40 = .ok (.aaload, 1) := by decide +kernel
theorem dX1_lawOfTypes_41 : decode cX1_lawOfTypes 41 = .ok (.iload_n 3, 1) := by decide +kernel
theorem dX1_lawOfTypes_42 : decode cX1_lawOfTypes 42 = .ok (.iaload, 1) := by decide +kernel
theorem dX1_lawOfTypes_43 : decode cX1_lawOfTypes 43 = .ok (.invokestatic 76, 3) := by decide +kernel
theorem dX1_lawOfTypes_46 : decode cX1_lawOfTypes 46 = .ok (.ior, 1) := by decide +kernel
theorem dX1_lawOfTypes_47 : decode cX1_lawOfTypes 47 = .ok (.istore_n 1, 1) := by decide +kernel
theorem dX1_lawOfTypes_48 : decode cX1_lawOfTypes 48 = .ok (.iinc 3 1, 3) := by decide +kernel
theorem dX1_lawOfTypes_51 : decode cX1_lawOfTypes 51 = .ok (.goto (-37), 3) := by decide +kernel
theorem dX1_lawOfTypes_54 : decode cX1_lawOfTypes 54 = .ok (.iinc 2 1, 3) := by decide +kernel
theorem dX1_lawOfTypes_57 : decode cX1_lawOfTypes 57 = .ok (.goto (-53), 3) := by decide +kernel
theorem dX1_lawOfTypes_60 : decode cX1_lawOfTypes 60 = .ok (.iload_n 1, 1) := by decide +kernel
theorem dX1_lawOfTypes_61 : decode cX1_lawOfTypes 61 = .ok (.ireturn, 1) := by decide +kernel
theorem dX2_init_0 : decode cX2_init 0 = .ok (.aload_n 0, 1) := by decide +kernel
theorem dX2_init_1 : decode cX2_init 1 = .ok (.invokespecial 3, 3) := by decide +kernel
theorem dX2_init_4 : decode cX2_init 4 = .ok (.aload_n 0, 1) := by decide +kernel
theorem dX2_init_5 : decode cX2_init 5 = .ok (.bipush 30, 2) := by decide +kernel
theorem dX2_init_7 : decode cX2_init 7 = .ok (.anewarray 9, 3) := by decide +kernel
theorem dX2_init_10 : decode cX2_init 10 = .ok (.putfield 11, 3) := by decide +kernel
theorem dX2_init_13 : decode cX2_init 13 = .ok (.aload_n 0, 1) := by decide +kernel
theorem dX2_init_14 : decode cX2_init 14 = .ok (.iconst 0, 1) := by decide +kernel
theorem dX2_init_15 : decode cX2_init 15 = .ok (.putfield 17, 3) := by decide +kernel
theorem dX2_init_18 : decode cX2_init 18 = .ok (.aload_n 0, 1) := by decide +kernel
theorem dX2_init_19 : decode cX2_init 19 = .ok (.iconst 0, 1) := by decide +kernel
theorem dX2_init_20 : decode cX2_init 20 = .ok (.putfield 21, 3) := by decide +kernel
theorem dX2_init_23 : decode cX2_init 23 = .ok (.iconst 0, 1) := by decide +kernel
theorem dX2_init_24 : decode cX2_init 24 = .ok (.istore_n 1, 1) := by decide +kernel
theorem dX2_init_25 : decode cX2_init 25 = .ok (.iload_n 1, 1) := by decide +kernel
theorem dX2_init_26 : decode cX2_init 26 = .ok (.bipush 30, 2) := by decide +kernel
theorem dX2_init_28 : decode cX2_init 28 = .ok (.if_icmp .ge 22, 3) := by decide +kernel
theorem dX2_init_31 : decode cX2_init 31 = .ok (.aload_n 0, 1) := by decide +kernel
theorem dX2_init_32 : decode cX2_init 32 = .ok (.getfield 11, 3) := by decide +kernel
theorem dX2_init_35 : decode cX2_init 35 = .ok (.iload_n 1, 1) := by decide +kernel
theorem dX2_init_36 : decode cX2_init 36 = .ok (.new 9, 3) := by decide +kernel
theorem dX2_init_39 : decode cX2_init 39 = .ok (.dup, 1) := by decide +kernel
theorem dX2_init_40 : decode cX2_init 40 = .ok (.invokespecial 24, 3) := by decide +kernel
theorem dX2_init_43 : decode cX2_init 43 = .ok (.aastore, 1) := by decide +kernel
theorem dX2_init_44 : decode cX2_init 44 = .ok (.iinc 1 1, 3) := by decide +kernel
theorem dX2_init_47 : decode cX2_init 47 = .ok (.goto (-22), 3) := by decide +kernel
theorem dX2_init_50 : decode cX2_init 50 = .ok (.return_, 1) := by decide +kernel
theorem dX2_forget_0 : decode cX2_forget 0 = .ok (.aload_n 0, 1) := by decide +kernel
theorem dX2_forget_1 : decode cX2_forget 1 = .ok (.iconst 0, 1) := by decide +kernel
theorem dX2_forget_2 : decode cX2_forget 2 = .ok (.putfield 17, 3) := by decide +kernel
theorem dX2_forget_5 : decode cX2_forget 5 = .ok (.aload_n 0, 1) := by decide +kernel
theorem dX2_forget_6 : decode cX2_forget 6 = .ok (.iconst 0, 1) := by decide +kernel
theorem dX2_forget_7 : decode cX2_forget 7 = .ok (.putfield 21, 3) := by decide +kernel
theorem dX2_forget_10 : decode cX2_forget 10 = .ok (.return_, 1) := by decide +kernel
theorem dX2_remember_0 : decode cX2_remember 0 = .ok (.aload_n 0, 1) := by decide +kernel
theorem dX2_remember_1 : decode cX2_remember 1 = .ok (.getfield 11, 3) := by decide +kernel
theorem dX2_remember_4 : decode cX2_remember 4 = .ok (.aload_n 0, 1) := by decide +kernel
theorem dX2_remember_5 : decode cX2_remember 5 = .ok (.getfield 17, 3) := by decide +kernel
theorem dX2_remember_8 : decode cX2_remember 8 = .ok (.aaload, 1) := by decide +kernel
theorem dX2_remember_9 : decode cX2_remember 9 = .ok (.aload_n 1, 1) := by decide +kernel
theorem dX2_remember_10 : decode cX2_remember 10 = .ok (.invokevirtual 25, 3) := by decide +kernel
theorem dX2_remember_13 : decode cX2_remember 13 = .ok (.aload_n 0, 1) := by decide +kernel
theorem dX2_remember_14 : decode cX2_remember 14 = .ok (.aload_n 0, 1) := by decide +kernel
theorem dX2_remember_15 : decode cX2_remember 15 = .ok (.getfield 17, 3) := by decide +kernel
theorem dX2_remember_18 : decode cX2_remember 18 = .ok (.iconst 1, 1) := by decide +kernel
theorem dX2_remember_19 : decode cX2_remember 19 = .ok (.iadd, 1) := by decide +kernel
theorem dX2_remember_20 : decode cX2_remember 20 = .ok (.bipush 30, 2) := by decide +kernel
theorem dX2_remember_22 : decode cX2_remember 22 = .ok (.irem, 1) := by decide +kernel
theorem dX2_remember_23 : decode cX2_remember 23 = .ok (.putfield 17, 3) := by decide +kernel
theorem dX2_remember_26 : decode cX2_remember 26 = .ok (.aload_n 0, 1) := by decide +kernel
theorem dX2_remember_27 : decode cX2_remember 27 = .ok (.bipush 30, 2) := by decide +kernel
theorem dX2_remember_29 : decode cX2_remember 29 = .ok (.aload_n 0, 1) := by decide +kernel
theorem dX2_remember_30 : decode cX2_remember 30 = .ok (.getfield 21, 3) := by decide +kernel
theorem dX2_remember_33 : decode cX2_remember 33 = .ok (.iconst 1, 1) := by decide +kernel
theorem dX2_remember_34 : decode cX2_remember 34 = .ok (.iadd, 1) := by decide +kernel
theorem dX2_remember_35 : decode cX2_remember 35 = .ok (.invokestatic 29, 3) := by decide +kernel
theorem dX2_remember_38 : decode cX2_remember 38 = .ok (.putfield 21, 3) := by decide +kernel
theorem dX2_remember_41 : decode cX2_remember 41 = .ok (.return_, 1) := by decide +kernel
theorem dX2_takeBack_0 : decode cX2_takeBack 0 = .ok (.iload_n 1, 1) := by decide +kernel
theorem dX2_takeBack_1 : decode cX2_takeBack 1 = .ok (.iconst 1, 1) := by decide +kernel
theorem dX2_takeBack_2 : decode cX2_takeBack 2 = .ok (.if_icmp .lt 11, 3) := by decide +kernel
theorem dX2_takeBack_5 : decode cX2_takeBack 5 = .ok (.iload_n 1, 1) := by decide +kernel
theorem dX2_takeBack_6 : decode cX2_takeBack 6 = .ok (.aload_n 0, 1) := by decide +kernel
theorem dX2_takeBack_7 : decode cX2_takeBack 7 = .ok (.getfield 21, 3) := by decide +kernel
theorem dX2_takeBack_10 : decode cX2_takeBack 10 = .ok (.if_icmp .le 4, 3) := by decide +kernel
theorem dX2_takeBack_13 : decode cX2_takeBack 13 = .ok (.return_, 1) := by decide +kernel
theorem dX2_takeBack_14 : decode cX2_takeBack 14 = .ok (.aload_n 0, 1) := by decide +kernel
theorem dX2_takeBack_15 : decode cX2_takeBack 15 = .ok (.aload_n 0, 1) := by decide +kernel
theorem dX2_takeBack_16 : decode cX2_takeBack 16 = .ok (.getfield 17, 3) := by decide +kernel
theorem dX2_takeBack_19 : decode cX2_takeBack 19 = .ok (.bipush 30, 2) := by decide +kernel
theorem dX2_takeBack_21 : decode cX2_takeBack 21 = .ok (.iadd, 1) := by decide +kernel
theorem dX2_takeBack_22 : decode cX2_takeBack 22 = .ok (.iload_n 1, 1) := by decide +kernel
theorem dX2_takeBack_23 : decode cX2_takeBack 23 = .ok (.isub, 1) := by decide +kernel
theorem dX2_takeBack_24 : decode cX2_takeBack 24 = .ok (.bipush 30, 2) := by decide +kernel
theorem dX2_takeBack_26 : decode cX2_takeBack 26 = .ok (.irem, 1) := by decide +kernel
theorem dX2_takeBack_27 : decode cX2_takeBack 27 = .ok (.putfield 17, 3) := by decide +kernel
theorem dX2_takeBack_30 : decode cX2_takeBack 30 = .ok (.aload_n 0, 1) := by decide +kernel
theorem dX2_takeBack_31 : decode cX2_takeBack 31 = .ok (.dup, 1) := by decide +kernel
theorem dX2_takeBack_32 : decode cX2_takeBack 32 = .ok (.getfield 21, 3) := by decide +kernel
theorem dX2_takeBack_35 : decode cX2_takeBack 35 = .ok (.iload_n 1, 1) := by decide +kernel
theorem dX2_takeBack_36 : decode cX2_takeBack 36 = .ok (.isub, 1) := by decide +kernel
theorem dX2_takeBack_37 : decode cX2_takeBack 37 = .ok (.putfield 21, 3) := by decide +kernel
theorem dX2_takeBack_40 : decode cX2_takeBack 40 = .ok (.aload_n 2, 1) := by decide +kernel
theorem dX2_takeBack_41 : decode cX2_takeBack 41 = .ok (.aload_n 0, 1) := by decide +kernel
theorem dX2_takeBack_42 : decode cX2_takeBack 42 = .ok (.getfield 11, 3) := by decide +kernel
theorem dX2_takeBack_45 : decode cX2_takeBack 45 = .ok (.aload_n 0, 1) := by decide +kernel
theorem dX2_takeBack_46 : decode cX2_takeBack 46 = .ok (.getfield 17, 3) := by decide +kernel
theorem dX2_takeBack_49 : decode cX2_takeBack 49 = .ok (.aaload, 1) := by decide +kernel
theorem dX2_takeBack_50 : decode cX2_takeBack 50 = .ok (.invokevirtual 25, 3) := by decide +kernel
theorem dX2_takeBack_53 : decode cX2_takeBack 53 = .ok (.return_, 1) := by decide +kernel
theorem dX3_init_0 : decode cX3_init 0 = .ok (.aload_n 0, 1) := by decide +kernel
theorem dX3_init_1 : decode cX3_init 1 = .ok (.invokespecial 1, 3) := by decide +kernel
theorem dX3_init_4 : decode cX3_init 4 = .ok (.aload_n 0, 1) := by decide +kernel
theorem dX3_init_5 : decode cX3_init 5 = .ok (.iconst 0, 1) := by decide +kernel
theorem dX3_init_6 : decode cX3_init 6 = .ok (.putfield 7, 3) := by decide +kernel
theorem dX3_init_9 : decode cX3_init 9 = .ok (.return_, 1) := by decide +kernel
theorem dX3_below_0 : decode cX3_below 0 = .ok (.aload_n 0, 1) := by decide +kernel
theorem dX3_below_1 : decode cX3_below 1 = .ok (.aload_n 0, 1) := by decide +kernel
theorem dX3_below_2 : decode cX3_below 2 = .ok (.getfield 7, 3) := by decide +kernel
theorem dX3_below_5 : decode cX3_below 5 = .ok (.ldc 13, 2) := by decide +kernel
theorem dX3_below_7 : decode cX3_below 7 = .ok (.imul, 1) := by decide +kernel
theorem dX3_below_8 : decode cX3_below 8 = .ok (.sipush 12345, 3) := by decide +kernel
theorem dX3_below_11 : decode cX3_below 11 = .ok (.iadd, 1) := by decide +kernel
theorem dX3_below_12 : decode cX3_below 12 = .ok (.ldc 14, 2) := by decide +kernel
theorem dX3_below_14 : decode cX3_below 14 = .ok (.iand, 1) := by decide +kernel
theorem dX3_below_15 : decode cX3_below 15 = .ok (.putfield 7, 3) := by decide +kernel
theorem dX3_below_18 : decode cX3_below 18 = .ok (.iload_n 1, 1) := by decide +kernel
theorem dX3_below_19 : decode cX3_below 19 = .ok (.iconst 1, 1) := by decide +kernel
theorem dX3_below_20 : decode cX3_below 20 = .ok (.if_icmp .ge 7, 3) := by decide +kernel
theorem dX3_below_23 : decode cX3_below 23 = .ok (.iconst 0, 1) := by decide +kernel
theorem dX3_below_24 : decode cX3_below 24 = .ok (.goto 12, 3) := by decide +kernel
theorem dX3_below_27 : decode cX3_below 27 = .ok (.aload_n 0, 1) := by decide +kernel
theorem dX3_below_28 : decode cX3_below 28 = .ok (.getfield 7, 3) := by decide +kernel
theorem dX3_below_31 : decode cX3_below 31 = .ok (.ldc 15, 2) := by decide +kernel
theorem dX3_below_33 : decode cX3_below 33 = .ok (.idiv, 1) := by decide +kernel
theorem dX3_below_34 : decode cX3_below 34 = .ok (.iload_n 1, 1) := by decide +kernel
theorem dX3_below_35 : decode cX3_below 35 = .ok (.irem, 1) := by decide +kernel
theorem dX3_below_36 : decode cX3_below 36 = .ok (.ireturn, 1) := by decide +kernel
theorem dX4_init_0 : decode cX4_init 0 = .ok (.aload_n 0, 1) := by decide +kernel
theorem dX4_init_1 : decode cX4_init 1 = .ok (.invokespecial 3, 3) := by decide +kernel
theorem dX4_init_4 : decode cX4_init 4 = .ok (.aload_n 0, 1) := by decide +kernel
theorem dX4_init_5 : decode cX4_init 5 = .ok (.bipush 6, 2) := by decide +kernel
theorem dX4_init_7 : decode cX4_init 7 = .ok (.newarray .int, 2) := by decide +kernel
theorem dX4_init_9 : decode cX4_init 9 = .ok (.putfield 9, 3) := by decide +kernel
theorem dX4_init_12 : decode cX4_init 12 = .ok (.aload_n 0, 1) := by decide +kernel
theorem dX4_init_13 : decode cX4_init 13 = .ok (.bipush 6, 2) := by decide +kernel
theorem dX4_init_15 : decode cX4_init 15 = .ok (.newarray .int, 2) := by decide +kernel
theorem dX4_init_17 : decode cX4_init 17 = .ok (.putfield 15, 3) := by decide +kernel
theorem dX4_init_20 : decode cX4_init 20 = .ok (.aload_n 0, 1) := by decide +kernel
theorem dX4_init_21 : decode cX4_init 21 = .ok (.bipush 6, 2) := by decide +kernel
theorem dX4_init_23 : decode cX4_init 23 = .ok (.newarray .boolean, 2) := by decide +kernel
theorem dX4_init_25 : decode cX4_init 25 = .ok (.putfield 18, 3) := by decide +kernel
theorem dX4_init_28 : decode cX4_init 28 = .ok (.aload_n 0, 1) := by decide +kernel
theorem dX4_init_29 : decode cX4_init 29 = .ok (.iconst 0, 1) := by decide +kernel
theorem dX4_init_30 : decode cX4_init 30 = .ok (.putfield 22, 3) := by decide +kernel
theorem dX4_init_33 : decode cX4_init 33 = .ok (.return_, 1) := by decide +kernel
theorem dX4_add_0 : decode cX4_add 0 = .ok (.aload_n 0, 1) := by decide +kernel
theorem dX4_add_1 : decode cX4_add 1 = .ok (.getfield 22, 3) := by decide +kernel
theorem dX4_add_4 : decode cX4_add 4 = .ok (.bipush 6, 2) := by decide +kernel
theorem dX4_add_6 : decode cX4_add 6 = .ok (.if_icmp .lt 6, 3) := by decide +kernel
theorem dX4_add_9 : decode cX4_add 9 = .ok (.ldc 26, 2) := by decide +kernel
theorem dX4_add_11 : decode cX4_add 11 = .ok (.ireturn, 1) := by decide +kernel
theorem dX4_add_12 : decode cX4_add 12 = .ok (.aload_n 0, 1) := by decide +kernel
theorem dX4_add_13 : decode cX4_add 13 = .ok (.getfield 9, 3) := by decide +kernel
theorem dX4_add_16 : decode cX4_add 16 = .ok (.aload_n 0, 1) := by decide +kernel
theorem dX4_add_17 : decode cX4_add 17 = .ok (.getfield 22, 3) := by decide +kernel
theorem dX4_add_20 : decode cX4_add 20 = .ok (.iload_n 1, 1) := by decide +kernel
theorem dX4_add_21 : decode cX4_add 21 = .ok (.iastore, 1) := by decide +kernel
theorem dX4_add_22 : decode cX4_add 22 = .ok (.aload_n 0, 1) := by decide +kernel
theorem dX4_add_23 : decode cX4_add 23 = .ok (.getfield 15, 3) := by decide +kernel
theorem dX4_add_26 : decode cX4_add 26 = .ok (.aload_n 0, 1) := by decide +kernel
theorem dX4_add_27 : decode cX4_add 27 = .ok (.getfield 22, 3) := by decide +kernel
theorem dX4_add_30 : decode cX4_add 30 = .ok (.iload_n 2, 1) := by decide +kernel
theorem dX4_add_31 : decode cX4_add 31 = .ok (.iastore, 1) := by decide +kernel
theorem dX4_add_32 : decode cX4_add 32 = .ok (.aload_n 0, 1) := by decide +kernel
theorem dX4_add_33 : decode cX4_add 33 = .ok (.getfield 18, 3) := by decide +kernel
theorem dX4_add_36 : decode cX4_add 36 = .ok (.aload_n 0, 1) := by decide +kernel
theorem dX4_add_37 : decode cX4_add 37 = .ok (.getfield 22, 3) := by decide +kernel
theorem dX4_add_40 : decode cX4_add 40 = .ok (.iload_n 3, 1) := by decide +kernel
theorem dX4_add_41 : decode cX4_add 41 = .ok (.bastore, 1) := by decide +kernel
theorem dX4_add_42 : decode cX4_add 42 = .ok (.aload_n 0, 1) := by decide +kernel
theorem dX4_add_43 : decode cX4_add 43 = .ok (.dup, 1) := by decide +kernel
theorem dX4_add_44 : decode cX4_add 44 = .ok (.getfield 22, 3) := by decide +kernel
theorem dX4_add_47 : decode cX4_add 47 = .ok (.iconst 1, 1) := by decide +kernel
theorem dX4_add_48 : decode cX4_add 48 = .ok (.iadd, 1) := by decide +kernel
theorem dX4_add_49 : decode cX4_add 49 = .ok (.putfield 22, 3) := by decide +kernel
theorem dX4_add_52 : decode cX4_add 52 = .ok (.aload_n 0, 1) := by decide +kernel
theorem dX4_add_53 : decode cX4_add 53 = .ok (.getfield 22, 3) := by decide +kernel
theorem dX4_add_56 : decode cX4_add 56 = .ok (.ireturn, 1) := by decide +kernel
theorem dX4_fitting_0 : decode cX4_fitting 0 = .ok (.iconst 0, 1) := by decide +kernel
theorem dX4_fitting_1 : decode cX4_fitting 1 = .ok (.istore_n 2, 1) := by decide +kernel
theorem dX4_fitting_2 : decode cX4_fitting 2 = .ok (.iconst 0, 1) := by decide +kernel
theorem dX4_fitting_3 : decode cX4_fitting 3 = .ok (.istore_n 3, 1) := by decide +kernel
theorem dX4_fitting_4 : decode cX4_fitting 4 = .ok (.iload_n 3, 1) := by decide +kernel
theorem dX4_fitting_5 : decode cX4_fitting 5 = .ok (.aload_n 1, 1) := by decide +kernel
theorem dX4_fitting_6 : decode cX4_fitting 6 = .ok (.getfield 27, 3) := by decide +kernel
theorem dX4_fitting_9 : decode cX4_fitting 9 = .ok (.if_icmp .ge 24, 3) := by decide +kernel
theorem dX4_fitting_12 : decode cX4_fitting 12 = .ok (.aload_n 0, 1) := by decide +kernel
theorem dX4_fitting_13 : decode cX4_fitting 13 = .ok (.aload_n 1, 1) := by decide +kernel
theorem dX4_fitting_14 : decode cX4_fitting 14 = .ok (.iload_n 3, 1) := by decide +kernel
theorem dX4_fitting_15 : decode cX4_fitting 15 = .ok (.invokevirtual 32, 3) := by decide +kernel
theorem dX4_fitting_18 : decode cX4_fitting 18 = .ok (.ifCond .eq 9, 3) := by decide +kernel
theorem dX4_fitting_21 : decode cX4_fitting 21 = .ok (.iload_n 2, 1) := by decide +kernel
theorem dX4_fitting_22 : decode cX4_fitting 22 = .ok (.iconst 1, 1) := by decide +kernel
theorem dX4_fitting_23 : decode cX4_fitting 23 = .ok (.iload_n 3, 1) := by decide +kernel
theorem dX4_fitting_24 : decode cX4_fitting 24 = .ok (.ishl, 1) := by decide +kernel
theorem dX4_fitting_25 : decode cX4_fitting 25 = .ok (.ior, 1) := by decide +kernel
theorem dX4_fitting_26 : decode cX4_fitting 26 = .ok (.istore_n 2, 1) := by decide +kernel
theorem dX4_fitting_27 : decode cX4_fitting 27 = .ok (.iinc 3 1, 3) := by decide +kernel
theorem dX4_fitting_30 : decode cX4_fitting 30 = .ok (.goto (-26), 3) := by decide +kernel
theorem dX4_fitting_33 : decode cX4_fitting 33 = .ok (.iload_n 2, 1) := by decide +kernel
theorem dX4_fitting_34 : decode cX4_fitting 34 = .ok (.ireturn, 1) := by decide +kernel
theorem dX4_fits_0 : decode cX4_fits 0 = .ok (.iconst 0, 1) := by decide +kernel
theorem dX4_fits_1 : decode cX4_fits 1 = .ok (.istore_n 3, 1) := by decide +kernel
theorem dX4_fits_2 : decode cX4_fits 2 = .ok (.iload_n 3, 1) := by decide +kernel
theorem dX4_fits_3 : decode cX4_fits 3 = .ok (.aload_n 0, 1) := by decide +kernel
theorem dX4_fits_4 : decode cX4_fits 4 = .ok (.getfield 22, 3) := by decide +kernel
theorem dX4_fits_7 : decode cX4_fits 7 = .ok (.if_icmp .ge 49, 3) := by decide +kernel
theorem dX4_fits_10 : decode cX4_fits 10 = .ok (.aload_n 1, 1) := by decide +kernel
theorem dX4_fits_11 : decode cX4_fits 11 = .ok (.iload_n 2, 1) := by decide +kernel
theorem dX4_fits_12 : decode cX4_fits 12 = .ok (.aload_n 0, 1) := by decide +kernel
theorem dX4_fits_13 : decode cX4_fits 13 = .ok (.getfield 9, 3) := by decide +kernel
theorem dX4_fits_16 : decode cX4_fits 16 = .ok (.iload_n 3, 1) := by decide +kernel
theorem dX4_fits_17 : decode cX4_fits 17 = .ok (.iaload, 1) := by decide +kernel
theorem dX4_fits_18 : decode cX4_fits 18 = .ok (.invokevirtual 36, 3) := by decide +kernel
theorem dX4_fits_21 : decode cX4_fits 21 = .ok (.aload_n 0, 1) := by decide +kernel
theorem dX4_fits_22 : decode cX4_fits 22 = .ok (.getfield 15, 3) := by decide +kernel
theorem dX4_fits_25 : decode cX4_fits 25 = .ok (.iload_n 3, 1) := by decide +kernel
theorem dX4_fits_26 : decode cX4_fits 26 = .ok (.iaload, 1) := by decide +kernel
theorem dX4_fits_27 : decode cX4_fits 27 = .ok (.if_icmp .ne 7, 3) := by decide +kernel
theorem dX4_fits_30 : decode cX4_fits 30 = .ok (.iconst 1, 1) := by decide +kernel
theorem dX4_fits_31 : decode cX4_fits 31 = .ok (.goto 4, 3) := by decide +kernel
theorem dX4_fits_34 : decode cX4_fits 34 = .ok (.iconst 0, 1) := by decide +kernel
theorem dX4_fits_35 : decode cX4_fits 35 = .ok (.istore 4, 2) := by decide +kernel
theorem dX4_fits_37 : decode cX4_fits 37 = .ok (.iload 4, 2) := by decide +kernel
theorem dX4_fits_39 : decode cX4_fits 39 = .ok (.aload_n 0, 1) := by decide +kernel
theorem dX4_fits_40 : decode cX4_fits 40 = .ok (.getfield 18, 3) := by decide +kernel
theorem dX4_fits_43 : decode cX4_fits 43 = .ok (.iload_n 3, 1) := by decide +kernel
theorem dX4_fits_44 : decode cX4_fits 44 = .ok (.baload, 1) := by decide +kernel
theorem dX4_fits_45 : decode cX4_fits 45 = .ok (.if_icmp .eq 5, 3) := by decide +kernel
theorem dX4_fits_48 : decode cX4_fits 48 = .ok (.iconst 0, 1) := by decide +kernel
theorem dX4_fits_49 : decode cX4_fits 49 = .ok (.ireturn, 1) := by decide +kernel
theorem dX4_fits_50 : decode cX4_fits 50 = .ok (.iinc 3 1, 3) := by decide +kernel
theorem dX4_fits_53 : decode cX4_fits 53 = .ok (.goto (-51), 3) := by decide +kernel
theorem dX4_fits_56 : decode cX4_fits 56 = .ok (.iconst 1, 1) := by decide +kernel
theorem dX4_fits_57 : decode cX4_fits 57 = .ok (.ireturn, 1) := by decide +kernel
theorem dX5_init_0 : decode cX5_init 0 = .ok (.aload_n 0, 1) := by decide +kernel
theorem dX5_init_1 : decode cX5_init 1 = .ok (.invokespecial 1, 3) := by decide +kernel
theorem dX5_init_4 : decode cX5_init 4 = .ok (.aload_n 0, 1) := by decide +kernel
theorem dX5_init_5 : decode cX5_init 5 = .ok (.iconst 0, 1) := by decide +kernel
theorem dX5_init_6 : decode cX5_init 6 = .ok (.putfield 7, 3) := by decide +kernel
theorem dX5_init_9 : decode cX5_init 9 = .ok (.aload_n 0, 1) := by decide +kernel
theorem dX5_init_10 : decode cX5_init 10 = .ok (.new 13, 3) := by decide +kernel
theorem dX5_init_13 : decode cX5_init 13 = .ok (.dup, 1) := by decide +kernel
theorem dX5_init_14 : decode cX5_init 14 = .ok (.invokespecial 15, 3) := by decide +kernel
theorem dX5_init_17 : decode cX5_init 17 = .ok (.putfield 16, 3) := by decide +kernel
theorem dX5_init_20 : decode cX5_init 20 = .ok (.aload_n 0, 1) := by decide +kernel
theorem dX5_init_21 : decode cX5_init 21 = .ok (.iconst 0, 1) := by decide +kernel
theorem dX5_init_22 : decode cX5_init 22 = .ok (.putfield 20, 3) := by decide +kernel
theorem dX5_init_25 : decode cX5_init 25 = .ok (.return_, 1) := by decide +kernel
end
section
theorem dX6_init_0 : decode cX6_init 0 = .ok (.aload_n 0, 1) := by decide +kernel
theorem dX6_init_1 : decode cX6_init 1 = .ok (.invokespecial 3, 3) := by decide +kernel
theorem dX6_init_4 : decode cX6_init 4 = .ok (.aload_n 0, 1) := by decide +kernel
theorem dX6_init_5 : decode cX6_init 5 = .ok (.iconst 0, 1) := by decide +kernel
theorem dX6_init_6 : decode cX6_init 6 = .ok (.putfield 9, 3) := by decide +kernel
theorem dX6_init_9 : decode cX6_init 9 = .ok (.aload_n 0, 1) := by decide +kernel
theorem dX6_init_10 : decode cX6_init 10 = .ok (.bipush 12, 2) := by decide +kernel
theorem dX6_init_12 : decode cX6_init 12 = .ok (.newarray .int, 2) := by decide +kernel
theorem dX6_init_14 : decode cX6_init 14 = .ok (.putfield 15, 3) := by decide +kernel
theorem dX6_init_17 : decode cX6_init 17 = .ok (.aload_n 0, 1) := by decide +kernel
theorem dX6_init_18 : decode cX6_init 18 = .ok (.bipush 12, 2) := by decide +kernel
theorem dX6_init_20 : decode cX6_init 20 = .ok (.newarray .int, 2) := by decide +kernel
theorem dX6_init_22 : decode cX6_init 22 = .ok (.putfield 19, 3) := by decide +kernel
theorem dX6_init_25 : decode cX6_init 25 = .ok (.aload_n 0, 1) := by decide +kernel
theorem dX6_init_26 : decode cX6_init 26 = .ok (.iconst 5, 1) := by decide +kernel
theorem dX6_init_27 : decode cX6_init 27 = .ok (.newarray .int, 2) := by decide +kernel
theorem dX6_init_29 : decode cX6_init 29 = .ok (.putfield 22, 3) := by decide +kernel
theorem dX6_init_32 : decode cX6_init 32 = .ok (.aload_n 0, 1) := by decide +kernel
theorem dX6_init_33 : decode cX6_init 33 = .ok (.iconst 5, 1) := by decide +kernel
theorem dX6_init_34 : decode cX6_init 34 = .ok (.newarray .int, 2) := by decide +kernel
theorem dX6_init_36 : decode cX6_init 36 = .ok (.putfield 25, 3) := by decide +kernel
theorem dX6_init_39 : decode cX6_init 39 = .ok (.aload_n 0, 1) := by decide +kernel
theorem dX6_init_40 : decode cX6_init 40 = .ok (.iconst 5, 1) := by decide +kernel
theorem dX6_init_41 : decode cX6_init 41 = .ok (.newarray .int, 2) := by decide +kernel
theorem dX6_init_43 : decode cX6_init 43 = .ok (.putfield 28, 3) := by decide +kernel
theorem dX6_init_46 : decode cX6_init 46 = .ok (.aload_n 0, 1) := by decide +kernel
theorem dX6_init_47 : decode cX6_init 47 = .ok (.bipush 80, 2) := by decide +kernel
theorem dX6_init_49 : decode cX6_init 49 = .ok (.newarray .int, 2) := by decide +kernel
theorem dX6_init_51 : decode cX6_init 51 = .ok (.putfield 31, 3) := by decide +kernel
theorem dX6_init_54 : decode cX6_init 54 = .ok (.aload_n 0, 1) := by decide +kernel
theorem dX6_init_55 : decode cX6_init 55 = .ok (.iconst 0, 1) := by decide +kernel
theorem dX6_init_56 : decode cX6_init 56 = .ok (.putfield 34, 3) := by decide +kernel
theorem dX6_init_59 : decode cX6_init 59 = .ok (.aload_n 0, 1) := by decide +kernel
theorem dX6_init_60 : decode cX6_init 60 = .ok (.iconst 0, 1) := by decide +kernel
theorem dX6_init_61 : decode cX6_init 61 = .ok (.putfield 37, 3) := by decide +kernel
theorem dX6_init_64 : decode cX6_init 64 = .ok (.aload_n 0, 1) := by decide +kernel
theorem dX6_init_65 : decode cX6_init 65 = .ok (.iconst 0, 1) := by decide +kernel
theorem dX6_init_66 : decode cX6_init 66 = .ok (.putfield 40, 3) := by decide +kernel
theorem dX6_init_69 : decode cX6_init 69 = .ok (.aload_n 0, 1) := by decide +kernel
theorem dX6_init_70 : decode cX6_init 70 = .ok (.iconst 0, 1) := by decide +kernel
theorem dX6_init_71 : decode cX6_init 71 = .ok (.putfield 44, 3) := by decide +kernel
theorem dX6_init_74 : decode cX6_init 74 = .ok (.aload_n 0, 1) := by decide +kernel
theorem dX6_init_75 : decode cX6_init 75 = .ok (.iconst (-1), 1) := by decide +kernel
theorem dX6_init_76 : decode cX6_init 76 = .ok (.putfield 47, 3) := by decide +kernel
theorem dX6_init_79 : decode cX6_init 79 = .ok (.return_, 1) := by decide +kernel
theorem dX6_begin_0 : decode cX6_begin 0 = .ok (.aload_n 0, 1) := by decide +kernel
theorem dX6_begin_1 : decode cX6_begin 1 = .ok (.aload_n 1, 1) := by decide +kernel
theorem dX6_begin_2 : decode cX6_begin 2 = .ok (.getfield 50, 3) := by decide +kernel
theorem dX6_begin_5 : decode cX6_begin 5 = .ok (.putfield 9, 3) := by decide +kernel
theorem dX6_begin_8 : decode cX6_begin 8 = .ok (.aload_n 1, 1) := by decide +kernel
theorem dX6_begin_9 : decode cX6_begin 9 = .ok (.getfield 53, 3) := by decide +kernel
theorem dX6_begin_12 : decode cX6_begin 12 = .ok (.iconst 0, 1) := by decide +kernel
theorem dX6_begin_13 : decode cX6_begin 13 = .ok (.aload_n 0, 1) := by decide +kernel
theorem dX6_begin_14 : decode cX6_begin 14 = .ok (.getfield 15, 3) := by decide +kernel
theorem dX6_begin_17 : decode cX6_begin 17 = .ok (.iconst 0, 1) := by decide +kernel
theorem dX6_begin_18 : decode cX6_begin 18 = .ok (.bipush 12, 2) := by decide +kernel
theorem dX6_begin_20 : decode cX6_begin 20 = .ok (.invokestatic 54, 3) := by decide +kernel
theorem dX6_begin_23 : decode cX6_begin 23 = .ok (.aload_n 1, 1) := by decide +kernel
theorem dX6_begin_24 : decode cX6_begin 24 = .ok (.getfield 60, 3) := by decide +kernel
theorem dX6_begin_27 : decode cX6_begin 27 = .ok (.iconst 0, 1) := by decide +kernel
theorem dX6_begin_28 : decode cX6_begin 28 = .ok (.aload_n 0, 1) := by decide +kernel
theorem dX6_begin_29 : decode cX6_begin 29 = .ok (.getfield 19, 3) := by decide +kernel
theorem dX6_begin_32 : decode cX6_begin 32 = .ok (.iconst 0, 1) := by decide +kernel
theorem dX6_begin_33 : decode cX6_begin 33 = .ok (.bipush 12, 2) := by decide +kernel
theorem dX6_begin_35 : decode cX6_begin 35 = .ok (.invokestatic 54, 3) := by decide +kernel
theorem dX6_begin_38 : decode cX6_begin 38 = .ok (.iconst 0, 1) := by decide +kernel
theorem dX6_begin_39 : decode cX6_begin 39 = .ok (.istore_n 2, 1) := by decide +kernel
theorem dX6_begin_40 : decode cX6_begin 40 = .ok (.iload_n 2, 1) := by decide +kernel
theorem dX6_begin_41 : decode cX6_begin 41 = .ok (.iconst 5, 1) := by decide +kernel
theorem dX6_begin_42 : decode cX6_begin 42 = .ok (.if_icmp .ge 30, 3) := by decide +kernel
theorem dX6_begin_45 : decode cX6_begin 45 = .ok (.aload_n 0, 1) := by decide +kernel
theorem dX6_begin_46 : decode cX6_begin 46 = .ok (.getfield 22, 3) := by decide +kernel
theorem dX6_begin_49 : decode cX6_begin 49 = .ok (.iload_n 2, 1) := by decide +kernel
theorem dX6_begin_50 : decode cX6_begin 50 = .ok (.iconst 0, 1) := by decide +kernel
theorem dX6_begin_51 : decode cX6_begin 51 = .ok (.iastore, 1) := by decide +kernel
theorem dX6_begin_52 : decode cX6_begin 52 = .ok (.aload_n 0, 1) := by decide +kernel
theorem dX6_begin_53 : decode cX6_begin 53 = .ok (.getfield 25, 3) := by decide +kernel
theorem dX6_begin_56 : decode cX6_begin 56 = .ok (.iload_n 2, 1) := by decide +kernel
theorem dX6_begin_57 : decode cX6_begin 57 = .ok (.iconst 0, 1) := by decide +kernel
theorem dX6_begin_58 : decode cX6_begin 58 = .ok (.iastore, 1) := by decide +kernel
theorem dX6_begin_59 : decode cX6_begin 59 = .ok (.aload_n 0, 1) := by decide +kernel
theorem dX6_begin_60 : decode cX6_begin 60 = .ok (.getfield 28, 3) := by decide +kernel
theorem dX6_begin_63 : decode cX6_begin 63 = .ok (.iload_n 2, 1) := by decide +kernel
theorem dX6_begin_64 : decode cX6_begin 64 = .ok (.iconst 0, 1) := by decide +kernel
theorem dX6_begin_65 : decode cX6_begin 65 = .ok (.iastore, 1) := by decide +kernel
theorem dX6_begin_66 : decode cX6_begin 66 = .ok (.iinc 2 1, 3) := by decide +kernel
theorem dX6_begin_69 : decode cX6_begin 69 = .ok (.goto (-29), 3) := by decide +kernel
theorem dX6_begin_72 : decode cX6_begin 72 = .ok (.aload_n 0, 1) := by decide +kernel
theorem dX6_begin_73 : decode cX6_begin 73 = .ok (.iconst 0, 1) := by decide +kernel
theorem dX6_begin_74 : decode cX6_begin 74 = .ok (.putfield 34, 3) := by decide +kernel
theorem dX6_begin_77 : decode cX6_begin 77 = .ok (.aload_n 0, 1) := by decide +kernel
theorem dX6_begin_78 : decode cX6_begin 78 = .ok (.iconst 0, 1) := by decide +kernel
theorem dX6_begin_79 : decode cX6_begin 79 = .ok (.putfield 37, 3) := by decide +kernel
theorem dX6_begin_82 : decode cX6_begin 82 = .ok (.aload_n 0, 1) := by decide +kernel
theorem dX6_begin_83 : decode cX6_begin 83 = .ok (.iconst 0, 1) := by decide +kernel
theorem dX6_begin_84 : decode cX6_begin 84 = .ok (.putfield 40, 3) := by decide +kernel
theorem dX6_begin_87 : decode cX6_begin 87 = .ok (.aload_n 0, 1) := by decide +kernel
theorem dX6_begin_88 : decode cX6_begin 88 = .ok (.aload_n 1, 1) := by decide +kernel
theorem dX6_begin_89 : decode cX6_begin 89 = .ok (.getfield 61, 3) := by decide +kernel
theorem dX6_begin_92 : decode cX6_begin 92 = .ok (.ifCond .eq 14, 3) := by decide +kernel
theorem dX6_begin_95 : decode cX6_begin 95 = .ok (.aload_n 0, 1) := by decide +kernel
theorem dX6_begin_96 : decode cX6_begin 96 = .ok (.getfield 9, 3) := by decide +kernel
theorem dX6_begin_99 : decode cX6_begin 99 = .ok (.ifCond .ne 7, 3) := by decide +kernel
theorem dX6_begin_102 : decode cX6_begin 102 = .ok (.iconst 1, 1) := by decide +kernel
theorem dX6_begin_103 : decode cX6_begin 103 = .ok (.goto 4, 3) := by decide +kernel
theorem dX6_begin_106 : decode cX6_begin 106 = .ok (.iconst 0, 1) := by decide +kernel
theorem dX6_begin_107 : decode cX6_begin 107 = .ok (.putfield 44, 3) := by decide +kernel
theorem dX6_begin_110 : decode cX6_begin 110 = .ok (.aload_n 0, 1) := by decide +kernel
theorem dX6_begin_111 : decode cX6_begin 111 = .ok (.iconst (-1), 1) := by decide +kernel
theorem dX6_begin_112 : decode cX6_begin 112 = .ok (.putfield 47, 3) := by decide +kernel
theorem dX6_begin_115 : decode cX6_begin 115 = .ok (.return_, 1) := by decide +kernel
theorem dX6_copy_0 : decode cX6_copy 0 = .ok (.aload_n 0, 1) := by decide +kernel
theorem dX6_copy_1 : decode cX6_copy 1 = .ok (.aload_n 1, 1) := by decide +kernel
theorem dX6_copy_2 : decode cX6_copy 2 = .ok (.getfield 9, 3) := by decide +kernel
theorem dX6_copy_5 : decode cX6_copy 5 = .ok (.putfield 9, 3) := by decide +kernel
theorem dX6_copy_8 : decode cX6_copy 8 = .ok (.aload_n 1, 1) := by decide +kernel
theorem dX6_copy_9 : decode cX6_copy 9 = .ok (.getfield 15, 3) := by decide +kernel
theorem dX6_copy_12 : decode cX6_copy 12 = .ok (.iconst 0, 1) := by decide +kernel
theorem dX6_copy_13 : decode cX6_copy 13 = .ok (.aload_n 0, 1) := by decide +kernel
theorem dX6_copy_14 : decode cX6_copy 14 = .ok (.getfield 15, 3) := by decide +kernel
theorem dX6_copy_17 : decode cX6_copy 17 = .ok (.iconst 0, 1) := by decide +kernel
theorem dX6_copy_18 : decode cX6_copy 18 = .ok (.bipush 12, 2) := by decide +kernel
theorem dX6_copy_20 : decode cX6_copy 20 = .ok (.invokestatic 54, 3) := by decide +kernel
theorem dX6_copy_23 : decode cX6_copy 23 = .ok (.aload_n 1, 1) := by decide +kernel
theorem dX6_copy_24 : decode cX6_copy 24 = .ok (.getfield 19, 3) := by decide +kernel
theorem dX6_copy_27 : decode cX6_copy 27 = .ok (.iconst 0, 1) := by decide +kernel
theorem dX6_copy_28 : decode cX6_copy 28 = .ok (.aload_n 0, 1) := by decide +kernel
theorem dX6_copy_29 : decode cX6_copy 29 = .ok (.getfield 19, 3) := by decide +kernel
theorem dX6_copy_32 : decode cX6_copy 32 = .ok (.iconst 0, 1) := by decide +kernel
theorem dX6_copy_33 : decode cX6_copy 33 = .ok (.bipush 12, 2) := by decide +kernel
theorem dX6_copy_35 : decode cX6_copy 35 = .ok (.invokestatic 54, 3) := by decide +kernel
theorem dX6_copy_38 : decode cX6_copy 38 = .ok (.aload_n 1, 1) := by decide +kernel
theorem dX6_copy_39 : decode cX6_copy 39 = .ok (.getfield 22, 3) := by decide +kernel
theorem dX6_copy_42 : decode cX6_copy 42 = .ok (.iconst 0, 1) := by decide +kernel
theorem dX6_copy_43 : decode cX6_copy 43 = .ok (.aload_n 0, 1) := by decide +kernel
theorem dX6_copy_44 : decode cX6_copy 44 = .ok (.getfield 22, 3) := by decide +kernel
theorem dX6_copy_47 : decode cX6_copy 47 = .ok (.iconst 0, 1) := by decide +kernel
theorem dX6_copy_48 : decode cX6_copy 48 = .ok (.iconst 5, 1) := by decide +kernel
theorem dX6_copy_49 : decode cX6_copy 49 = .ok (.invokestatic 54, 3) := by decide +kernel
theorem dX6_copy_52 : decode cX6_copy 52 = .ok (.aload_n 1, 1) := by decide +kernel
theorem dX6_copy_53 : decode cX6_copy 53 = .ok (.getfield 25, 3) := by decide +kernel
theorem dX6_copy_56 : decode cX6_copy 56 = .ok (.iconst 0, 1) := by decide +kernel
theorem dX6_copy_57 : decode cX6_copy 57 = .ok (.aload_n 0, 1) := by decide +kernel
theorem dX6_copy_58 : decode cX6_copy 58 = .ok (.getfield 25, 3) := by decide +kernel
theorem dX6_copy_61 : decode cX6_copy 61 = .ok (.iconst 0, 1) := by decide +kernel
theorem dX6_copy_62 : decode cX6_copy 62 = .ok (.iconst 5, 1) := by decide +kernel
theorem dX6_copy_63 : decode cX6_copy 63 = .ok (.invokestatic 54, 3) := by decide +kernel
theorem dX6_copy_66 : decode cX6_copy 66 = .ok (.aload_n 1, 1) := by decide +kernel
theorem dX6_copy_67 : decode cX6_copy 67 = .ok (.getfield 28, 3) := by decide +kernel
theorem dX6_copy_70 : decode cX6_copy 70 = .ok (.iconst 0, 1) := by decide +kernel
theorem dX6_copy_71 : decode cX6_copy 71 = .ok (.aload_n 0, 1) := by decide +kernel
theorem dX6_copy_72 : decode cX6_copy 72 = .ok (.getfield 28, 3) := by decide +kernel
theorem dX6_copy_75 : decode cX6_copy 75 = .ok (.iconst 0, 1) := by decide +kernel
theorem dX6_copy_76 : decode cX6_copy 76 = .ok (.iconst 5, 1) := by decide +kernel
theorem dX6_copy_77 : decode cX6_copy 77 = .ok (.invokestatic 54, 3) := by decide +kernel
theorem dX6_copy_80 : decode cX6_copy 80 = .ok (.aload_n 1, 1) := by decide +kernel
theorem dX6_copy_81 : decode cX6_copy 81 = .ok (.getfield 31, 3) := by decide +kernel
theorem dX6_copy_84 : decode cX6_copy 84 = .ok (.iconst 0, 1) := by decide +kernel
theorem dX6_copy_85 : decode cX6_copy 85 = .ok (.aload_n 0, 1) := by decide +kernel
theorem dX6_copy_86 : decode cX6_copy 86 = .ok (.getfield 31, 3) := by decide +kernel
theorem dX6_copy_89 : decode cX6_copy 89 = .ok (.iconst 0, 1) := by decide +kernel
theorem dX6_copy_90 : decode cX6_copy 90 = .ok (.bipush 80, 2) := by decide +kernel
theorem dX6_copy_92 : decode cX6_copy 92 = .ok (.invokestatic 54, 3) := by decide +kernel
theorem dX6_copy_95 : decode cX6_copy 95 = .ok (.aload_n 0, 1) := by decide +kernel
theorem dX6_copy_96 : decode cX6_copy 96 = .ok (.aload_n 1, 1) := by decide +kernel
theorem dX6_copy_97 : decode cX6_copy 97 = .ok (.getfield 34, 3) := by decide +kernel
theorem dX6_copy_100 : decode cX6_copy 100 = .ok (.putfield 34, 3) := by decide +kernel
theorem dX6_copy_103 : decode cX6_copy 103 = .ok (.aload_n 0, 1) := by decide +kernel
theorem dX6_copy_104 : decode cX6_copy 104 = .ok (.aload_n 1, 1) := by decide +kernel
theorem dX6_copy_105 : decode cX6_copy 105 = .ok (.getfield 37, 3) := by decide +kernel
theorem dX6_copy_108 : decode cX6_copy 108 = .ok (.putfield 37, 3) := by decide +kernel
theorem dX6_copy_111 : decode cX6_copy 111 = .ok (.aload_n 0, 1) := by decide +kernel
theorem dX6_copy_112 : decode cX6_copy 112 = .ok (.aload_n 1, 1) := by decide +kernel
theorem dX6_copy_113 : decode cX6_copy 113 = .ok (.getfield 40, 3) := by decide +kernel
theorem dX6_copy_116 : decode cX6_copy 116 = .ok (.putfield 40, 3) := by decide +kernel
theorem dX6_copy_119 : decode cX6_copy 119 = .ok (.aload_n 0, 1) := by decide +kernel
theorem dX6_copy_120 : decode cX6_copy 120 = .ok (.aload_n 1, 1) := by decide +kernel
theorem dX6_copy_121 : decode cX6_copy 121 = .ok (.getfield 44, 3) := by decide +kernel
theorem dX6_copy_124 : decode cX6_copy 124 = .ok (.putfield 44, 3) := by decide +kernel
theorem dX6_copy_127 : decode cX6_copy 127 = .ok (.aload_n 0, 1) := by decide +kernel
theorem dX6_copy_128 : decode cX6_copy 128 = .ok (.aload_n 1, 1) := by decide +kernel
theorem dX6_copy_129 : decode cX6_copy 129 = .ok (.getfield 47, 3) := by decide +kernel
theorem dX6_copy_132 : decode cX6_copy 132 = .ok (.putfield 47, 3) := by decide +kernel
theorem dX6_copy_135 : decode cX6_copy 135 = .ok (.return_, 1) := by decide +kernel
theorem dX6_hasLayer_0 : decode cX6_hasLayer 0 = .ok (.iload_n 1, 1) := by decide +kernel
theorem dX6_hasLayer_1 : decode cX6_hasLayer 1 = .ok (.ifCond .lt 15, 3) := by decide +kernel
theorem dX6_hasLayer_4 : decode cX6_hasLayer 4 = .ok (.iload_n 1, 1) := by decide +kernel
theorem dX6_hasLayer_5 : decode cX6_hasLayer 5 = .ok (.aload_n 0, 1) := by decide +kernel
theorem dX6_hasLayer_6 : decode cX6_hasLayer 6 = .ok (.getfield 9, 3) := by decide +kernel
theorem dX6_hasLayer_9 : decode cX6_hasLayer 9 = .ok (.if_icmp .ge 7, 3) := by decide +kernel
theorem dX6_hasLayer_12 : decode cX6_hasLayer 12 = .ok (.iconst 1, 1) := by decide +kernel
theorem dX6_hasLayer_13 : decode cX6_hasLayer 13 = .ok (.goto 4, 3) := by decide +kernel
theorem dX6_hasLayer_16 : decode cX6_hasLayer 16 = .ok (.iconst 0, 1) := by decide +kernel
theorem dX6_hasLayer_17 : decode cX6_hasLayer 17 = .ok (.ireturn, 1) := by decide +kernel
theorem dX6_canBePeeled_0 : decode cX6_canBePeeled 0 = .ok (.aload_n 0, 1) := by decide +kernel
theorem dX6_canBePeeled_1 : decode cX6_canBePeeled 1 = .ok (.getfield 9, 3) := by decide +kernel
theorem dX6_canBePeeled_4 : decode cX6_canBePeeled 4 = .ok (.ifCond .le 14, 3) := by decide +kernel
theorem dX6_canBePeeled_7 : decode cX6_canBePeeled 7 = .ok (.aload_n 0, 1) := by decide +kernel
theorem dX6_canBePeeled_8 : decode cX6_canBePeeled 8 = .ok (.getfield 40, 3) := by decide +kernel
theorem dX6_canBePeeled_11 : decode cX6_canBePeeled 11 = .ok (.ifCond .ne 7, 3) := by decide +kernel
theorem dX6_canBePeeled_14 : decode cX6_canBePeeled 14 = .ok (.iconst 1, 1) := by decide +kernel
theorem dX6_canBePeeled_15 : decode cX6_canBePeeled 15 = .ok (.goto 4, 3) := by decide +kernel
theorem dX6_canBePeeled_18 : decode cX6_canBePeeled 18 = .ok (.iconst 0, 1) := by decide +kernel
theorem dX6_canBePeeled_19 : decode cX6_canBePeeled 19 = .ok (.ireturn, 1) := by decide +kernel
theorem dX6_worthOf_0 : decode cX6_worthOf 0 = .ok (.aload_n 0, 1) := by decide +kernel
theorem dX6_worthOf_1 : decode cX6_worthOf 1 = .ok (.iload_n 1, 1) := by decide +kernel
theorem dX6_worthOf_2 : decode cX6_worthOf 2 = .ok (.invokevirtual 64, 3) := by decide +kernel
theorem dX6_worthOf_5 : decode cX6_worthOf 5 = .ok (.ifCond .ne 5, 3) := by decide +kernel
theorem dX6_worthOf_8 : decode cX6_worthOf 8 = .ok (.iconst 0, 1) := by decide +kernel
theorem dX6_worthOf_9 : decode cX6_worthOf 9 = .ok (.ireturn, 1) := by decide +kernel
theorem dX6_worthOf_10 : decode cX6_worthOf 10 = .ok (.aload_n 0, 1) := by decide +kernel
theorem dX6_worthOf_11 : decode cX6_worthOf 11 = .ok (.getfield 15, 3) := by decide +kernel
theorem dX6_worthOf_14 : decode cX6_worthOf 14 = .ok (.iload_n 1, 1) := by decide +kernel
theorem dX6_worthOf_15 : decode cX6_worthOf 15 = .ok (.iaload, 1) := by decide +kernel
theorem dX6_worthOf_16 : decode cX6_worthOf 16 = .ok (.tableswitch 52 1 4 #[32, 41, 52, 50], 32) := by decide +kernel
theorem dX6_worthOf_48 : decode cX6_worthOf 48 = .ok (.aload_n 0, 1) := by decide +kernel
theorem dX6_worthOf_49 : decode cX6_worthOf 49 = .ok (.getfield 19, 3) := by decide +kernel
theorem dX6_worthOf_52 : decode cX6_worthOf 52 = .ok (.iload_n 1, 1) := by decide +kernel
theorem dX6_worthOf_53 : decode cX6_worthOf 53 = .ok (.iaload, 1) := by decide +kernel
theorem dX6_worthOf_54 : decode cX6_worthOf 54 = .ok (.iconst 2, 1) := by decide +kernel
theorem dX6_worthOf_55 : decode cX6_worthOf 55 = .ok (.idiv, 1) := by decide +kernel
theorem dX6_worthOf_56 : decode cX6_worthOf 56 = .ok (.ireturn, 1) := by decide +kernel
theorem dX6_worthOf_57 : decode cX6_worthOf 57 = .ok (.iconst 2, 1) := by decide +kernel
theorem dX6_worthOf_58 : decode cX6_worthOf 58 = .ok (.aload_n 0, 1) := by decide +kernel
theorem dX6_worthOf_59 : decode cX6_worthOf 59 = .ok (.getfield 19, 3) := by decide +kernel
theorem dX6_worthOf_62 : decode cX6_worthOf 62 = .ok (.iload_n 1, 1) := by decide +kernel
theorem dX6_worthOf_63 : decode cX6_worthOf 63 = .ok (.iaload, 1) := by decide +kernel
theorem dX6_worthOf_64 : decode cX6_worthOf 64 = .ok (.imul, 1) := by decide +kernel
theorem dX6_worthOf_65 : decode cX6_worthOf 65 = .ok (.ireturn, 1) := by decide +kernel
theorem dX6_worthOf_66 : decode cX6_worthOf 66 = .ok (.iconst 0, 1) := by decide +kernel
theorem dX6_worthOf_67 : decode cX6_worthOf 67 = .ok (.ireturn, 1) := by decide +kernel
theorem dX6_worthOf_68 : decode cX6_worthOf 68 = .ok (.aload_n 0, 1) := by decide +kernel
theorem dX6_worthOf_69 : decode cX6_worthOf 69 = .ok (.getfield 19, 3) := by decide +kernel
theorem dX6_worthOf_72 : decode cX6_worthOf 72 = .ok (.iload_n 1, 1) := by decide +kernel
theorem dX6_worthOf_73 : decode cX6_worthOf 73 = .ok (.iaload, 1) := by decide +kernel
theorem dX6_worthOf_74 : decode cX6_worthOf 74 = .ok (.ireturn, 1) := by decide +kernel
theorem dX6_stingOf_0 : decode cX6_stingOf 0 = .ok (.aload_n 0, 1) := by decide +kernel
theorem dX6_stingOf_1 : decode cX6_stingOf 1 = .ok (.iload_n 1, 1) := by decide +kernel
theorem dX6_stingOf_2 : decode cX6_stingOf 2 = .ok (.invokevirtual 64, 3) := by decide +kernel
theorem dX6_stingOf_5 : decode cX6_stingOf 5 = .ok (.ifCond .ne 5, 3) := by decide +kernel
theorem dX6_stingOf_8 : decode cX6_stingOf 8 = .ok (.iconst 0, 1) := by decide +kernel
theorem dX6_stingOf_9 : decode cX6_stingOf 9 = .ok (.ireturn, 1) := by decide +kernel
theorem dX6_stingOf_10 : decode cX6_stingOf 10 = .ok (.aload_n 0, 1) := by decide +kernel
theorem dX6_stingOf_11 : decode cX6_stingOf 11 = .ok (.getfield 15, 3) := by decide +kernel
theorem dX6_stingOf_14 : decode cX6_stingOf 14 = .ok (.iload_n 1, 1) := by decide +kernel
theorem dX6_stingOf_15 : decode cX6_stingOf 15 = .ok (.iaload, 1) := by decide +kernel
theorem dX6_stingOf_16 : decode cX6_stingOf 16 = .ok (.lookupswitch 39 #[(2, 28), (4, 37)], 28) := by decide +kernel
theorem dX6_stingOf_44 : decode cX6_stingOf 44 = .ok (.iconst 2, 1) := by decide +kernel
theorem dX6_stingOf_45 : decode cX6_stingOf 45 = .ok (.aload_n 0, 1) := by decide +kernel
theorem dX6_stingOf_46 : decode cX6_stingOf 46 = .ok (.getfield 19, 3) := by decide +kernel
theorem dX6_stingOf_49 : decode cX6_stingOf 49 = .ok (.iload_n 1, 1) := by decide +kernel
theorem dX6_stingOf_50 : decode cX6_stingOf 50 = .ok (.iaload, 1) := by decide +kernel
theorem dX6_stingOf_51 : decode cX6_stingOf 51 = .ok (.imul, 1) := by decide +kernel
theorem dX6_stingOf_52 : decode cX6_stingOf 52 = .ok (.ireturn, 1) := by decide +kernel
theorem dX6_stingOf_53 : decode cX6_stingOf 53 = .ok (.iconst 0, 1) := by decide +kernel
theorem dX6_stingOf_54 : decode cX6_stingOf 54 = .ok (.ireturn, 1) := by decide +kernel
theorem dX6_stingOf_55 : decode cX6_stingOf 55 = .ok (.aload_n 0, 1) := by decide +kernel
theorem dX6_stingOf_56 : decode cX6_stingOf 56 = .ok (.getfield 19, 3) := by decide +kernel
theorem dX6_stingOf_59 : decode cX6_stingOf 59 = .ok (.iload_n 1, 1) := by decide +kernel
theorem dX6_stingOf_60 : decode cX6_stingOf 60 = .ok (.iaload, 1) := by decide +kernel
theorem dX6_stingOf_61 : decode cX6_stingOf 61 = .ok (.ireturn, 1) := by decide +kernel
theorem dX6_worthBetween_0 : decode cX6_worthBetween 0 = .ok (.iconst 0, 1) := by decide +kernel
theorem dX6_worthBetween_1 : decode cX6_worthBetween 1 = .ok (.istore_n 3, 1) := by decide +kernel
theorem dX6_worthBetween_2 : decode cX6_worthBetween 2 = .ok (.iload_n 1, 1) := by decide +kernel
theorem dX6_worthBetween_3 : decode cX6_worthBetween 3 = .ok (.istore 4, 2) := by decide +kernel
theorem dX6_worthBetween_5 : decode cX6_worthBetween 5 = .ok (.iload 4, 2) := by decide +kernel
theorem dX6_worthBetween_7 : decode cX6_worthBetween 7 = .ok (.iload_n 2, 1) := by decide +kernel
theorem dX6_worthBetween_8 : decode cX6_worthBetween 8 = .ok (.if_icmp .ge 18, 3) := by decide +kernel
theorem dX6_worthBetween_11 : decode cX6_worthBetween 11 = .ok (.iload_n 3, 1) := by decide +kernel
theorem dX6_worthBetween_12 : decode cX6_worthBetween 12 = .ok (.aload_n 0, 1) := by decide +kernel
theorem dX6_worthBetween_13 : decode cX6_worthBetween 13 = .ok (.iload 4, 2) := by decide +kernel
theorem dX6_worthBetween_15 : decode cX6_worthBetween 15 = .ok (.invokevirtual 68, 3) := by decide +kernel
theorem dX6_worthBetween_18 : decode cX6_worthBetween 18 = .ok (.iadd, 1) := by decide +kernel
theorem dX6_worthBetween_19 : decode cX6_worthBetween 19 = .ok (.istore_n 3, 1) := by decide +kernel
theorem dX6_worthBetween_20 : decode cX6_worthBetween 20 = .ok (.iinc 4 1, 3) := by decide +kernel
theorem dX6_worthBetween_23 : decode cX6_worthBetween 23 = .ok (.goto (-18), 3) := by decide +kernel
theorem dX6_worthBetween_26 : decode cX6_worthBetween 26 = .ok (.iload_n 3, 1) := by decide +kernel
theorem dX6_worthBetween_27 : decode cX6_worthBetween 27 = .ok (.ireturn, 1) := by decide +kernel
theorem dX6_takeOff_0 : decode cX6_takeOff 0 = .ok (.aload_n 0, 1) := by decide +kernel
theorem dX6_takeOff_1 : decode cX6_takeOff 1 = .ok (.getfield 9, 3) := by decide +kernel
theorem dX6_takeOff_4 : decode cX6_takeOff 4 = .ok (.iconst 1, 1) := by decide +kernel
theorem dX6_takeOff_5 : decode cX6_takeOff 5 = .ok (.if_icmp .lt 12, 3) := by decide +kernel
theorem dX6_takeOff_8 : decode cX6_takeOff 8 = .ok (.iload_n 1, 1) := by decide +kernel
theorem dX6_takeOff_9 : decode cX6_takeOff 9 = .ok (.ifCond .lt 8, 3) := by decide +kernel
theorem dX6_takeOff_12 : decode cX6_takeOff 12 = .ok (.iload_n 1, 1) := by decide +kernel
theorem dX6_takeOff_13 : decode cX6_takeOff 13 = .ok (.iconst 5, 1) := by decide +kernel
theorem dX6_takeOff_14 : decode cX6_takeOff 14 = .ok (.if_icmp .lt 5, 3) := by decide +kernel
theorem dX6_takeOff_17 : decode cX6_takeOff 17 = .ok (.iconst 0, 1) := by decide +kernel
theorem dX6_takeOff_18 : decode cX6_takeOff 18 = .ok (.ireturn, 1) := by decide +kernel
theorem dX6_takeOff_19 : decode cX6_takeOff 19 = .ok (.aload_n 0, 1) := by decide +kernel
theorem dX6_takeOff_20 : decode cX6_takeOff 20 = .ok (.iconst 0, 1) := by decide +kernel
theorem dX6_takeOff_21 : decode cX6_takeOff 21 = .ok (.invokevirtual 68, 3) := by decide +kernel
theorem dX6_takeOff_24 : decode cX6_takeOff 24 = .ok (.istore_n 3, 1) := by decide +kernel
theorem dX6_takeOff_25 : decode cX6_takeOff 25 = .ok (.aload_n 0, 1) := by decide +kernel
theorem dX6_takeOff_26 : decode cX6_takeOff 26 = .ok (.getfield 22, 3) := by decide +kernel
theorem dX6_takeOff_29 : decode cX6_takeOff 29 = .ok (.iload_n 1, 1) := by decide +kernel
theorem dX6_takeOff_30 : decode cX6_takeOff 30 = .ok (.sipush 9999, 3) := by decide +kernel
theorem dX6_takeOff_33 : decode cX6_takeOff 33 = .ok (.aload_n 0, 1) := by decide +kernel
theorem dX6_takeOff_34 : decode cX6_takeOff 34 = .ok (.getfield 22, 3) := by decide +kernel
theorem dX6_takeOff_37 : decode cX6_takeOff 37 = .ok (.iload_n 1, 1) := by decide +kernel
theorem dX6_takeOff_38 : decode cX6_takeOff 38 = .ok (.iaload, 1) := by decide +kernel
theorem dX6_takeOff_39 : decode cX6_takeOff 39 = .ok (.iload_n 3, 1) := by decide +kernel
theorem dX6_takeOff_40 : decode cX6_takeOff 40 = .ok (.iadd, 1) := by decide +kernel
theorem dX6_takeOff_41 : decode cX6_takeOff 41 = .ok (.invokestatic 72, 3) := by decide +kernel
theorem dX6_takeOff_44 : decode cX6_takeOff 44 = .ok (.iastore, 1) := by decide +kernel
theorem dX6_takeOff_45 : decode cX6_takeOff 45 = .ok (.aload_n 0, 1) := by decide +kernel
theorem dX6_takeOff_46 : decode cX6_takeOff 46 = .ok (.getfield 25, 3) := by decide +kernel
theorem dX6_takeOff_49 : decode cX6_takeOff 49 = .ok (.iload_n 1, 1) := by decide +kernel
theorem dX6_takeOff_50 : decode cX6_takeOff 50 = .ok (.sipush 9999, 3) := by decide +kernel
theorem dX6_takeOff_53 : decode cX6_takeOff 53 = .ok (.aload_n 0, 1) := by decide +kernel
theorem dX6_takeOff_54 : decode cX6_takeOff 54 = .ok (.getfield 25, 3) := by decide +kernel
theorem dX6_takeOff_57 : decode cX6_takeOff 57 = .ok (.iload_n 1, 1) := by decide +kernel
theorem dX6_takeOff_58 : decode cX6_takeOff 58 = .ok (.iaload, 1) := by decide +kernel
theorem dX6_takeOff_59 : decode cX6_takeOff 59 = .ok (.aload_n 0, 1) := by decide +kernel
theorem dX6_takeOff_60 : decode cX6_takeOff 60 = .ok (.iconst 0, 1) := by decide +kernel
theorem dX6_takeOff_61 : decode cX6_takeOff 61 = .ok (.invokevirtual 78, 3) := by decide +kernel
theorem dX6_takeOff_64 : decode cX6_takeOff 64 = .ok (.iadd, 1) := by decide +kernel
theorem dX6_takeOff_65 : decode cX6_takeOff 65 = .ok (.iload_n 2, 1) := by decide +kernel
theorem dX6_takeOff_66 : decode cX6_takeOff 66 = .ok (.iadd, 1) := by decide +kernel
theorem dX6_takeOff_67 : decode cX6_takeOff 67 = .ok (.invokestatic 72, 3) := by decide +kernel
theorem dX6_takeOff_70 : decode cX6_takeOff 70 = .ok (.iastore, 1) := by decide +kernel
theorem dX6_takeOff_71 : decode cX6_takeOff 71 = .ok (.aload_n 0, 1) := by decide +kernel
theorem dX6_takeOff_72 : decode cX6_takeOff 72 = .ok (.getfield 28, 3) := by decide +kernel
theorem dX6_takeOff_75 : decode cX6_takeOff 75 = .ok (.iload_n 1, 1) := by decide +kernel
theorem dX6_takeOff_76 : decode cX6_takeOff 76 = .ok (.dup2, 1) := by decide +kernel
theorem dX6_takeOff_77 : decode cX6_takeOff 77 = .ok (.iaload, 1) := by decide +kernel
theorem dX6_takeOff_78 : decode cX6_takeOff 78 = .ok (.iconst 1, 1) := by decide +kernel
theorem dX6_takeOff_79 : decode cX6_takeOff 79 = .ok (.iadd, 1) := by decide +kernel
theorem dX6_takeOff_80 : decode cX6_takeOff 80 = .ok (.iastore, 1) := by decide +kernel
theorem dX6_takeOff_81 : decode cX6_takeOff 81 = .ok (.aload_n 0, 1) := by decide +kernel
theorem dX6_takeOff_82 : decode cX6_takeOff 82 = .ok (.getfield 15, 3) := by decide +kernel
theorem dX6_takeOff_85 : decode cX6_takeOff 85 = .ok (.iconst 0, 1) := by decide +kernel
theorem dX6_takeOff_86 : decode cX6_takeOff 86 = .ok (.iaload, 1) := by decide +kernel
theorem dX6_takeOff_87 : decode cX6_takeOff 87 = .ok (.iconst 4, 1) := by decide +kernel
theorem dX6_takeOff_88 : decode cX6_takeOff 88 = .ok (.if_icmp .ne 44, 3) := by decide +kernel
theorem dX6_takeOff_91 : decode cX6_takeOff 91 = .ok (.aload_n 0, 1) := by decide +kernel
theorem dX6_takeOff_92 : decode cX6_takeOff 92 = .ok (.getfield 47, 3) := by decide +kernel
theorem dX6_takeOff_95 : decode cX6_takeOff 95 = .ok (.ifCond .lt 37, 3) := by decide +kernel
theorem dX6_takeOff_98 : decode cX6_takeOff 98 = .ok (.aload_n 0, 1) := by decide +kernel
theorem dX6_takeOff_99 : decode cX6_takeOff 99 = .ok (.getfield 47, 3) := by decide +kernel
theorem dX6_takeOff_102 : decode cX6_takeOff 102 = .ok (.iconst 5, 1) := by decide +kernel
theorem dX6_takeOff_103 : decode cX6_takeOff 103 = .ok (.if_icmp .ge 29, 3) := by decide +kernel
theorem dX6_takeOff_106 : decode cX6_takeOff 106 = .ok (.aload_n 0, 1) := by decide +kernel
theorem dX6_takeOff_107 : decode cX6_takeOff 107 = .ok (.getfield 22, 3) := by decide +kernel
theorem dX6_takeOff_110 : decode cX6_takeOff 110 = .ok (.aload_n 0, 1) := by decide +kernel
theorem dX6_takeOff_111 : decode cX6_takeOff 111 = .ok (.getfield 47, 3) := by decide +kernel
theorem dX6_takeOff_114 : decode cX6_takeOff 114 = .ok (.sipush 9999, 3) := by decide +kernel
theorem dX6_takeOff_117 : decode cX6_takeOff 117 = .ok (.aload_n 0, 1) := by decide +kernel
theorem dX6_takeOff_118 : decode cX6_takeOff 118 = .ok (.getfield 22, 3) := by decide +kernel
theorem dX6_takeOff_121 : decode cX6_takeOff 121 = .ok (.aload_n 0, 1) := by decide +kernel
theorem dX6_takeOff_122 : decode cX6_takeOff 122 = .ok (.getfield 47, 3) := by decide +kernel
theorem dX6_takeOff_125 : decode cX6_takeOff 125 = .ok (.iaload, 1) := by decide +kernel
theorem dX6_takeOff_126 : decode cX6_takeOff 126 = .ok (.iconst 5, 1) := by decide +kernel
theorem dX6_takeOff_127 : decode cX6_takeOff 127 = .ok (.iadd, 1) := by decide +kernel
theorem dX6_takeOff_128 : decode cX6_takeOff 128 = .ok (.invokestatic 72, 3) := by decide +kernel
theorem dX6_takeOff_131 : decode cX6_takeOff 131 = .ok (.iastore, 1) := by decide +kernel
theorem dX6_takeOff_132 : decode cX6_takeOff 132 = .ok (.aload_n 0, 1) := by decide +kernel
theorem dX6_takeOff_133 : decode cX6_takeOff 133 = .ok (.iload_n 1, 1) := by decide +kernel
theorem dX6_takeOff_134 : decode cX6_takeOff 134 = .ok (.putfield 47, 3) := by decide +kernel
theorem dX6_takeOff_137 : decode cX6_takeOff 137 = .ok (.aload_n 0, 1) := by decide +kernel
theorem dX6_takeOff_138 : decode cX6_takeOff 138 = .ok (.iload_n 1, 1) := by decide +kernel
theorem dX6_takeOff_139 : decode cX6_takeOff 139 = .ok (.invokevirtual 81, 3) := by decide +kernel
theorem dX6_takeOff_142 : decode cX6_takeOff 142 = .ok (.aload_n 0, 1) := by decide +kernel
theorem dX6_takeOff_143 : decode cX6_takeOff 143 = .ok (.dup, 1) := by decide +kernel
theorem dX6_takeOff_144 : decode cX6_takeOff 144 = .ok (.getfield 9, 3) := by decide +kernel
theorem dX6_takeOff_147 : decode cX6_takeOff 147 = .ok (.iconst 1, 1) := by decide +kernel
theorem dX6_takeOff_148 : decode cX6_takeOff 148 = .ok (.isub, 1) := by decide +kernel
theorem dX6_takeOff_149 : decode cX6_takeOff 149 = .ok (.putfield 9, 3) := by decide +kernel
theorem dX6_takeOff_152 : decode cX6_takeOff 152 = .ok (.aload_n 0, 1) := by decide +kernel
theorem dX6_takeOff_153 : decode cX6_takeOff 153 = .ok (.getfield 15, 3) := by decide +kernel
theorem dX6_takeOff_156 : decode cX6_takeOff 156 = .ok (.iconst 1, 1) := by decide +kernel
theorem dX6_takeOff_157 : decode cX6_takeOff 157 = .ok (.aload_n 0, 1) := by decide +kernel
theorem dX6_takeOff_158 : decode cX6_takeOff 158 = .ok (.getfield 15, 3) := by decide +kernel
theorem dX6_takeOff_161 : decode cX6_takeOff 161 = .ok (.iconst 0, 1) := by decide +kernel
theorem dX6_takeOff_162 : decode cX6_takeOff 162 = .ok (.bipush 11, 2) := by decide +kernel
theorem dX6_takeOff_164 : decode cX6_takeOff 164 = .ok (.invokestatic 54, 3) := by decide +kernel
theorem dX6_takeOff_167 : decode cX6_takeOff 167 = .ok (.aload_n 0, 1) := by decide +kernel
theorem dX6_takeOff_168 : decode cX6_takeOff 168 = .ok (.getfield 19, 3) := by decide +kernel
theorem dX6_takeOff_171 : decode cX6_takeOff 171 = .ok (.iconst 1, 1) := by decide +kernel
theorem dX6_takeOff_172 : decode cX6_takeOff 172 = .ok (.aload_n 0, 1) := by decide +kernel
theorem dX6_takeOff_173 : decode cX6_takeOff 173 = .ok (.getfield 19, 3) := by decide +kernel
theorem dX6_takeOff_176 : decode cX6_takeOff 176 = .ok (.iconst 0, 1) := by decide +kernel
theorem dX6_takeOff_177 : decode cX6_takeOff 177 = .ok (.bipush 11, 2) := by decide +kernel
theorem dX6_takeOff_179 : decode cX6_takeOff 179 = .ok (.invokestatic 54, 3) := by decide +kernel
theorem dX6_takeOff_182 : decode cX6_takeOff 182 = .ok (.aload_n 0, 1) := by decide +kernel
theorem dX6_takeOff_183 : decode cX6_takeOff 183 = .ok (.getfield 9, 3) := by decide +kernel
theorem dX6_takeOff_186 : decode cX6_takeOff 186 = .ok (.ifCond .ne 8, 3) := by decide +kernel
theorem dX6_takeOff_189 : decode cX6_takeOff 189 = .ok (.aload_n 0, 1) := by decide +kernel
theorem dX6_takeOff_190 : decode cX6_takeOff 190 = .ok (.iconst 1, 1) := by decide +kernel
theorem dX6_takeOff_191 : decode cX6_takeOff 191 = .ok (.putfield 44, 3) := by decide +kernel
theorem dX6_takeOff_194 : decode cX6_takeOff 194 = .ok (.iload_n 3, 1) := by decide +kernel
theorem dX6_takeOff_195 : decode cX6_takeOff 195 = .ok (.ireturn, 1) := by decide +kernel
theorem dX6_enter_0 : decode cX6_enter 0 = .ok (.aload_n 0, 1) := by decide +kernel
theorem dX6_enter_1 : decode cX6_enter 1 = .ok (.getfield 31, 3) := by decide +kernel
theorem dX6_enter_4 : decode cX6_enter 4 = .ok (.iconst 0, 1) := by decide +kernel
theorem dX6_enter_5 : decode cX6_enter 5 = .ok (.aload_n 0, 1) := by decide +kernel
theorem dX6_enter_6 : decode cX6_enter 6 = .ok (.getfield 31, 3) := by decide +kernel
theorem dX6_enter_9 : decode cX6_enter 9 = .ok (.iconst 4, 1) := by decide +kernel
theorem dX6_enter_10 : decode cX6_enter 10 = .ok (.bipush 76, 2) := by decide +kernel
theorem dX6_enter_12 : decode cX6_enter 12 = .ok (.invokestatic 54, 3) := by decide +kernel
theorem dX6_enter_15 : decode cX6_enter 15 = .ok (.aload_n 0, 1) := by decide +kernel
theorem dX6_enter_16 : decode cX6_enter 16 = .ok (.getfield 31, 3) := by decide +kernel
theorem dX6_enter_19 : decode cX6_enter 19 = .ok (.iconst 0, 1) := by decide +kernel
theorem dX6_enter_20 : decode cX6_enter 20 = .ok (.aload_n 0, 1) := by decide +kernel
theorem dX6_enter_21 : decode cX6_enter 21 = .ok (.getfield 37, 3) := by decide +kernel
theorem dX6_enter_24 : decode cX6_enter 24 = .ok (.iastore, 1) := by decide +kernel
theorem dX6_enter_25 : decode cX6_enter 25 = .ok (.aload_n 0, 1) := by decide +kernel
theorem dX6_enter_26 : decode cX6_enter 26 = .ok (.getfield 31, 3) := by decide +kernel
theorem dX6_enter_29 : decode cX6_enter 29 = .ok (.iconst 1, 1) := by decide +kernel
theorem dX6_enter_30 : decode cX6_enter 30 = .ok (.iload_n 1, 1) := by decide +kernel
theorem dX6_enter_31 : decode cX6_enter 31 = .ok (.iastore, 1) := by decide +kernel
theorem dX6_enter_32 : decode cX6_enter 32 = .ok (.aload_n 0, 1) := by decide +kernel
theorem dX6_enter_33 : decode cX6_enter 33 = .ok (.getfield 31, 3) := by decide +kernel
theorem dX6_enter_36 : decode cX6_enter 36 = .ok (.iconst 2, 1) := by decide +kernel
theorem dX6_enter_37 : decode cX6_enter 37 = .ok (.aload_n 0, 1) := by decide +kernel
theorem dX6_enter_38 : decode cX6_enter 38 = .ok (.getfield 15, 3) := by decide +kernel
theorem dX6_enter_41 : decode cX6_enter 41 = .ok (.iconst 0, 1) := by decide +kernel
theorem dX6_enter_42 : decode cX6_enter 42 = .ok (.iaload, 1) := by decide +kernel
theorem dX6_enter_43 : decode cX6_enter 43 = .ok (.iastore, 1) := by decide +kernel
theorem dX6_enter_44 : decode cX6_enter 44 = .ok (.aload_n 0, 1) := by decide +kernel
theorem dX6_enter_45 : decode cX6_enter 45 = .ok (.getfield 31, 3) := by decide +kernel
theorem dX6_enter_48 : decode cX6_enter 48 = .ok (.iconst 3, 1) := by decide +kernel
theorem dX6_enter_49 : decode cX6_enter 49 = .ok (.aload_n 0, 1) := by decide +kernel
theorem dX6_enter_50 : decode cX6_enter 50 = .ok (.getfield 19, 3) := by decide +kernel
theorem dX6_enter_53 : decode cX6_enter 53 = .ok (.iconst 0, 1) := by decide +kernel
theorem dX6_enter_54 : decode cX6_enter 54 = .ok (.iaload, 1) := by decide +kernel
theorem dX6_enter_55 : decode cX6_enter 55 = .ok (.iastore, 1) := by decide +kernel
theorem dX6_enter_56 : decode cX6_enter 56 = .ok (.aload_n 0, 1) := by decide +kernel
theorem dX6_enter_57 : decode cX6_enter 57 = .ok (.bipush 20, 2) := by decide +kernel
theorem dX6_enter_59 : decode cX6_enter 59 = .ok (.aload_n 0, 1) := by decide +kernel
theorem dX6_enter_60 : decode cX6_enter 60 = .ok (.getfield 34, 3) := by decide +kernel
theorem dX6_enter_63 : decode cX6_enter 63 = .ok (.iconst 1, 1) := by decide +kernel
theorem dX6_enter_64 : decode cX6_enter 64 = .ok (.iadd, 1) := by decide +kernel
theorem dX6_enter_65 : decode cX6_enter 65 = .ok (.invokestatic 72, 3) := by decide +kernel
theorem dX6_enter_68 : decode cX6_enter 68 = .ok (.putfield 34, 3) := by decide +kernel
theorem dX6_enter_71 : decode cX6_enter 71 = .ok (.return_, 1) := by decide +kernel
theorem dX6_thicken_0 : decode cX6_thicken 0 = .ok (.aload_n 0, 1) := by decide +kernel
theorem dX6_thicken_1 : decode cX6_thicken 1 = .ok (.getfield 9, 3) := by decide +kernel
theorem dX6_thicken_4 : decode cX6_thicken 4 = .ok (.iconst 1, 1) := by decide +kernel
theorem dX6_thicken_5 : decode cX6_thicken 5 = .ok (.if_icmp .ge 4, 3) := by decide +kernel
theorem dX6_thicken_8 : decode cX6_thicken 8 = .ok (.return_, 1) := by decide +kernel
theorem dX6_thicken_9 : decode cX6_thicken 9 = .ok (.aload_n 0, 1) := by decide +kernel
theorem dX6_thicken_10 : decode cX6_thicken 10 = .ok (.getfield 19, 3) := by decide +kernel
theorem dX6_thicken_13 : decode cX6_thicken 13 = .ok (.iconst 0, 1) := by decide +kernel
theorem dX6_thicken_14 : decode cX6_thicken 14 = .ok (.iaload, 1) := by decide +kernel
theorem dX6_thicken_15 : decode cX6_thicken 15 = .ok (.bipush 20, 2) := by decide +kernel
theorem dX6_thicken_17 : decode cX6_thicken 17 = .ok (.if_icmp .ge 16, 3) := by decide +kernel
theorem dX6_thicken_20 : decode cX6_thicken 20 = .ok (.aload_n 0, 1) := by decide +kernel
theorem dX6_thicken_21 : decode cX6_thicken 21 = .ok (.getfield 19, 3) := by decide +kernel
theorem dX6_thicken_24 : decode cX6_thicken 24 = .ok (.iconst 0, 1) := by decide +kernel
theorem dX6_thicken_25 : decode cX6_thicken 25 = .ok (.dup2, 1) := by decide +kernel
theorem dX6_thicken_26 : decode cX6_thicken 26 = .ok (.iaload, 1) := by decide +kernel
theorem dX6_thicken_27 : decode cX6_thicken 27 = .ok (.iconst 1, 1) := by decide +kernel
theorem dX6_thicken_28 : decode cX6_thicken 28 = .ok (.iadd, 1) := by decide +kernel
theorem dX6_thicken_29 : decode cX6_thicken 29 = .ok (.iastore, 1) := by decide +kernel
theorem dX6_thicken_30 : decode cX6_thicken 30 = .ok (.goto 66, 3) := by decide +kernel
theorem dX6_thicken_33 : decode cX6_thicken 33 = .ok (.aload_n 0, 1) := by decide +kernel
theorem dX6_thicken_34 : decode cX6_thicken 34 = .ok (.getfield 9, 3) := by decide +kernel
theorem dX6_thicken_37 : decode cX6_thicken 37 = .ok (.bipush 12, 2) := by decide +kernel
theorem dX6_thicken_39 : decode cX6_thicken 39 = .ok (.if_icmp .ge 57, 3) := by decide +kernel
theorem dX6_thicken_42 : decode cX6_thicken 42 = .ok (.aload_n 0, 1) := by decide +kernel
theorem dX6_thicken_43 : decode cX6_thicken 43 = .ok (.getfield 15, 3) := by decide +kernel
theorem dX6_thicken_46 : decode cX6_thicken 46 = .ok (.iconst 0, 1) := by decide +kernel
theorem dX6_thicken_47 : decode cX6_thicken 47 = .ok (.aload_n 0, 1) := by decide +kernel
theorem dX6_thicken_48 : decode cX6_thicken 48 = .ok (.getfield 15, 3) := by decide +kernel
theorem dX6_thicken_51 : decode cX6_thicken 51 = .ok (.iconst 1, 1) := by decide +kernel
theorem dX6_thicken_52 : decode cX6_thicken 52 = .ok (.bipush 11, 2) := by decide +kernel
theorem dX6_thicken_54 : decode cX6_thicken 54 = .ok (.invokestatic 54, 3) := by decide +kernel
theorem dX6_thicken_57 : decode cX6_thicken 57 = .ok (.aload_n 0, 1) := by decide +kernel
theorem dX6_thicken_58 : decode cX6_thicken 58 = .ok (.getfield 19, 3) := by decide +kernel
theorem dX6_thicken_61 : decode cX6_thicken 61 = .ok (.iconst 0, 1) := by decide +kernel
theorem dX6_thicken_62 : decode cX6_thicken 62 = .ok (.aload_n 0, 1) := by decide +kernel
theorem dX6_thicken_63 : decode cX6_thicken 63 = .ok (.getfield 19, 3) := by decide +kernel
theorem dX6_thicken_66 : decode cX6_thicken 66 = .ok (.iconst 1, 1) := by decide +kernel
theorem dX6_thicken_67 : decode cX6_thicken 67 = .ok (.bipush 11, 2) := by decide +kernel
theorem dX6_thicken_69 : decode cX6_thicken 69 = .ok (.invokestatic 54, 3) := by decide +kernel
theorem dX6_thicken_72 : decode cX6_thicken 72 = .ok (.aload_n 0, 1) := by decide +kernel
theorem dX6_thicken_73 : decode cX6_thicken 73 = .ok (.getfield 15, 3) := by decide +kernel
theorem dX6_thicken_76 : decode cX6_thicken 76 = .ok (.iconst 0, 1) := by decide +kernel
theorem dX6_thicken_77 : decode cX6_thicken 77 = .ok (.iconst 2, 1) := by decide +kernel
theorem dX6_thicken_78 : decode cX6_thicken 78 = .ok (.iastore, 1) := by decide +kernel
theorem dX6_thicken_79 : decode cX6_thicken 79 = .ok (.aload_n 0, 1) := by decide +kernel
theorem dX6_thicken_80 : decode cX6_thicken 80 = .ok (.getfield 19, 3) := by decide +kernel
theorem dX6_thicken_83 : decode cX6_thicken 83 = .ok (.iconst 0, 1) := by decide +kernel
theorem dX6_thicken_84 : decode cX6_thicken 84 = .ok (.iconst 1, 1) := by decide +kernel
theorem dX6_thicken_85 : decode cX6_thicken 85 = .ok (.iastore, 1) := by decide +kernel
theorem dX6_thicken_86 : decode cX6_thicken 86 = .ok (.aload_n 0, 1) := by decide +kernel
theorem dX6_thicken_87 : decode cX6_thicken 87 = .ok (.dup, 1) := by decide +kernel
theorem dX6_thicken_88 : decode cX6_thicken 88 = .ok (.getfield 9, 3) := by decide +kernel
theorem dX6_thicken_91 : decode cX6_thicken 91 = .ok (.iconst 1, 1) := by decide +kernel
theorem dX6_thicken_92 : decode cX6_thicken 92 = .ok (.iadd, 1) := by decide +kernel
theorem dX6_thicken_93 : decode cX6_thicken 93 = .ok (.putfield 9, 3) := by decide +kernel
theorem dX6_thicken_96 : decode cX6_thicken 96 = .ok (.return_, 1) := by decide +kernel
theorem dX6_passYear_0 : decode cX6_passYear 0 = .ok (.iconst 0, 1) := by decide +kernel
theorem dX6_passYear_1 : decode cX6_passYear 1 = .ok (.istore_n 2, 1) := by decide +kernel
theorem dX6_passYear_2 : decode cX6_passYear 2 = .ok (.iload_n 2, 1) := by decide +kernel
theorem dX6_passYear_3 : decode cX6_passYear 3 = .ok (.aload_n 0, 1) := by decide +kernel
theorem dX6_passYear_4 : decode cX6_passYear 4 = .ok (.getfield 9, 3) := by decide +kernel
theorem dX6_passYear_7 : decode cX6_passYear 7 = .ok (.if_icmp .ge 38, 3) := by decide +kernel
theorem dX6_passYear_10 : decode cX6_passYear 10 = .ok (.aload_n 0, 1) := by decide +kernel
theorem dX6_passYear_11 : decode cX6_passYear 11 = .ok (.getfield 15, 3) := by decide +kernel
theorem dX6_passYear_14 : decode cX6_passYear 14 = .ok (.iload_n 2, 1) := by decide +kernel
theorem dX6_passYear_15 : decode cX6_passYear 15 = .ok (.iaload, 1) := by decide +kernel
theorem dX6_passYear_16 : decode cX6_passYear 16 = .ok (.iconst 3, 1) := by decide +kernel
theorem dX6_passYear_17 : decode cX6_passYear 17 = .ok (.if_icmp .ne 22, 3) := by decide +kernel
theorem dX6_passYear_20 : decode cX6_passYear 20 = .ok (.aload_n 0, 1) := by decide +kernel
theorem dX6_passYear_21 : decode cX6_passYear 21 = .ok (.getfield 19, 3) := by decide +kernel
theorem dX6_passYear_24 : decode cX6_passYear 24 = .ok (.iload_n 2, 1) := by decide +kernel
theorem dX6_passYear_25 : decode cX6_passYear 25 = .ok (.bipush 20, 2) := by decide +kernel
theorem dX6_passYear_27 : decode cX6_passYear 27 = .ok (.aload_n 0, 1) := by decide +kernel
theorem dX6_passYear_28 : decode cX6_passYear 28 = .ok (.getfield 19, 3) := by decide +kernel
theorem dX6_passYear_31 : decode cX6_passYear 31 = .ok (.iload_n 2, 1) := by decide +kernel
theorem dX6_passYear_32 : decode cX6_passYear 32 = .ok (.iaload, 1) := by decide +kernel
theorem dX6_passYear_33 : decode cX6_passYear 33 = .ok (.iconst 1, 1) := by decide +kernel
theorem dX6_passYear_34 : decode cX6_passYear 34 = .ok (.iadd, 1) := by decide +kernel
theorem dX6_passYear_35 : decode cX6_passYear 35 = .ok (.invokestatic 72, 3) := by decide +kernel
theorem dX6_passYear_38 : decode cX6_passYear 38 = .ok (.iastore, 1) := by decide +kernel
theorem dX6_passYear_39 : decode cX6_passYear 39 = .ok (.iinc 2 1, 3) := by decide +kernel
theorem dX6_passYear_42 : decode cX6_passYear 42 = .ok (.goto (-40), 3) := by decide +kernel
theorem dX6_passYear_45 : decode cX6_passYear 45 = .ok (.iconst 0, 1) := by decide +kernel
theorem dX6_passYear_46 : decode cX6_passYear 46 = .ok (.istore_n 2, 1) := by decide +kernel
theorem dX6_passYear_47 : decode cX6_passYear 47 = .ok (.iload_n 2, 1) := by decide +kernel
theorem dX6_passYear_48 : decode cX6_passYear 48 = .ok (.aload_n 1, 1) := by decide +kernel
theorem dX6_passYear_49 : decode cX6_passYear 49 = .ok (.getfield 85, 3) := by decide +kernel
theorem dX6_passYear_52 : decode cX6_passYear 52 = .ok (.if_icmp .ge 32, 3) := by decide +kernel
theorem dX6_passYear_55 : decode cX6_passYear 55 = .ok (.aload_n 0, 1) := by decide +kernel
theorem dX6_passYear_56 : decode cX6_passYear 56 = .ok (.getfield 25, 3) := by decide +kernel
theorem dX6_passYear_59 : decode cX6_passYear 59 = .ok (.iload_n 2, 1) := by decide +kernel
theorem dX6_passYear_60 : decode cX6_passYear 60 = .ok (.iconst 0, 1) := by decide +kernel
theorem dX6_passYear_61 : decode cX6_passYear 61 = .ok (.aload_n 0, 1) := by decide +kernel
theorem dX6_passYear_62 : decode cX6_passYear 62 = .ok (.getfield 25, 3) := by decide +kernel
theorem dX6_passYear_65 : decode cX6_passYear 65 = .ok (.iload_n 2, 1) := by decide +kernel
theorem dX6_passYear_66 : decode cX6_passYear 66 = .ok (.iaload, 1) := by decide +kernel
theorem dX6_passYear_67 : decode cX6_passYear 67 = .ok (.aload_n 1, 1) := by decide +kernel
theorem dX6_passYear_68 : decode cX6_passYear 68 = .ok (.getfield 88, 3) := by decide +kernel
theorem dX6_passYear_71 : decode cX6_passYear 71 = .ok (.iload_n 2, 1) := by decide +kernel
theorem dX6_passYear_72 : decode cX6_passYear 72 = .ok (.iaload, 1) := by decide +kernel
theorem dX6_passYear_73 : decode cX6_passYear 73 = .ok (.isub, 1) := by decide +kernel
theorem dX6_passYear_74 : decode cX6_passYear 74 = .ok (.invokestatic 91, 3) := by decide +kernel
theorem dX6_passYear_77 : decode cX6_passYear 77 = .ok (.iastore, 1) := by decide +kernel
theorem dX6_passYear_78 : decode cX6_passYear 78 = .ok (.iinc 2 1, 3) := by decide +kernel
theorem dX6_passYear_81 : decode cX6_passYear 81 = .ok (.goto (-34), 3) := by decide +kernel
theorem dX6_passYear_84 : decode cX6_passYear 84 = .ok (.aload_n 0, 1) := by decide +kernel
theorem dX6_passYear_85 : decode cX6_passYear 85 = .ok (.dup, 1) := by decide +kernel
theorem dX6_passYear_86 : decode cX6_passYear 86 = .ok (.getfield 37, 3) := by decide +kernel
theorem dX6_passYear_89 : decode cX6_passYear 89 = .ok (.iconst 1, 1) := by decide +kernel
theorem dX6_passYear_90 : decode cX6_passYear 90 = .ok (.iadd, 1) := by decide +kernel
theorem dX6_passYear_91 : decode cX6_passYear 91 = .ok (.putfield 37, 3) := by decide +kernel
theorem dX6_passYear_94 : decode cX6_passYear 94 = .ok (.return_, 1) := by decide +kernel
theorem dX6_allThick_0 : decode cX6_allThick 0 = .ok (.iconst 0, 1) := by decide +kernel
theorem dX6_allThick_1 : decode cX6_allThick 1 = .ok (.istore_n 1, 1) := by decide +kernel
theorem dX6_allThick_2 : decode cX6_allThick 2 = .ok (.iconst 0, 1) := by decide +kernel
theorem dX6_allThick_3 : decode cX6_allThick 3 = .ok (.istore_n 2, 1) := by decide +kernel
theorem dX6_allThick_4 : decode cX6_allThick 4 = .ok (.iload_n 2, 1) := by decide +kernel
theorem dX6_allThick_5 : decode cX6_allThick 5 = .ok (.aload_n 0, 1) := by decide +kernel
theorem dX6_allThick_6 : decode cX6_allThick 6 = .ok (.getfield 9, 3) := by decide +kernel
theorem dX6_allThick_9 : decode cX6_allThick 9 = .ok (.if_icmp .ge 18, 3) := by decide +kernel
theorem dX6_allThick_12 : decode cX6_allThick 12 = .ok (.iload_n 1, 1) := by decide +kernel
theorem dX6_allThick_13 : decode cX6_allThick 13 = .ok (.aload_n 0, 1) := by decide +kernel
theorem dX6_allThick_14 : decode cX6_allThick 14 = .ok (.getfield 19, 3) := by decide +kernel
theorem dX6_allThick_17 : decode cX6_allThick 17 = .ok (.iload_n 2, 1) := by decide +kernel
theorem dX6_allThick_18 : decode cX6_allThick 18 = .ok (.iaload, 1) := by decide +kernel
theorem dX6_allThick_19 : decode cX6_allThick 19 = .ok (.iadd, 1) := by decide +kernel
theorem dX6_allThick_20 : decode cX6_allThick 20 = .ok (.istore_n 1, 1) := by decide +kernel
theorem dX6_allThick_21 : decode cX6_allThick 21 = .ok (.iinc 2 1, 3) := by decide +kernel
theorem dX6_allThick_24 : decode cX6_allThick 24 = .ok (.goto (-20), 3) := by decide +kernel
theorem dX6_allThick_27 : decode cX6_allThick 27 = .ok (.iload_n 1, 1) := by decide +kernel
theorem dX6_allThick_28 : decode cX6_allThick 28 = .ok (.ireturn, 1) := by decide +kernel
theorem dX6_cut_0 : decode cX6_cut 0 = .ok (.aload_n 0, 1) := by decide +kernel
theorem dX6_cut_1 : decode cX6_cut 1 = .ok (.invokevirtual 94, 3) := by decide +kernel
theorem dX6_cut_4 : decode cX6_cut 4 = .ok (.iconst 2, 1) := by decide +kernel
theorem dX6_cut_5 : decode cX6_cut 5 = .ok (.idiv, 1) := by decide +kernel
theorem dX6_cut_6 : decode cX6_cut 6 = .ok (.istore_n 1, 1) := by decide +kernel
theorem dX6_cut_7 : decode cX6_cut 7 = .ok (.iconst 0, 1) := by decide +kernel
theorem dX6_cut_8 : decode cX6_cut 8 = .ok (.istore_n 2, 1) := by decide +kernel
theorem dX6_cut_9 : decode cX6_cut 9 = .ok (.iconst 0, 1) := by decide +kernel
theorem dX6_cut_10 : decode cX6_cut 10 = .ok (.istore_n 3, 1) := by decide +kernel
theorem dX6_cut_11 : decode cX6_cut 11 = .ok (.iload_n 3, 1) := by decide +kernel
theorem dX6_cut_12 : decode cX6_cut 12 = .ok (.aload_n 0, 1) := by decide +kernel
theorem dX6_cut_13 : decode cX6_cut 13 = .ok (.getfield 9, 3) := by decide +kernel
theorem dX6_cut_16 : decode cX6_cut 16 = .ok (.if_icmp .ge 25, 3) := by decide +kernel
theorem dX6_cut_19 : decode cX6_cut 19 = .ok (.iload_n 2, 1) := by decide +kernel
theorem dX6_cut_20 : decode cX6_cut 20 = .ok (.aload_n 0, 1) := by decide +kernel
theorem dX6_cut_21 : decode cX6_cut 21 = .ok (.getfield 19, 3) := by decide +kernel
theorem dX6_cut_24 : decode cX6_cut 24 = .ok (.iload_n 3, 1) := by decide +kernel
theorem dX6_cut_25 : decode cX6_cut 25 = .ok (.iaload, 1) := by decide +kernel
theorem dX6_cut_26 : decode cX6_cut 26 = .ok (.iadd, 1) := by decide +kernel
theorem dX6_cut_27 : decode cX6_cut 27 = .ok (.istore_n 2, 1) := by decide +kernel
theorem dX6_cut_28 : decode cX6_cut 28 = .ok (.iload_n 2, 1) := by decide +kernel
theorem dX6_cut_29 : decode cX6_cut 29 = .ok (.iload_n 1, 1) := by decide +kernel
theorem dX6_cut_30 : decode cX6_cut 30 = .ok (.if_icmp .le 5, 3) := by decide +kernel
theorem dX6_cut_33 : decode cX6_cut 33 = .ok (.iload_n 3, 1) := by decide +kernel
theorem dX6_cut_34 : decode cX6_cut 34 = .ok (.ireturn, 1) := by decide +kernel
theorem dX6_cut_35 : decode cX6_cut 35 = .ok (.iinc 3 1, 3) := by decide +kernel
theorem dX6_cut_38 : decode cX6_cut 38 = .ok (.goto (-27), 3) := by decide +kernel
theorem dX6_cut_41 : decode cX6_cut 41 = .ok (.iconst (-1), 1) := by decide +kernel
theorem dX6_cut_42 : decode cX6_cut 42 = .ok (.ireturn, 1) := by decide +kernel
theorem dX6_law_0 : decode cX6_law 0 = .ok (.iconst 0, 1) := by decide +kernel
theorem dX6_law_1 : decode cX6_law 1 = .ok (.istore_n 1, 1) := by decide +kernel
theorem dX6_law_2 : decode cX6_law 2 = .ok (.iconst 1, 1) := by decide +kernel
theorem dX6_law_3 : decode cX6_law 3 = .ok (.istore_n 2, 1) := by decide +kernel
theorem dX6_law_4 : decode cX6_law 4 = .ok (.iload_n 2, 1) := by decide +kernel
theorem dX6_law_5 : decode cX6_law 5 = .ok (.aload_n 0, 1) := by decide +kernel
theorem dX6_law_6 : decode cX6_law 6 = .ok (.getfield 9, 3) := by decide +kernel
theorem dX6_law_9 : decode cX6_law 9 = .ok (.if_icmp .ge 29, 3) := by decide +kernel
theorem dX6_law_12 : decode cX6_law 12 = .ok (.iload_n 1, 1) := by decide +kernel
theorem dX6_law_13 : decode cX6_law 13 = .ok (.aload_n 0, 1) := by decide +kernel
theorem dX6_law_14 : decode cX6_law 14 = .ok (.getfield 15, 3) := by decide +kernel
theorem dX6_law_17 : decode cX6_law 17 = .ok (.iload_n 2, 1) := by decide +kernel
theorem dX6_law_18 : decode cX6_law 18 = .ok (.iconst 1, 1) := by decide +kernel
theorem dX6_law_19 : decode cX6_law 19 = .ok (.isub, 1) := by decide +kernel
theorem dX6_law_20 : decode cX6_law 20 = .ok (.iaload, 1) := by decide +kernel
theorem dX6_law_21 : decode cX6_law 21 = .ok (.aload_n 0, 1) := by decide +kernel
theorem dX6_law_22 : decode cX6_law 22 = .ok (.getfield 15, 3) := by decide +kernel
theorem dX6_law_25 : decode cX6_law 25 = .ok (.iload_n 2, 1) := by decide +kernel
theorem dX6_law_26 : decode cX6_law 26 = .ok (.iaload, 1) := by decide +kernel
theorem dX6_law_27 : decode cX6_law 27 = .ok (.invokestatic 98, 3) := by decide +kernel
theorem dX6_law_30 : decode cX6_law 30 = .ok (.ior, 1) := by decide +kernel
theorem dX6_law_31 : decode cX6_law 31 = .ok (.istore_n 1, 1) := by decide +kernel
theorem dX6_law_32 : decode cX6_law 32 = .ok (.iinc 2 1, 3) := by decide +kernel
theorem dX6_law_35 : decode cX6_law 35 = .ok (.goto (-31), 3) := by decide +kernel
theorem dX6_law_38 : decode cX6_law 38 = .ok (.iload_n 1, 1) := by decide +kernel
theorem dX6_law_39 : decode cX6_law 39 = .ok (.ireturn, 1) := by decide +kernel
theorem dX6_layersUnder_0 : decode cX6_layersUnder 0 = .ok (.iconst 0, 1) := by decide +kernel
theorem dX6_layersUnder_1 : decode cX6_layersUnder 1 = .ok (.istore_n 3, 1) := by decide +kernel
theorem dX6_layersUnder_2 : decode cX6_layersUnder 2 = .ok (.iconst 0, 1) := by decide +kernel
theorem dX6_layersUnder_3 : decode cX6_layersUnder 3 = .ok (.istore 4, 2) := by decide +kernel
theorem dX6_layersUnder_5 : decode cX6_layersUnder 5 = .ok (.iload 4, 2) := by decide +kernel
theorem dX6_layersUnder_7 : decode cX6_layersUnder 7 = .ok (.aload_n 0, 1) := by decide +kernel
theorem dX6_layersUnder_8 : decode cX6_layersUnder 8 = .ok (.getfield 9, 3) := by decide +kernel
theorem dX6_layersUnder_11 : decode cX6_layersUnder 11 = .ok (.if_icmp .ge 32, 3) := by decide +kernel
theorem dX6_layersUnder_14 : decode cX6_layersUnder 14 = .ok (.iload_n 2, 1) := by decide +kernel
theorem dX6_layersUnder_15 : decode cX6_layersUnder 15 = .ok (.iload_n 1, 1) := by decide +kernel
theorem dX6_layersUnder_16 : decode cX6_layersUnder 16 = .ok (.aload_n 0, 1) := by decide +kernel
theorem dX6_layersUnder_17 : decode cX6_layersUnder 17 = .ok (.getfield 15, 3) := by decide +kernel
theorem dX6_layersUnder_20 : decode cX6_layersUnder 20 = .ok (.iload 4, 2) := by decide +kernel
theorem dX6_layersUnder_22 : decode cX6_layersUnder 22 = .ok (.iaload, 1) := by decide +kernel
theorem dX6_layersUnder_23 : decode cX6_layersUnder 23 = .ok (.invokestatic 98, 3) := by decide +kernel
theorem dX6_layersUnder_26 : decode cX6_layersUnder 26 = .ok (.iand, 1) := by decide +kernel
theorem dX6_layersUnder_27 : decode cX6_layersUnder 27 = .ok (.ifCond .eq 10, 3) := by decide +kernel
theorem dX6_layersUnder_30 : decode cX6_layersUnder 30 = .ok (.iload_n 3, 1) := by decide +kernel
theorem dX6_layersUnder_31 : decode cX6_layersUnder 31 = .ok (.iconst 1, 1) := by decide +kernel
theorem dX6_layersUnder_32 : decode cX6_layersUnder 32 = .ok (.iload 4, 2) := by decide +kernel
theorem dX6_layersUnder_34 : decode cX6_layersUnder 34 = .ok (.ishl, 1) := by decide +kernel
theorem dX6_layersUnder_35 : decode cX6_layersUnder 35 = .ok (.ior, 1) := by decide +kernel
theorem dX6_layersUnder_36 : decode cX6_layersUnder 36 = .ok (.istore_n 3, 1) := by decide +kernel
theorem dX6_layersUnder_37 : decode cX6_layersUnder 37 = .ok (.iinc 4 1, 3) := by decide +kernel
theorem dX6_layersUnder_40 : decode cX6_layersUnder 40 = .ok (.goto (-35), 3) := by decide +kernel
theorem dX6_layersUnder_43 : decode cX6_layersUnder 43 = .ok (.iload_n 3, 1) := by decide +kernel
theorem dX6_layersUnder_44 : decode cX6_layersUnder 44 = .ok (.ireturn, 1) := by decide +kernel
theorem dX6_rowFrom_0 : decode cX6_rowFrom 0 = .ok (.aload_n 0, 1) := by decide +kernel
theorem dX6_rowFrom_1 : decode cX6_rowFrom 1 = .ok (.iload_n 1, 1) := by decide +kernel
theorem dX6_rowFrom_2 : decode cX6_rowFrom 2 = .ok (.invokevirtual 64, 3) := by decide +kernel
theorem dX6_rowFrom_5 : decode cX6_rowFrom 5 = .ok (.ifCond .ne 5, 3) := by decide +kernel
theorem dX6_rowFrom_8 : decode cX6_rowFrom 8 = .ok (.iconst 0, 1) := by decide +kernel
theorem dX6_rowFrom_9 : decode cX6_rowFrom 9 = .ok (.ireturn, 1) := by decide +kernel
theorem dX6_rowFrom_10 : decode cX6_rowFrom 10 = .ok (.iload_n 1, 1) := by decide +kernel
theorem dX6_rowFrom_11 : decode cX6_rowFrom 11 = .ok (.iconst 1, 1) := by decide +kernel
theorem dX6_rowFrom_12 : decode cX6_rowFrom 12 = .ok (.iadd, 1) := by decide +kernel
theorem dX6_rowFrom_13 : decode cX6_rowFrom 13 = .ok (.istore_n 2, 1) := by decide +kernel
theorem dX6_rowFrom_14 : decode cX6_rowFrom 14 = .ok (.iload_n 2, 1) := by decide +kernel
theorem dX6_rowFrom_15 : decode cX6_rowFrom 15 = .ok (.aload_n 0, 1) := by decide +kernel
theorem dX6_rowFrom_16 : decode cX6_rowFrom 16 = .ok (.getfield 9, 3) := by decide +kernel
theorem dX6_rowFrom_19 : decode cX6_rowFrom 19 = .ok (.if_icmp .ge 24, 3) := by decide +kernel
theorem dX6_rowFrom_22 : decode cX6_rowFrom 22 = .ok (.aload_n 0, 1) := by decide +kernel
theorem dX6_rowFrom_23 : decode cX6_rowFrom 23 = .ok (.getfield 15, 3) := by decide +kernel
theorem dX6_rowFrom_26 : decode cX6_rowFrom 26 = .ok (.iload_n 2, 1) := by decide +kernel
theorem dX6_rowFrom_27 : decode cX6_rowFrom 27 = .ok (.iaload, 1) := by decide +kernel
theorem dX6_rowFrom_28 : decode cX6_rowFrom 28 = .ok (.aload_n 0, 1) := by decide +kernel
theorem dX6_rowFrom_29 : decode cX6_rowFrom 29 = .ok (.getfield 15, 3) := by decide +kernel
theorem dX6_rowFrom_32 : decode cX6_rowFrom 32 = .ok (.iload_n 1, 1) := by decide +kernel
theorem dX6_rowFrom_33 : decode cX6_rowFrom 33 = .ok (.iaload, 1) := by decide +kernel
theorem dX6_rowFrom_34 : decode cX6_rowFrom 34 = .ok (.if_icmp .ne 9, 3) := by decide +kernel
theorem dX6_rowFrom_37 : decode cX6_rowFrom 37 = .ok (.iinc 2 1, 3) := by decide +kernel
theorem dX6_rowFrom_40 : decode cX6_rowFrom 40 = .ok (.goto (-26), 3) := by decide +kernel
theorem dX6_rowFrom_43 : decode cX6_rowFrom 43 = .ok (.iload_n 2, 1) := by decide +kernel
theorem dX6_rowFrom_44 : decode cX6_rowFrom 44 = .ok (.iload_n 1, 1) := by decide +kernel
theorem dX6_rowFrom_45 : decode cX6_rowFrom 45 = .ok (.isub, 1) := by decide +kernel
theorem dX6_rowFrom_46 : decode cX6_rowFrom 46 = .ok (.ireturn, 1) := by decide +kernel
theorem dX6_startOfLongestRow_0 : decode cX6_startOfLongestRow 0 = .ok (.iconst (-1), 1) := by decide +kernel
theorem dX6_startOfLongestRow_1 : decode cX6_startOfLongestRow 1 = .ok (.istore_n 1, 1) := by decide +kernel
theorem dX6_startOfLongestRow_2 : decode cX6_startOfLongestRow 2 = .ok (.iconst 0, 1) := by decide +kernel
theorem dX6_startOfLongestRow_3 : decode cX6_startOfLongestRow 3 = .ok (.istore_n 2, 1) := by decide +kernel
theorem dX6_startOfLongestRow_4 : decode cX6_startOfLongestRow 4 = .ok (.iconst 0, 1) := by decide +kernel
theorem dX6_startOfLongestRow_5 : decode cX6_startOfLongestRow 5 = .ok (.istore_n 3, 1) := by decide +kernel
theorem dX6_startOfLongestRow_6 : decode cX6_startOfLongestRow 6 = .ok (.iload_n 3, 1) := by decide +kernel
theorem dX6_startOfLongestRow_7 : decode cX6_startOfLongestRow 7 = .ok (.aload_n 0, 1) := by decide +kernel
theorem dX6_startOfLongestRow_8 : decode cX6_startOfLongestRow 8 = .ok (.getfield 9, 3) := by decide +kernel
theorem dX6_startOfLongestRow_11 : decode cX6_startOfLongestRow 11 = .ok (.if_icmp .ge 27, 3) := by decide +kernel
theorem dX6_startOfLongestRow_14 : decode cX6_startOfLongestRow 14 = .ok (.aload_n 0, 1) := by decide +kernel
theorem dX6_startOfLongestRow_15 : decode cX6_startOfLongestRow 15 = .ok (.iload_n 3, 1) := by decide +kernel
theorem dX6_startOfLongestRow_16 : decode cX6_startOfLongestRow 16 = .ok (.invokevirtual 101, 3) := by decide +kernel
theorem dX6_startOfLongestRow_19 : decode cX6_startOfLongestRow 19 = .ok (.istore 4, 2) := by decide +kernel
theorem dX6_startOfLongestRow_21 : decode cX6_startOfLongestRow 21 = .ok (.iload 4, 2) := by decide +kernel
theorem dX6_startOfLongestRow_23 : decode cX6_startOfLongestRow 23 = .ok (.iload_n 2, 1) := by decide +kernel
theorem dX6_startOfLongestRow_24 : decode cX6_startOfLongestRow 24 = .ok (.if_icmp .le 8, 3) := by decide +kernel
theorem dX6_startOfLongestRow_27 : decode cX6_startOfLongestRow 27 = .ok (.iload 4, 2) := by decide +kernel
theorem dX6_startOfLongestRow_29 : decode cX6_startOfLongestRow 29 = .ok (.istore_n 2, 1) := by decide +kernel
theorem dX6_startOfLongestRow_30 : decode cX6_startOfLongestRow 30 = .ok (.iload_n 3, 1) := by decide +kernel
theorem dX6_startOfLongestRow_31 : decode cX6_startOfLongestRow 31 = .ok (.istore_n 1, 1) := by decide +kernel
theorem dX6_startOfLongestRow_32 : decode cX6_startOfLongestRow 32 = .ok (.iinc 3 1, 3) := by decide +kernel
theorem dX6_startOfLongestRow_35 : decode cX6_startOfLongestRow 35 = .ok (.goto (-29), 3) := by decide +kernel
theorem dX6_startOfLongestRow_38 : decode cX6_startOfLongestRow 38 = .ok (.iload_n 1, 1) := by decide +kernel
theorem dX6_startOfLongestRow_39 : decode cX6_startOfLongestRow 39 = .ok (.ireturn, 1) := by decide +kernel
theorem dX6_mostTears_0 : decode cX6_mostTears 0 = .ok (.iconst (-1), 1) := by decide +kernel
theorem dX6_mostTears_1 : decode cX6_mostTears 1 = .ok (.istore_n 2, 1) := by decide +kernel
theorem dX6_mostTears_2 : decode cX6_mostTears 2 = .ok (.iconst (-1), 1) := by decide +kernel
theorem dX6_mostTears_3 : decode cX6_mostTears 3 = .ok (.istore_n 3, 1) := by decide +kernel
theorem dX6_mostTears_4 : decode cX6_mostTears 4 = .ok (.iconst 0, 1) := by decide +kernel
theorem dX6_mostTears_5 : decode cX6_mostTears 5 = .ok (.istore 4, 2) := by decide +kernel
theorem dX6_mostTears_7 : decode cX6_mostTears 7 = .ok (.iload 4, 2) := by decide +kernel
theorem dX6_mostTears_9 : decode cX6_mostTears 9 = .ok (.iload_n 1, 1) := by decide +kernel
theorem dX6_mostTears_10 : decode cX6_mostTears 10 = .ok (.if_icmp .ge 37, 3) := by decide +kernel
theorem dX6_mostTears_13 : decode cX6_mostTears 13 = .ok (.iload 4, 2) := by decide +kernel
theorem dX6_mostTears_15 : decode cX6_mostTears 15 = .ok (.iconst 5, 1) := by decide +kernel
theorem dX6_mostTears_16 : decode cX6_mostTears 16 = .ok (.if_icmp .ge 31, 3) := by decide +kernel
theorem dX6_mostTears_19 : decode cX6_mostTears 19 = .ok (.aload_n 0, 1) := by decide +kernel
theorem dX6_mostTears_20 : decode cX6_mostTears 20 = .ok (.getfield 25, 3) := by decide +kernel
theorem dX6_mostTears_23 : decode cX6_mostTears 23 = .ok (.iload 4, 2) := by decide +kernel
theorem dX6_mostTears_25 : decode cX6_mostTears 25 = .ok (.iaload, 1) := by decide +kernel
theorem dX6_mostTears_26 : decode cX6_mostTears 26 = .ok (.iload_n 3, 1) := by decide +kernel
theorem dX6_mostTears_27 : decode cX6_mostTears 27 = .ok (.if_icmp .le 14, 3) := by decide +kernel
theorem dX6_mostTears_30 : decode cX6_mostTears 30 = .ok (.aload_n 0, 1) := by decide +kernel
theorem dX6_mostTears_31 : decode cX6_mostTears 31 = .ok (.getfield 25, 3) := by decide +kernel
theorem dX6_mostTears_34 : decode cX6_mostTears 34 = .ok (.iload 4, 2) := by decide +kernel
theorem dX6_mostTears_36 : decode cX6_mostTears 36 = .ok (.iaload, 1) := by decide +kernel
theorem dX6_mostTears_37 : decode cX6_mostTears 37 = .ok (.istore_n 3, 1) := by decide +kernel
theorem dX6_mostTears_38 : decode cX6_mostTears 38 = .ok (.iload 4, 2) := by decide +kernel
theorem dX6_mostTears_40 : decode cX6_mostTears 40 = .ok (.istore_n 2, 1) := by decide +kernel
theorem dX6_mostTears_41 : decode cX6_mostTears 41 = .ok (.iinc 4 1, 3) := by decide +kernel
theorem dX6_mostTears_44 : decode cX6_mostTears 44 = .ok (.goto (-37), 3) := by decide +kernel
theorem dX6_mostTears_47 : decode cX6_mostTears 47 = .ok (.iload_n 2, 1) := by decide +kernel
theorem dX6_mostTears_48 : decode cX6_mostTears 48 = .ok (.ireturn, 1) := by decide +kernel
theorem dX6_dryIn_0 : decode cX6_dryIn 0 = .ok (.iconst 0, 1) := by decide +kernel
theorem dX6_dryIn_1 : decode cX6_dryIn 1 = .ok (.istore_n 2, 1) := by decide +kernel
theorem dX6_dryIn_2 : decode cX6_dryIn 2 = .ok (.iconst 0, 1) := by decide +kernel
theorem dX6_dryIn_3 : decode cX6_dryIn 3 = .ok (.istore_n 3, 1) := by decide +kernel
theorem dX6_dryIn_4 : decode cX6_dryIn 4 = .ok (.iload_n 3, 1) := by decide +kernel
theorem dX6_dryIn_5 : decode cX6_dryIn 5 = .ok (.aload_n 1, 1) := by decide +kernel
theorem dX6_dryIn_6 : decode cX6_dryIn 6 = .ok (.getfield 85, 3) := by decide +kernel
theorem dX6_dryIn_9 : decode cX6_dryIn 9 = .ok (.if_icmp .ge 40, 3) := by decide +kernel
theorem dX6_dryIn_12 : decode cX6_dryIn 12 = .ok (.iconst 1, 1) := by decide +kernel
theorem dX6_dryIn_13 : decode cX6_dryIn 13 = .ok (.aload_n 1, 1) := by decide +kernel
theorem dX6_dryIn_14 : decode cX6_dryIn 14 = .ok (.getfield 88, 3) := by decide +kernel
theorem dX6_dryIn_17 : decode cX6_dryIn 17 = .ok (.iload_n 3, 1) := by decide +kernel
theorem dX6_dryIn_18 : decode cX6_dryIn 18 = .ok (.iaload, 1) := by decide +kernel
theorem dX6_dryIn_19 : decode cX6_dryIn 19 = .ok (.invokestatic 91, 3) := by decide +kernel
theorem dX6_dryIn_22 : decode cX6_dryIn 22 = .ok (.istore 4, 2) := by decide +kernel
theorem dX6_dryIn_24 : decode cX6_dryIn 24 = .ok (.iload_n 2, 1) := by decide +kernel
theorem dX6_dryIn_25 : decode cX6_dryIn 25 = .ok (.aload_n 0, 1) := by decide +kernel
theorem dX6_dryIn_26 : decode cX6_dryIn 26 = .ok (.getfield 25, 3) := by decide +kernel
theorem dX6_dryIn_29 : decode cX6_dryIn 29 = .ok (.iload_n 3, 1) := by decide +kernel
theorem dX6_dryIn_30 : decode cX6_dryIn 30 = .ok (.iaload, 1) := by decide +kernel
theorem dX6_dryIn_31 : decode cX6_dryIn 31 = .ok (.iload 4, 2) := by decide +kernel
theorem dX6_dryIn_33 : decode cX6_dryIn 33 = .ok (.iadd, 1) := by decide +kernel
theorem dX6_dryIn_34 : decode cX6_dryIn 34 = .ok (.iconst 1, 1) := by decide +kernel
theorem dX6_dryIn_35 : decode cX6_dryIn 35 = .ok (.isub, 1) := by decide +kernel
theorem dX6_dryIn_36 : decode cX6_dryIn 36 = .ok (.iload 4, 2) := by decide +kernel
theorem dX6_dryIn_38 : decode cX6_dryIn 38 = .ok (.idiv, 1) := by decide +kernel
theorem dX6_dryIn_39 : decode cX6_dryIn 39 = .ok (.invokestatic 91, 3) := by decide +kernel
theorem dX6_dryIn_42 : decode cX6_dryIn 42 = .ok (.istore_n 2, 1) := by decide +kernel
theorem dX6_dryIn_43 : decode cX6_dryIn 43 = .ok (.iinc 3 1, 3) := by decide +kernel
theorem dX6_dryIn_46 : decode cX6_dryIn 46 = .ok (.goto (-42), 3) := by decide +kernel
theorem dX6_dryIn_49 : decode cX6_dryIn 49 = .ok (.iload_n 2, 1) := by decide +kernel
theorem dX6_dryIn_50 : decode cX6_dryIn 50 = .ok (.ireturn, 1) := by decide +kernel
end
section
theorem dX7_init_0 : decode cX7_init 0 = .ok (.aload_n 0, 1) := by decide +kernel
theorem dX7_init_1 : decode cX7_init 1 = .ok (.invokespecial 3, 3) := by decide +kernel
theorem dX7_init_4 : decode cX7_init 4 = .ok (.aload_n 0, 1) := by decide +kernel
theorem dX7_init_5 : decode cX7_init 5 = .ok (.sipush 240, 3) := by decide +kernel
theorem dX7_init_8 : decode cX7_init 8 = .ok (.newarray .int, 2) := by decide +kernel
theorem dX7_init_10 : decode cX7_init 10 = .ok (.putfield 9, 3) := by decide +kernel
theorem dX7_init_13 : decode cX7_init 13 = .ok (.aload_n 0, 1) := by decide +kernel
theorem dX7_init_14 : decode cX7_init 14 = .ok (.bipush 8, 2) := by decide +kernel
theorem dX7_init_16 : decode cX7_init 16 = .ok (.newarray .int, 2) := by decide +kernel
theorem dX7_init_18 : decode cX7_init 18 = .ok (.putfield 15, 3) := by decide +kernel
theorem dX7_init_21 : decode cX7_init 21 = .ok (.aload_n 0, 1) := by decide +kernel
theorem dX7_init_22 : decode cX7_init 22 = .ok (.iconst 0, 1) := by decide +kernel
theorem dX7_init_23 : decode cX7_init 23 = .ok (.putfield 18, 3) := by decide +kernel
theorem dX7_init_26 : decode cX7_init 26 = .ok (.aload_n 0, 1) := by decide +kernel
theorem dX7_init_27 : decode cX7_init 27 = .ok (.iconst 0, 1) := by decide +kernel
theorem dX7_init_28 : decode cX7_init 28 = .ok (.putfield 22, 3) := by decide +kernel
theorem dX7_init_31 : decode cX7_init 31 = .ok (.aload_n 0, 1) := by decide +kernel
theorem dX7_init_32 : decode cX7_init 32 = .ok (.iconst 0, 1) := by decide +kernel
theorem dX7_init_33 : decode cX7_init 33 = .ok (.putfield 25, 3) := by decide +kernel
theorem dX7_init_36 : decode cX7_init 36 = .ok (.aload_n 0, 1) := by decide +kernel
theorem dX7_init_37 : decode cX7_init 37 = .ok (.iconst (-1), 1) := by decide +kernel
theorem dX7_init_38 : decode cX7_init 38 = .ok (.putfield 28, 3) := by decide +kernel
theorem dX7_init_41 : decode cX7_init 41 = .ok (.return_, 1) := by decide +kernel
theorem dX7_add_0 : decode cX7_add 0 = .ok (.aload_n 0, 1) := by decide +kernel
theorem dX7_add_1 : decode cX7_add 1 = .ok (.getfield 18, 3) := by decide +kernel
theorem dX7_add_4 : decode cX7_add 4 = .ok (.sipush 240, 3) := by decide +kernel
theorem dX7_add_7 : decode cX7_add 7 = .ok (.if_icmp .lt 6, 3) := by decide +kernel
theorem dX7_add_10 : decode cX7_add 10 = .ok (.ldc 31, 2) := by decide +kernel
theorem dX7_add_12 : decode cX7_add 12 = .ok (.ireturn, 1) := by decide +kernel
theorem dX7_add_13 : decode cX7_add 13 = .ok (.aload_n 0, 1) := by decide +kernel
theorem dX7_add_14 : decode cX7_add 14 = .ok (.getfield 9, 3) := by decide +kernel
theorem dX7_add_17 : decode cX7_add 17 = .ok (.aload_n 0, 1) := by decide +kernel
theorem dX7_add_18 : decode cX7_add 18 = .ok (.getfield 18, 3) := by decide +kernel
theorem dX7_add_21 : decode cX7_add 21 = .ok (.iload_n 1, 1) := by decide +kernel
theorem dX7_add_22 : decode cX7_add 22 = .ok (.iastore, 1) := by decide +kernel
theorem dX7_add_23 : decode cX7_add 23 = .ok (.aload_n 0, 1) := by decide +kernel
theorem dX7_add_24 : decode cX7_add 24 = .ok (.dup, 1) := by decide +kernel
theorem dX7_add_25 : decode cX7_add 25 = .ok (.getfield 18, 3) := by decide +kernel
theorem dX7_add_28 : decode cX7_add 28 = .ok (.iconst 1, 1) := by decide +kernel
theorem dX7_add_29 : decode cX7_add 29 = .ok (.iadd, 1) := by decide +kernel
theorem dX7_add_30 : decode cX7_add 30 = .ok (.putfield 18, 3) := by decide +kernel
theorem dX7_add_33 : decode cX7_add 33 = .ok (.aload_n 0, 1) := by decide +kernel
theorem dX7_add_34 : decode cX7_add 34 = .ok (.getfield 18, 3) := by decide +kernel
theorem dX7_add_37 : decode cX7_add 37 = .ok (.ireturn, 1) := by decide +kernel
theorem dX7_readInto_0 : decode cX7_readInto 0 = .ok (.aload_n 1, 1) := by decide +kernel
theorem dX7_readInto_1 : decode cX7_readInto 1 = .ok (.invokevirtual 32, 3) := by decide +kernel
theorem dX7_readInto_4 : decode cX7_readInto 4 = .ok (.aload_n 0, 1) := by decide +kernel
theorem dX7_readInto_5 : decode cX7_readInto 5 = .ok (.iconst 0, 1) := by decide +kernel
theorem dX7_readInto_6 : decode cX7_readInto 6 = .ok (.putfield 22, 3) := by decide +kernel
theorem dX7_readInto_9 : decode cX7_readInto 9 = .ok (.aload_n 0, 1) := by decide +kernel
theorem dX7_readInto_10 : decode cX7_readInto 10 = .ok (.iconst 0, 1) := by decide +kernel
theorem dX7_readInto_11 : decode cX7_readInto 11 = .ok (.putfield 25, 3) := by decide +kernel
theorem dX7_readInto_14 : decode cX7_readInto 14 = .ok (.aload_n 0, 1) := by decide +kernel
theorem dX7_readInto_15 : decode cX7_readInto 15 = .ok (.iconst (-1), 1) := by decide +kernel
theorem dX7_readInto_16 : decode cX7_readInto 16 = .ok (.putfield 28, 3) := by decide +kernel
theorem dX7_readInto_19 : decode cX7_readInto 19 = .ok (.aload_n 0, 1) := by decide +kernel
theorem dX7_readInto_20 : decode cX7_readInto 20 = .ok (.invokevirtual 37, 3) := by decide +kernel
theorem dX7_readInto_23 : decode cX7_readInto 23 = .ok (.aload_n 1, 1) := by decide +kernel
theorem dX7_readInto_24 : decode cX7_readInto 24 = .ok (.aload_n 0, 1) := by decide +kernel
theorem dX7_readInto_25 : decode cX7_readInto 25 = .ok (.getfield 22, 3) := by decide +kernel
theorem dX7_readInto_28 : decode cX7_readInto 28 = .ok (.aload_n 0, 1) := by decide +kernel
theorem dX7_readInto_29 : decode cX7_readInto 29 = .ok (.getfield 18, 3) := by decide +kernel
theorem dX7_readInto_32 : decode cX7_readInto 32 = .ok (.if_icmp .ge 7, 3) := by decide +kernel
theorem dX7_readInto_35 : decode cX7_readInto 35 = .ok (.iconst 1, 1) := by decide +kernel
theorem dX7_readInto_36 : decode cX7_readInto 36 = .ok (.goto 4, 3) := by decide +kernel
theorem dX7_readInto_39 : decode cX7_readInto 39 = .ok (.iconst 0, 1) := by decide +kernel
theorem dX7_readInto_40 : decode cX7_readInto 40 = .ok (.putfield 40, 3) := by decide +kernel
theorem dX7_readInto_43 : decode cX7_readInto 43 = .ok (.iconst 0, 1) := by decide +kernel
theorem dX7_readInto_44 : decode cX7_readInto 44 = .ok (.istore_n 2, 1) := by decide +kernel
theorem dX7_readInto_45 : decode cX7_readInto 45 = .ok (.iload_n 2, 1) := by decide +kernel
theorem dX7_readInto_46 : decode cX7_readInto 46 = .ok (.sipush 240, 3) := by decide +kernel
theorem dX7_readInto_49 : decode cX7_readInto 49 = .ok (.if_icmp .ge 32, 3) := by decide +kernel
theorem dX7_readInto_52 : decode cX7_readInto 52 = .ok (.aload_n 0, 1) := by decide +kernel
theorem dX7_readInto_53 : decode cX7_readInto 53 = .ok (.getfield 25, 3) := by decide +kernel
theorem dX7_readInto_56 : decode cX7_readInto 56 = .ok (.ifCond .ne 25, 3) := by decide +kernel
theorem dX7_readInto_59 : decode cX7_readInto 59 = .ok (.aload_n 0, 1) := by decide +kernel
theorem dX7_readInto_60 : decode cX7_readInto 60 = .ok (.getfield 22, 3) := by decide +kernel
theorem dX7_readInto_63 : decode cX7_readInto 63 = .ok (.aload_n 0, 1) := by decide +kernel
theorem dX7_readInto_64 : decode cX7_readInto 64 = .ok (.getfield 18, 3) := by decide +kernel
theorem dX7_readInto_67 : decode cX7_readInto 67 = .ok (.if_icmp .ge 14, 3) := by decide +kernel
theorem dX7_readInto_70 : decode cX7_readInto 70 = .ok (.aload_n 0, 1) := by decide +kernel
theorem dX7_readInto_71 : decode cX7_readInto 71 = .ok (.aload_n 1, 1) := by decide +kernel
theorem dX7_readInto_72 : decode cX7_readInto 72 = .ok (.invokevirtual 44, 3) := by decide +kernel
theorem dX7_readInto_75 : decode cX7_readInto 75 = .ok (.iinc 2 1, 3) := by decide +kernel
theorem dX7_readInto_78 : decode cX7_readInto 78 = .ok (.goto (-33), 3) := by decide +kernel
theorem dX7_readInto_81 : decode cX7_readInto 81 = .ok (.aload_n 0, 1) := by decide +kernel
theorem dX7_readInto_82 : decode cX7_readInto 82 = .ok (.iconst 0, 1) := by decide +kernel
theorem dX7_readInto_83 : decode cX7_readInto 83 = .ok (.putfield 18, 3) := by decide +kernel
theorem dX7_readInto_86 : decode cX7_readInto 86 = .ok (.return_, 1) := by decide +kernel
theorem dX7_readClause_0 : decode cX7_readClause 0 = .ok (.aload_n 0, 1) := by decide +kernel
theorem dX7_readClause_1 : decode cX7_readClause 1 = .ok (.invokevirtual 48, 3) := by decide +kernel
theorem dX7_readClause_4 : decode cX7_readClause 4 = .ok (.istore_n 2, 1) := by decide +kernel
theorem dX7_readClause_5 : decode cX7_readClause 5 = .ok (.iload_n 2, 1) := by decide +kernel
theorem dX7_readClause_6 : decode cX7_readClause 6 = .ok (.bipush 109, 2) := by decide +kernel
theorem dX7_readClause_8 : decode cX7_readClause 8 = .ok (.if_icmp .eq 21, 3) := by decide +kernel
theorem dX7_readClause_11 : decode cX7_readClause 11 = .ok (.iload_n 2, 1) := by decide +kernel
theorem dX7_readClause_12 : decode cX7_readClause 12 = .ok (.bipush 108, 2) := by decide +kernel
theorem dX7_readClause_14 : decode cX7_readClause 14 = .ok (.if_icmp .eq 15, 3) := by decide +kernel
theorem dX7_readClause_17 : decode cX7_readClause 17 = .ok (.iload_n 2, 1) := by decide +kernel
theorem dX7_readClause_18 : decode cX7_readClause 18 = .ok (.bipush 101, 2) := by decide +kernel
theorem dX7_readClause_20 : decode cX7_readClause 20 = .ok (.if_icmp .eq 9, 3) := by decide +kernel
theorem dX7_readClause_23 : decode cX7_readClause 23 = .ok (.iload_n 2, 1) := by decide +kernel
theorem dX7_readClause_24 : decode cX7_readClause 24 = .ok (.bipush 116, 2) := by decide +kernel
theorem dX7_readClause_26 : decode cX7_readClause 26 = .ok (.if_icmp .ne 7, 3) := by decide +kernel
theorem dX7_readClause_29 : decode cX7_readClause 29 = .ok (.iconst 1, 1) := by decide +kernel
theorem dX7_readClause_30 : decode cX7_readClause 30 = .ok (.goto 4, 3) := by decide +kernel
theorem dX7_readClause_33 : decode cX7_readClause 33 = .ok (.iconst 0, 1) := by decide +kernel
theorem dX7_readClause_34 : decode cX7_readClause 34 = .ok (.istore_n 3, 1) := by decide +kernel
theorem dX7_readClause_35 : decode cX7_readClause 35 = .ok (.iload_n 3, 1) := by decide +kernel
theorem dX7_readClause_36 : decode cX7_readClause 36 = .ok (.ifCond .eq 17, 3) := by decide +kernel
theorem dX7_readClause_39 : decode cX7_readClause 39 = .ok (.iload_n 2, 1) := by decide +kernel
theorem dX7_readClause_40 : decode cX7_readClause 40 = .ok (.bipush 109, 2) := by decide +kernel
theorem dX7_readClause_42 : decode cX7_readClause 42 = .ok (.if_icmp .eq 21, 3) := by decide +kernel
theorem dX7_readClause_45 : decode cX7_readClause 45 = .ok (.aload_n 1, 1) := by decide +kernel
theorem dX7_readClause_46 : decode cX7_readClause 46 = .ok (.getfield 52, 3) := by decide +kernel
theorem dX7_readClause_49 : decode cX7_readClause 49 = .ok (.iconst (-1), 1) := by decide +kernel
theorem dX7_readClause_50 : decode cX7_readClause 50 = .ok (.if_icmp .ne 13, 3) := by decide +kernel
theorem dX7_readClause_53 : decode cX7_readClause 53 = .ok (.aload_n 0, 1) := by decide +kernel
theorem dX7_readClause_54 : decode cX7_readClause 54 = .ok (.iconst 1, 1) := by decide +kernel
theorem dX7_readClause_55 : decode cX7_readClause 55 = .ok (.aload_n 0, 1) := by decide +kernel
theorem dX7_readClause_56 : decode cX7_readClause 56 = .ok (.getfield 22, 3) := by decide +kernel
theorem dX7_readClause_59 : decode cX7_readClause 59 = .ok (.invokevirtual 55, 3) := by decide +kernel
theorem dX7_readClause_62 : decode cX7_readClause 62 = .ok (.return_, 1) := by decide +kernel
theorem dX7_readClause_63 : decode cX7_readClause 63 = .ok (.aload_n 1, 1) := by decide +kernel
theorem dX7_readClause_64 : decode cX7_readClause 64 = .ok (.iload_n 2, 1) := by decide +kernel
theorem dX7_readClause_65 : decode cX7_readClause 65 = .ok (.invokevirtual 59, 3) := by decide +kernel
theorem dX7_readClause_68 : decode cX7_readClause 68 = .ok (.ifCond .eq 13, 3) := by decide +kernel
theorem dX7_readClause_71 : decode cX7_readClause 71 = .ok (.aload_n 0, 1) := by decide +kernel
theorem dX7_readClause_72 : decode cX7_readClause 72 = .ok (.iconst 3, 1) := by decide +kernel
theorem dX7_readClause_73 : decode cX7_readClause 73 = .ok (.aload_n 0, 1) := by decide +kernel
theorem dX7_readClause_74 : decode cX7_readClause 74 = .ok (.getfield 22, 3) := by decide +kernel
theorem dX7_readClause_77 : decode cX7_readClause 77 = .ok (.invokevirtual 55, 3) := by decide +kernel
theorem dX7_readClause_80 : decode cX7_readClause 80 = .ok (.return_, 1) := by decide +kernel
theorem dX7_readClause_81 : decode cX7_readClause 81 = .ok (.aload_n 0, 1) := by decide +kernel
theorem dX7_readClause_82 : decode cX7_readClause 82 = .ok (.dup, 1) := by decide +kernel
theorem dX7_readClause_83 : decode cX7_readClause 83 = .ok (.getfield 22, 3) := by decide +kernel
theorem dX7_readClause_86 : decode cX7_readClause 86 = .ok (.iconst 1, 1) := by decide +kernel
theorem dX7_readClause_87 : decode cX7_readClause 87 = .ok (.iadd, 1) := by decide +kernel
theorem dX7_readClause_88 : decode cX7_readClause 88 = .ok (.putfield 22, 3) := by decide +kernel
theorem dX7_readClause_91 : decode cX7_readClause 91 = .ok (.aload_n 0, 1) := by decide +kernel
theorem dX7_readClause_92 : decode cX7_readClause 92 = .ok (.iload_n 2, 1) := by decide +kernel
theorem dX7_readClause_93 : decode cX7_readClause 93 = .ok (.aload_n 1, 1) := by decide +kernel
theorem dX7_readClause_94 : decode cX7_readClause 94 = .ok (.invokevirtual 63, 3) := by decide +kernel
theorem dX7_readClause_97 : decode cX7_readClause 97 = .ok (.aload_n 0, 1) := by decide +kernel
theorem dX7_readClause_98 : decode cX7_readClause 98 = .ok (.invokevirtual 48, 3) := by decide +kernel
theorem dX7_readClause_101 : decode cX7_readClause 101 = .ok (.bipush 59, 2) := by decide +kernel
theorem dX7_readClause_103 : decode cX7_readClause 103 = .ok (.if_icmp .eq 13, 3) := by decide +kernel
theorem dX7_readClause_106 : decode cX7_readClause 106 = .ok (.aload_n 0, 1) := by decide +kernel
theorem dX7_readClause_107 : decode cX7_readClause 107 = .ok (.iconst 1, 1) := by decide +kernel
theorem dX7_readClause_108 : decode cX7_readClause 108 = .ok (.aload_n 0, 1) := by decide +kernel
theorem dX7_readClause_109 : decode cX7_readClause 109 = .ok (.getfield 22, 3) := by decide +kernel
theorem dX7_readClause_112 : decode cX7_readClause 112 = .ok (.invokevirtual 55, 3) := by decide +kernel
theorem dX7_readClause_115 : decode cX7_readClause 115 = .ok (.return_, 1) := by decide +kernel
theorem dX7_readClause_116 : decode cX7_readClause 116 = .ok (.aload_n 0, 1) := by decide +kernel
theorem dX7_readClause_117 : decode cX7_readClause 117 = .ok (.dup, 1) := by decide +kernel
theorem dX7_readClause_118 : decode cX7_readClause 118 = .ok (.getfield 22, 3) := by decide +kernel
theorem dX7_readClause_121 : decode cX7_readClause 121 = .ok (.iconst 1, 1) := by decide +kernel
theorem dX7_readClause_122 : decode cX7_readClause 122 = .ok (.iadd, 1) := by decide +kernel
theorem dX7_readClause_123 : decode cX7_readClause 123 = .ok (.putfield 22, 3) := by decide +kernel
theorem dX7_readClause_126 : decode cX7_readClause 126 = .ok (.aload_n 0, 1) := by decide +kernel
theorem dX7_readClause_127 : decode cX7_readClause 127 = .ok (.invokevirtual 37, 3) := by decide +kernel
theorem dX7_readClause_130 : decode cX7_readClause 130 = .ok (.return_, 1) := by decide +kernel
theorem dX7_readRest_0 : decode cX7_readRest 0 = .ok (.iload_n 1, 1) := by decide +kernel
theorem dX7_readRest_1 : decode cX7_readRest 1 = .ok (.bipush 109, 2) := by decide +kernel
theorem dX7_readRest_3 : decode cX7_readRest 3 = .ok (.if_icmp .ne 17, 3) := by decide +kernel
theorem dX7_readRest_6 : decode cX7_readRest 6 = .ok (.aload_n 2, 1) := by decide +kernel
theorem dX7_readRest_7 : decode cX7_readRest 7 = .ok (.aload_n 0, 1) := by decide +kernel
theorem dX7_readRest_8 : decode cX7_readRest 8 = .ok (.iconst 0, 1) := by decide +kernel
theorem dX7_readRest_9 : decode cX7_readRest 9 = .ok (.bipush 99, 2) := by decide +kernel
theorem dX7_readRest_11 : decode cX7_readRest 11 = .ok (.invokevirtual 67, 3) := by decide +kernel
theorem dX7_readRest_14 : decode cX7_readRest 14 = .ok (.putfield 52, 3) := by decide +kernel
theorem dX7_readRest_17 : decode cX7_readRest 17 = .ok (.goto 65, 3) := by decide +kernel
theorem dX7_readRest_20 : decode cX7_readRest 20 = .ok (.iload_n 1, 1) := by decide +kernel
theorem dX7_readRest_21 : decode cX7_readRest 21 = .ok (.bipush 108, 2) := by decide +kernel
theorem dX7_readRest_23 : decode cX7_readRest 23 = .ok (.if_icmp .ne 25, 3) := by decide +kernel
theorem dX7_readRest_26 : decode cX7_readRest 26 = .ok (.aload_n 0, 1) := by decide +kernel
theorem dX7_readRest_27 : decode cX7_readRest 27 = .ok (.iconst 0, 1) := by decide +kernel
theorem dX7_readRest_28 : decode cX7_readRest 28 = .ok (.iconst 4, 1) := by decide +kernel
theorem dX7_readRest_29 : decode cX7_readRest 29 = .ok (.invokevirtual 67, 3) := by decide +kernel
theorem dX7_readRest_32 : decode cX7_readRest 32 = .ok (.istore_n 3, 1) := by decide +kernel
theorem dX7_readRest_33 : decode cX7_readRest 33 = .ok (.aload_n 2, 1) := by decide +kernel
theorem dX7_readRest_34 : decode cX7_readRest 34 = .ok (.iload_n 3, 1) := by decide +kernel
theorem dX7_readRest_35 : decode cX7_readRest 35 = .ok (.aload_n 0, 1) := by decide +kernel
theorem dX7_readRest_36 : decode cX7_readRest 36 = .ok (.iconst 1, 1) := by decide +kernel
theorem dX7_readRest_37 : decode cX7_readRest 37 = .ok (.bipush 20, 2) := by decide +kernel
theorem dX7_readRest_39 : decode cX7_readRest 39 = .ok (.invokevirtual 67, 3) := by decide +kernel
theorem dX7_readRest_42 : decode cX7_readRest 42 = .ok (.invokevirtual 71, 3) := by decide +kernel
theorem dX7_readRest_45 : decode cX7_readRest 45 = .ok (.goto 37, 3) := by decide +kernel
theorem dX7_readRest_48 : decode cX7_readRest 48 = .ok (.iload_n 1, 1) := by decide +kernel
theorem dX7_readRest_49 : decode cX7_readRest 49 = .ok (.bipush 101, 2) := by decide +kernel
theorem dX7_readRest_51 : decode cX7_readRest 51 = .ok (.if_icmp .ne 26, 3) := by decide +kernel
theorem dX7_readRest_54 : decode cX7_readRest 54 = .ok (.aload_n 0, 1) := by decide +kernel
theorem dX7_readRest_55 : decode cX7_readRest 55 = .ok (.iconst 0, 1) := by decide +kernel
theorem dX7_readRest_56 : decode cX7_readRest 56 = .ok (.bipush 9, 2) := by decide +kernel
theorem dX7_readRest_58 : decode cX7_readRest 58 = .ok (.invokevirtual 67, 3) := by decide +kernel
theorem dX7_readRest_61 : decode cX7_readRest 61 = .ok (.istore_n 3, 1) := by decide +kernel
theorem dX7_readRest_62 : decode cX7_readRest 62 = .ok (.aload_n 2, 1) := by decide +kernel
theorem dX7_readRest_63 : decode cX7_readRest 63 = .ok (.iload_n 3, 1) := by decide +kernel
theorem dX7_readRest_64 : decode cX7_readRest 64 = .ok (.aload_n 0, 1) := by decide +kernel
theorem dX7_readRest_65 : decode cX7_readRest 65 = .ok (.iconst 1, 1) := by decide +kernel
theorem dX7_readRest_66 : decode cX7_readRest 66 = .ok (.bipush 9, 2) := by decide +kernel
theorem dX7_readRest_68 : decode cX7_readRest 68 = .ok (.invokevirtual 67, 3) := by decide +kernel
theorem dX7_readRest_71 : decode cX7_readRest 71 = .ok (.invokevirtual 74, 3) := by decide +kernel
theorem dX7_readRest_74 : decode cX7_readRest 74 = .ok (.goto 8, 3) := by decide +kernel
theorem dX7_readRest_77 : decode cX7_readRest 77 = .ok (.aload_n 0, 1) := by decide +kernel
theorem dX7_readRest_78 : decode cX7_readRest 78 = .ok (.aload_n 2, 1) := by decide +kernel
theorem dX7_readRest_79 : decode cX7_readRest 79 = .ok (.invokevirtual 77, 3) := by decide +kernel
theorem dX7_readRest_82 : decode cX7_readRest 82 = .ok (.return_, 1) := by decide +kernel
theorem dX7_readType_0 : decode cX7_readType 0 = .ok (.iconst 0, 1) := by decide +kernel
theorem dX7_readType_1 : decode cX7_readType 1 = .ok (.istore_n 2, 1) := by decide +kernel
theorem dX7_readType_2 : decode cX7_readType 2 = .ok (.iconst 1, 1) := by decide +kernel
theorem dX7_readType_3 : decode cX7_readType 3 = .ok (.istore_n 3, 1) := by decide +kernel
theorem dX7_readType_4 : decode cX7_readType 4 = .ok (.iload_n 3, 1) := by decide +kernel
theorem dX7_readType_5 : decode cX7_readType 5 = .ok (.ifCond .eq 62, 3) := by decide +kernel
theorem dX7_readType_8 : decode cX7_readType 8 = .ok (.iload_n 2, 1) := by decide +kernel
theorem dX7_readType_9 : decode cX7_readType 9 = .ok (.bipush 8, 2) := by decide +kernel
theorem dX7_readType_11 : decode cX7_readType 11 = .ok (.if_icmp .ge 56, 3) := by decide +kernel
theorem dX7_readType_14 : decode cX7_readType 14 = .ok (.aload_n 0, 1) := by decide +kernel
theorem dX7_readType_15 : decode cX7_readType 15 = .ok (.getfield 15, 3) := by decide +kernel
theorem dX7_readType_18 : decode cX7_readType 18 = .ok (.iload_n 2, 1) := by decide +kernel
theorem dX7_readType_19 : decode cX7_readType 19 = .ok (.aload_n 0, 1) := by decide +kernel
theorem dX7_readType_20 : decode cX7_readType 20 = .ok (.iconst 0, 1) := by decide +kernel
theorem dX7_readType_21 : decode cX7_readType 21 = .ok (.iconst 4, 1) := by decide +kernel
theorem dX7_readType_22 : decode cX7_readType 22 = .ok (.invokevirtual 67, 3) := by decide +kernel
theorem dX7_readType_25 : decode cX7_readType 25 = .ok (.iastore, 1) := by decide +kernel
theorem dX7_readType_26 : decode cX7_readType 26 = .ok (.iinc 2 1, 3) := by decide +kernel
theorem dX7_readType_29 : decode cX7_readType 29 = .ok (.iload_n 2, 1) := by decide +kernel
theorem dX7_readType_30 : decode cX7_readType 30 = .ok (.bipush 8, 2) := by decide +kernel
theorem dX7_readType_32 : decode cX7_readType 32 = .ok (.if_icmp .ge 16, 3) := by decide +kernel
theorem dX7_readType_35 : decode cX7_readType 35 = .ok (.aload_n 0, 1) := by decide +kernel
theorem dX7_readType_36 : decode cX7_readType 36 = .ok (.invokevirtual 48, 3) := by decide +kernel
theorem dX7_readType_39 : decode cX7_readType 39 = .ok (.bipush 44, 2) := by decide +kernel
theorem dX7_readType_41 : decode cX7_readType 41 = .ok (.if_icmp .ne 7, 3) := by decide +kernel
theorem dX7_readType_44 : decode cX7_readType 44 = .ok (.iconst 1, 1) := by decide +kernel
theorem dX7_readType_45 : decode cX7_readType 45 = .ok (.goto 4, 3) := by decide +kernel
theorem dX7_readType_48 : decode cX7_readType 48 = .ok (.iconst 0, 1) := by decide +kernel
theorem dX7_readType_49 : decode cX7_readType 49 = .ok (.istore_n 3, 1) := by decide +kernel
theorem dX7_readType_50 : decode cX7_readType 50 = .ok (.iload_n 3, 1) := by decide +kernel
theorem dX7_readType_51 : decode cX7_readType 51 = .ok (.ifCond .eq (-47), 3) := by decide +kernel
theorem dX7_readType_54 : decode cX7_readType 54 = .ok (.aload_n 0, 1) := by decide +kernel
theorem dX7_readType_55 : decode cX7_readType 55 = .ok (.dup, 1) := by decide +kernel
theorem dX7_readType_56 : decode cX7_readType 56 = .ok (.getfield 22, 3) := by decide +kernel
theorem dX7_readType_59 : decode cX7_readType 59 = .ok (.iconst 1, 1) := by decide +kernel
theorem dX7_readType_60 : decode cX7_readType 60 = .ok (.iadd, 1) := by decide +kernel
theorem dX7_readType_61 : decode cX7_readType 61 = .ok (.putfield 22, 3) := by decide +kernel
theorem dX7_readType_64 : decode cX7_readType 64 = .ok (.goto (-60), 3) := by decide +kernel
theorem dX7_readType_67 : decode cX7_readType 67 = .ok (.aload_n 1, 1) := by decide +kernel
theorem dX7_readType_68 : decode cX7_readType 68 = .ok (.aload_n 0, 1) := by decide +kernel
theorem dX7_readType_69 : decode cX7_readType 69 = .ok (.getfield 15, 3) := by decide +kernel
theorem dX7_readType_72 : decode cX7_readType 72 = .ok (.iload_n 2, 1) := by decide +kernel
theorem dX7_readType_73 : decode cX7_readType 73 = .ok (.invokevirtual 80, 3) := by decide +kernel
theorem dX7_readType_76 : decode cX7_readType 76 = .ok (.return_, 1) := by decide +kernel
theorem dX7_readNumber_0 : decode cX7_readNumber 0 = .ok (.aload_n 0, 1) := by decide +kernel
theorem dX7_readNumber_1 : decode cX7_readNumber 1 = .ok (.invokevirtual 37, 3) := by decide +kernel
theorem dX7_readNumber_4 : decode cX7_readNumber 4 = .ok (.aload_n 0, 1) := by decide +kernel
theorem dX7_readNumber_5 : decode cX7_readNumber 5 = .ok (.getfield 22, 3) := by decide +kernel
theorem dX7_readNumber_8 : decode cX7_readNumber 8 = .ok (.istore_n 3, 1) := by decide +kernel
theorem dX7_readNumber_9 : decode cX7_readNumber 9 = .ok (.iconst 0, 1) := by decide +kernel
theorem dX7_readNumber_10 : decode cX7_readNumber 10 = .ok (.istore 4, 2) := by decide +kernel
theorem dX7_readNumber_12 : decode cX7_readNumber 12 = .ok (.aload_n 0, 1) := by decide +kernel
theorem dX7_readNumber_13 : decode cX7_readNumber 13 = .ok (.getfield 22, 3) := by decide +kernel
theorem dX7_readNumber_16 : decode cX7_readNumber 16 = .ok (.aload_n 0, 1) := by decide +kernel
theorem dX7_readNumber_17 : decode cX7_readNumber 17 = .ok (.getfield 18, 3) := by decide +kernel
theorem dX7_readNumber_20 : decode cX7_readNumber 20 = .ok (.if_icmp .ge 74, 3) := by decide +kernel
theorem dX7_readNumber_23 : decode cX7_readNumber 23 = .ok (.aload_n 0, 1) := by decide +kernel
theorem dX7_readNumber_24 : decode cX7_readNumber 24 = .ok (.getfield 9, 3) := by decide +kernel
theorem dX7_readNumber_27 : decode cX7_readNumber 27 = .ok (.aload_n 0, 1) := by decide +kernel
theorem dX7_readNumber_28 : decode cX7_readNumber 28 = .ok (.getfield 22, 3) := by decide +kernel
theorem dX7_readNumber_31 : decode cX7_readNumber 31 = .ok (.iaload, 1) := by decide +kernel
theorem dX7_readNumber_32 : decode cX7_readNumber 32 = .ok (.bipush 48, 2) := by decide +kernel
theorem dX7_readNumber_34 : decode cX7_readNumber 34 = .ok (.if_icmp .lt 60, 3) := by decide +kernel
theorem dX7_readNumber_37 : decode cX7_readNumber 37 = .ok (.aload_n 0, 1) := by decide +kernel
theorem dX7_readNumber_38 : decode cX7_readNumber 38 = .ok (.getfield 9, 3) := by decide +kernel
theorem dX7_readNumber_41 : decode cX7_readNumber 41 = .ok (.aload_n 0, 1) := by decide +kernel
theorem dX7_readNumber_42 : decode cX7_readNumber 42 = .ok (.getfield 22, 3) := by decide +kernel
theorem dX7_readNumber_45 : decode cX7_readNumber 45 = .ok (.iaload, 1) := by decide +kernel
theorem dX7_readNumber_46 : decode cX7_readNumber 46 = .ok (.bipush 57, 2) := by decide +kernel
theorem dX7_readNumber_48 : decode cX7_readNumber 48 = .ok (.if_icmp .gt 46, 3) := by decide +kernel
theorem dX7_readNumber_51 : decode cX7_readNumber 51 = .ok (.aload_n 0, 1) := by decide +kernel
theorem dX7_readNumber_52 : decode cX7_readNumber 52 = .ok (.getfield 22, 3) := by decide +kernel
theorem dX7_readNumber_55 : decode cX7_readNumber 55 = .ok (.iload_n 3, 1) := by decide +kernel
theorem dX7_readNumber_56 : decode cX7_readNumber 56 = .ok (.isub, 1) := by decide +kernel
theorem dX7_readNumber_57 : decode cX7_readNumber 57 = .ok (.iconst 3, 1) := by decide +kernel
theorem dX7_readNumber_58 : decode cX7_readNumber 58 = .ok (.if_icmp .ge 23, 3) := by decide +kernel
theorem dX7_readNumber_61 : decode cX7_readNumber 61 = .ok (.iload 4, 2) := by decide +kernel
theorem dX7_readNumber_63 : decode cX7_readNumber 63 = .ok (.bipush 10, 2) := by decide +kernel
theorem dX7_readNumber_65 : decode cX7_readNumber 65 = .ok (.imul, 1) := by decide +kernel
theorem dX7_readNumber_66 : decode cX7_readNumber 66 = .ok (.aload_n 0, 1) := by decide +kernel
theorem dX7_readNumber_67 : decode cX7_readNumber 67 = .ok (.getfield 9, 3) := by decide +kernel
theorem dX7_readNumber_70 : decode cX7_readNumber 70 = .ok (.aload_n 0, 1) := by decide +kernel
theorem dX7_readNumber_71 : decode cX7_readNumber 71 = .ok (.getfield 22, 3) := by decide +kernel
theorem dX7_readNumber_74 : decode cX7_readNumber 74 = .ok (.iaload, 1) := by decide +kernel
theorem dX7_readNumber_75 : decode cX7_readNumber 75 = .ok (.iadd, 1) := by decide +kernel
theorem dX7_readNumber_76 : decode cX7_readNumber 76 = .ok (.bipush 48, 2) := by decide +kernel
theorem dX7_readNumber_78 : decode cX7_readNumber 78 = .ok (.isub, 1) := by decide +kernel
theorem dX7_readNumber_79 : decode cX7_readNumber 79 = .ok (.istore 4, 2) := by decide +kernel
theorem dX7_readNumber_81 : decode cX7_readNumber 81 = .ok (.aload_n 0, 1) := by decide +kernel
theorem dX7_readNumber_82 : decode cX7_readNumber 82 = .ok (.dup, 1) := by decide +kernel
theorem dX7_readNumber_83 : decode cX7_readNumber 83 = .ok (.getfield 22, 3) := by decide +kernel
theorem dX7_readNumber_86 : decode cX7_readNumber 86 = .ok (.iconst 1, 1) := by decide +kernel
theorem dX7_readNumber_87 : decode cX7_readNumber 87 = .ok (.iadd, 1) := by decide +kernel
theorem dX7_readNumber_88 : decode cX7_readNumber 88 = .ok (.putfield 22, 3) := by decide +kernel
theorem dX7_readNumber_91 : decode cX7_readNumber 91 = .ok (.goto (-79), 3) := by decide +kernel
theorem dX7_readNumber_94 : decode cX7_readNumber 94 = .ok (.aload_n 0, 1) := by decide +kernel
theorem dX7_readNumber_95 : decode cX7_readNumber 95 = .ok (.getfield 22, 3) := by decide +kernel
theorem dX7_readNumber_98 : decode cX7_readNumber 98 = .ok (.iload_n 3, 1) := by decide +kernel
theorem dX7_readNumber_99 : decode cX7_readNumber 99 = .ok (.if_icmp .ne 15, 3) := by decide +kernel
theorem dX7_readNumber_102 : decode cX7_readNumber 102 = .ok (.aload_n 0, 1) := by decide +kernel
theorem dX7_readNumber_103 : decode cX7_readNumber 103 = .ok (.iconst 1, 1) := by decide +kernel
theorem dX7_readNumber_104 : decode cX7_readNumber 104 = .ok (.aload_n 0, 1) := by decide +kernel
theorem dX7_readNumber_105 : decode cX7_readNumber 105 = .ok (.getfield 22, 3) := by decide +kernel
theorem dX7_readNumber_108 : decode cX7_readNumber 108 = .ok (.invokevirtual 55, 3) := by decide +kernel
theorem dX7_readNumber_111 : decode cX7_readNumber 111 = .ok (.goto 31, 3) := by decide +kernel
theorem dX7_readNumber_114 : decode cX7_readNumber 114 = .ok (.aload_n 0, 1) := by decide +kernel
theorem dX7_readNumber_115 : decode cX7_readNumber 115 = .ok (.getfield 22, 3) := by decide +kernel
theorem dX7_readNumber_118 : decode cX7_readNumber 118 = .ok (.iload_n 3, 1) := by decide +kernel
theorem dX7_readNumber_119 : decode cX7_readNumber 119 = .ok (.isub, 1) := by decide +kernel
theorem dX7_readNumber_120 : decode cX7_readNumber 120 = .ok (.iconst 3, 1) := by decide +kernel
theorem dX7_readNumber_121 : decode cX7_readNumber 121 = .ok (.if_icmp .gt 15, 3) := by decide +kernel
theorem dX7_readNumber_124 : decode cX7_readNumber 124 = .ok (.iload 4, 2) := by decide +kernel
theorem dX7_readNumber_126 : decode cX7_readNumber 126 = .ok (.iload_n 1, 1) := by decide +kernel
theorem dX7_readNumber_127 : decode cX7_readNumber 127 = .ok (.if_icmp .lt 9, 3) := by decide +kernel
theorem dX7_readNumber_130 : decode cX7_readNumber 130 = .ok (.iload 4, 2) := by decide +kernel
theorem dX7_readNumber_132 : decode cX7_readNumber 132 = .ok (.iload_n 2, 1) := by decide +kernel
theorem dX7_readNumber_133 : decode cX7_readNumber 133 = .ok (.if_icmp .le 9, 3) := by decide +kernel
theorem dX7_readNumber_136 : decode cX7_readNumber 136 = .ok (.aload_n 0, 1) := by decide +kernel
theorem dX7_readNumber_137 : decode cX7_readNumber 137 = .ok (.iconst 2, 1) := by decide +kernel
theorem dX7_readNumber_138 : decode cX7_readNumber 138 = .ok (.iload_n 3, 1) := by decide +kernel
theorem dX7_readNumber_139 : decode cX7_readNumber 139 = .ok (.invokevirtual 55, 3) := by decide +kernel
theorem dX7_readNumber_142 : decode cX7_readNumber 142 = .ok (.aload_n 0, 1) := by decide +kernel
theorem dX7_readNumber_143 : decode cX7_readNumber 143 = .ok (.invokevirtual 37, 3) := by decide +kernel
theorem dX7_readNumber_146 : decode cX7_readNumber 146 = .ok (.iload 4, 2) := by decide +kernel
theorem dX7_readNumber_148 : decode cX7_readNumber 148 = .ok (.ireturn, 1) := by decide +kernel
theorem dX7_skipBlanks_0 : decode cX7_skipBlanks 0 = .ok (.aload_n 0, 1) := by decide +kernel
theorem dX7_skipBlanks_1 : decode cX7_skipBlanks 1 = .ok (.getfield 22, 3) := by decide +kernel
theorem dX7_skipBlanks_4 : decode cX7_skipBlanks 4 = .ok (.aload_n 0, 1) := by decide +kernel
theorem dX7_skipBlanks_5 : decode cX7_skipBlanks 5 = .ok (.getfield 18, 3) := by decide +kernel
theorem dX7_skipBlanks_8 : decode cX7_skipBlanks 8 = .ok (.if_icmp .ge 30, 3) := by decide +kernel
theorem dX7_skipBlanks_11 : decode cX7_skipBlanks 11 = .ok (.aload_n 0, 1) := by decide +kernel
theorem dX7_skipBlanks_12 : decode cX7_skipBlanks 12 = .ok (.getfield 9, 3) := by decide +kernel
theorem dX7_skipBlanks_15 : decode cX7_skipBlanks 15 = .ok (.aload_n 0, 1) := by decide +kernel
theorem dX7_skipBlanks_16 : decode cX7_skipBlanks 16 = .ok (.getfield 22, 3) := by decide +kernel
theorem dX7_skipBlanks_19 : decode cX7_skipBlanks 19 = .ok (.iaload, 1) := by decide +kernel
theorem dX7_skipBlanks_20 : decode cX7_skipBlanks 20 = .ok (.bipush 32, 2) := by decide +kernel
theorem dX7_skipBlanks_22 : decode cX7_skipBlanks 22 = .ok (.if_icmp .ne 16, 3) := by decide +kernel
theorem dX7_skipBlanks_25 : decode cX7_skipBlanks 25 = .ok (.aload_n 0, 1) := by decide +kernel
theorem dX7_skipBlanks_26 : decode cX7_skipBlanks 26 = .ok (.dup, 1) := by decide +kernel
theorem dX7_skipBlanks_27 : decode cX7_skipBlanks 27 = .ok (.getfield 22, 3) := by decide +kernel
theorem dX7_skipBlanks_30 : decode cX7_skipBlanks 30 = .ok (.iconst 1, 1) := by decide +kernel
theorem dX7_skipBlanks_31 : decode cX7_skipBlanks 31 = .ok (.iadd, 1) := by decide +kernel
theorem dX7_skipBlanks_32 : decode cX7_skipBlanks 32 = .ok (.putfield 22, 3) := by decide +kernel
theorem dX7_skipBlanks_35 : decode cX7_skipBlanks 35 = .ok (.goto (-35), 3) := by decide +kernel
theorem dX7_skipBlanks_38 : decode cX7_skipBlanks 38 = .ok (.return_, 1) := by decide +kernel
theorem dX7_here_0 : decode cX7_here 0 = .ok (.aload_n 0, 1) := by decide +kernel
theorem dX7_here_1 : decode cX7_here 1 = .ok (.getfield 22, 3) := by decide +kernel
theorem dX7_here_4 : decode cX7_here 4 = .ok (.aload_n 0, 1) := by decide +kernel
theorem dX7_here_5 : decode cX7_here 5 = .ok (.getfield 18, 3) := by decide +kernel
theorem dX7_here_8 : decode cX7_here 8 = .ok (.if_icmp .ge 15, 3) := by decide +kernel
theorem dX7_here_11 : decode cX7_here 11 = .ok (.aload_n 0, 1) := by decide +kernel
theorem dX7_here_12 : decode cX7_here 12 = .ok (.getfield 9, 3) := by decide +kernel
theorem dX7_here_15 : decode cX7_here 15 = .ok (.aload_n 0, 1) := by decide +kernel
theorem dX7_here_16 : decode cX7_here 16 = .ok (.getfield 22, 3) := by decide +kernel
theorem dX7_here_19 : decode cX7_here 19 = .ok (.iaload, 1) := by decide +kernel
theorem dX7_here_20 : decode cX7_here 20 = .ok (.goto 4, 3) := by decide +kernel
theorem dX7_here_23 : decode cX7_here 23 = .ok (.iconst (-1), 1) := by decide +kernel
theorem dX7_here_24 : decode cX7_here 24 = .ok (.ireturn, 1) := by decide +kernel
theorem dX7_blame_0 : decode cX7_blame 0 = .ok (.aload_n 0, 1) := by decide +kernel
theorem dX7_blame_1 : decode cX7_blame 1 = .ok (.getfield 25, 3) := by decide +kernel
theorem dX7_blame_4 : decode cX7_blame 4 = .ok (.ifCond .ne 13, 3) := by decide +kernel
theorem dX7_blame_7 : decode cX7_blame 7 = .ok (.aload_n 0, 1) := by decide +kernel
theorem dX7_blame_8 : decode cX7_blame 8 = .ok (.iload_n 1, 1) := by decide +kernel
theorem dX7_blame_9 : decode cX7_blame 9 = .ok (.putfield 25, 3) := by decide +kernel
theorem dX7_blame_12 : decode cX7_blame 12 = .ok (.aload_n 0, 1) := by decide +kernel
theorem dX7_blame_13 : decode cX7_blame 13 = .ok (.iload_n 2, 1) := by decide +kernel
theorem dX7_blame_14 : decode cX7_blame 14 = .ok (.putfield 28, 3) := by decide +kernel
theorem dX7_blame_17 : decode cX7_blame 17 = .ok (.return_, 1) := by decide +kernel
theorem dX8_init_0 : decode cX8_init 0 = .ok (.aload_n 0, 1) := by decide +kernel
theorem dX8_init_1 : decode cX8_init 1 = .ok (.invokespecial 3, 3) := by decide +kernel
theorem dX8_init_4 : decode cX8_init 4 = .ok (.aload_n 0, 1) := by decide +kernel
theorem dX8_init_5 : decode cX8_init 5 = .ok (.bipush 13, 2) := by decide +kernel
theorem dX8_init_7 : decode cX8_init 7 = .ok (.newarray .int, 2) := by decide +kernel
theorem dX8_init_9 : decode cX8_init 9 = .ok (.putfield 9, 3) := by decide +kernel
theorem dX8_init_12 : decode cX8_init 12 = .ok (.aload_n 0, 1) := by decide +kernel
theorem dX8_init_13 : decode cX8_init 13 = .ok (.bipush 13, 2) := by decide +kernel
theorem dX8_init_15 : decode cX8_init 15 = .ok (.newarray .int, 2) := by decide +kernel
theorem dX8_init_17 : decode cX8_init 17 = .ok (.putfield 15, 3) := by decide +kernel
theorem dX8_init_20 : decode cX8_init 20 = .ok (.aload_n 0, 1) := by decide +kernel
theorem dX8_init_21 : decode cX8_init 21 = .ok (.iconst 5, 1) := by decide +kernel
theorem dX8_init_22 : decode cX8_init 22 = .ok (.newarray .int, 2) := by decide +kernel
theorem dX8_init_24 : decode cX8_init 24 = .ok (.putfield 18, 3) := by decide +kernel
theorem dX8_init_27 : decode cX8_init 27 = .ok (.aload_n 0, 1) := by decide +kernel
theorem dX8_init_28 : decode cX8_init 28 = .ok (.bipush 6, 2) := by decide +kernel
theorem dX8_init_30 : decode cX8_init 30 = .ok (.newarray .int, 2) := by decide +kernel
theorem dX8_init_32 : decode cX8_init 32 = .ok (.putfield 21, 3) := by decide +kernel
theorem dX8_init_35 : decode cX8_init 35 = .ok (.return_, 1) := by decide +kernel
theorem dX8_bestPeels_0 : decode cX8_bestPeels 0 = .ok (.iconst 0, 1) := by decide +kernel
theorem dX8_bestPeels_1 : decode cX8_bestPeels 1 = .ok (.istore_n 2, 1) := by decide +kernel
theorem dX8_bestPeels_2 : decode cX8_bestPeels 2 = .ok (.iconst 0, 1) := by decide +kernel
theorem dX8_bestPeels_3 : decode cX8_bestPeels 3 = .ok (.istore_n 3, 1) := by decide +kernel
theorem dX8_bestPeels_4 : decode cX8_bestPeels 4 = .ok (.iconst 1, 1) := by decide +kernel
theorem dX8_bestPeels_5 : decode cX8_bestPeels 5 = .ok (.istore 4, 2) := by decide +kernel
theorem dX8_bestPeels_7 : decode cX8_bestPeels 7 = .ok (.iload 4, 2) := by decide +kernel
theorem dX8_bestPeels_9 : decode cX8_bestPeels 9 = .ok (.aload_n 0, 1) := by decide +kernel
theorem dX8_bestPeels_10 : decode cX8_bestPeels 10 = .ok (.getfield 24, 3) := by decide +kernel
theorem dX8_bestPeels_13 : decode cX8_bestPeels 13 = .ok (.if_icmp .gt 30, 3) := by decide +kernel
theorem dX8_bestPeels_16 : decode cX8_bestPeels 16 = .ok (.aload_n 0, 1) := by decide +kernel
theorem dX8_bestPeels_17 : decode cX8_bestPeels 17 = .ok (.iload_n 1, 1) := by decide +kernel
theorem dX8_bestPeels_18 : decode cX8_bestPeels 18 = .ok (.iload 4, 2) := by decide +kernel
theorem dX8_bestPeels_20 : decode cX8_bestPeels 20 = .ok (.invokestatic 30, 3) := by decide +kernel
theorem dX8_bestPeels_23 : decode cX8_bestPeels 23 = .ok (.istore 5, 2) := by decide +kernel
theorem dX8_bestPeels_25 : decode cX8_bestPeels 25 = .ok (.iload 5, 2) := by decide +kernel
theorem dX8_bestPeels_27 : decode cX8_bestPeels 27 = .ok (.iload_n 3, 1) := by decide +kernel
theorem dX8_bestPeels_28 : decode cX8_bestPeels 28 = .ok (.if_icmp .le 9, 3) := by decide +kernel
theorem dX8_bestPeels_31 : decode cX8_bestPeels 31 = .ok (.iload 5, 2) := by decide +kernel
theorem dX8_bestPeels_33 : decode cX8_bestPeels 33 = .ok (.istore_n 3, 1) := by decide +kernel
theorem dX8_bestPeels_34 : decode cX8_bestPeels 34 = .ok (.iload 4, 2) := by decide +kernel
theorem dX8_bestPeels_36 : decode cX8_bestPeels 36 = .ok (.istore_n 2, 1) := by decide +kernel
theorem dX8_bestPeels_37 : decode cX8_bestPeels 37 = .ok (.iinc 4 1, 3) := by decide +kernel
theorem dX8_bestPeels_40 : decode cX8_bestPeels 40 = .ok (.goto (-33), 3) := by decide +kernel
theorem dX8_bestPeels_43 : decode cX8_bestPeels 43 = .ok (.iload_n 2, 1) := by decide +kernel
theorem dX8_bestPeels_44 : decode cX8_bestPeels 44 = .ok (.ireturn, 1) := by decide +kernel
theorem dX8_gainOf_0 : decode cX8_gainOf 0 = .ok (.iconst 0, 1) := by decide +kernel
theorem dX8_gainOf_1 : decode cX8_gainOf 1 = .ok (.istore_n 3, 1) := by decide +kernel
theorem dX8_gainOf_2 : decode cX8_gainOf 2 = .ok (.iconst 0, 1) := by decide +kernel
theorem dX8_gainOf_3 : decode cX8_gainOf 3 = .ok (.istore 4, 2) := by decide +kernel
theorem dX8_gainOf_5 : decode cX8_gainOf 5 = .ok (.iload 4, 2) := by decide +kernel
theorem dX8_gainOf_7 : decode cX8_gainOf 7 = .ok (.iload_n 2, 1) := by decide +kernel
theorem dX8_gainOf_8 : decode cX8_gainOf 8 = .ok (.if_icmp .ge 55, 3) := by decide +kernel
theorem dX8_gainOf_11 : decode cX8_gainOf 11 = .ok (.iload 4, 2) := by decide +kernel
theorem dX8_gainOf_13 : decode cX8_gainOf 13 = .ok (.aload_n 0, 1) := by decide +kernel
theorem dX8_gainOf_14 : decode cX8_gainOf 14 = .ok (.getfield 24, 3) := by decide +kernel
theorem dX8_gainOf_17 : decode cX8_gainOf 17 = .ok (.if_icmp .ge 46, 3) := by decide +kernel
theorem dX8_gainOf_20 : decode cX8_gainOf 20 = .ok (.iload_n 3, 1) := by decide +kernel
theorem dX8_gainOf_21 : decode cX8_gainOf 21 = .ok (.aload_n 0, 1) := by decide +kernel
theorem dX8_gainOf_22 : decode cX8_gainOf 22 = .ok (.iload 4, 2) := by decide +kernel
theorem dX8_gainOf_24 : decode cX8_gainOf 24 = .ok (.invokevirtual 34, 3) := by decide +kernel
theorem dX8_gainOf_27 : decode cX8_gainOf 27 = .ok (.aload_n 0, 1) := by decide +kernel
theorem dX8_gainOf_28 : decode cX8_gainOf 28 = .ok (.iload 4, 2) := by decide +kernel
theorem dX8_gainOf_30 : decode cX8_gainOf 30 = .ok (.invokevirtual 38, 3) := by decide +kernel
theorem dX8_gainOf_33 : decode cX8_gainOf 33 = .ok (.isub, 1) := by decide +kernel
theorem dX8_gainOf_34 : decode cX8_gainOf 34 = .ok (.iload_n 1, 1) := by decide +kernel
theorem dX8_gainOf_35 : decode cX8_gainOf 35 = .ok (.isub, 1) := by decide +kernel
theorem dX8_gainOf_36 : decode cX8_gainOf 36 = .ok (.iadd, 1) := by decide +kernel
theorem dX8_gainOf_37 : decode cX8_gainOf 37 = .ok (.istore_n 3, 1) := by decide +kernel
theorem dX8_gainOf_38 : decode cX8_gainOf 38 = .ok (.iload 4, 2) := by decide +kernel
theorem dX8_gainOf_40 : decode cX8_gainOf 40 = .ok (.ifCond .le 17, 3) := by decide +kernel
theorem dX8_gainOf_43 : decode cX8_gainOf 43 = .ok (.aload_n 0, 1) := by decide +kernel
theorem dX8_gainOf_44 : decode cX8_gainOf 44 = .ok (.getfield 41, 3) := by decide +kernel
theorem dX8_gainOf_47 : decode cX8_gainOf 47 = .ok (.iload 4, 2) := by decide +kernel
theorem dX8_gainOf_49 : decode cX8_gainOf 49 = .ok (.iaload, 1) := by decide +kernel
theorem dX8_gainOf_50 : decode cX8_gainOf 50 = .ok (.iconst 4, 1) := by decide +kernel
theorem dX8_gainOf_51 : decode cX8_gainOf 51 = .ok (.if_icmp .ne 6, 3) := by decide +kernel
theorem dX8_gainOf_54 : decode cX8_gainOf 54 = .ok (.iinc 3 5, 3) := by decide +kernel
theorem dX8_gainOf_57 : decode cX8_gainOf 57 = .ok (.iinc 4 1, 3) := by decide +kernel
theorem dX8_gainOf_60 : decode cX8_gainOf 60 = .ok (.goto (-55), 3) := by decide +kernel
theorem dX8_gainOf_63 : decode cX8_gainOf 63 = .ok (.iload_n 3, 1) := by decide +kernel
theorem dX8_gainOf_64 : decode cX8_gainOf 64 = .ok (.ireturn, 1) := by decide +kernel
theorem dX8_partUp_0 : decode cX8_partUp 0 = .ok (.aload_n 1, 1) := by decide +kernel
theorem dX8_partUp_1 : decode cX8_partUp 1 = .ok (.getfield 24, 3) := by decide +kernel
theorem dX8_partUp_4 : decode cX8_partUp 4 = .ok (.istore_n 3, 1) := by decide +kernel
theorem dX8_partUp_5 : decode cX8_partUp 5 = .ok (.aload_n 0, 1) := by decide +kernel
theorem dX8_partUp_6 : decode cX8_partUp 6 = .ok (.getfield 15, 3) := by decide +kernel
theorem dX8_partUp_9 : decode cX8_partUp 9 = .ok (.iconst 0, 1) := by decide +kernel
theorem dX8_partUp_10 : decode cX8_partUp 10 = .ok (.iconst 0, 1) := by decide +kernel
theorem dX8_partUp_11 : decode cX8_partUp 11 = .ok (.iastore, 1) := by decide +kernel
theorem dX8_partUp_12 : decode cX8_partUp 12 = .ok (.iconst 0, 1) := by decide +kernel
theorem dX8_partUp_13 : decode cX8_partUp 13 = .ok (.istore 4, 2) := by decide +kernel
theorem dX8_partUp_15 : decode cX8_partUp 15 = .ok (.iload 4, 2) := by decide +kernel
theorem dX8_partUp_17 : decode cX8_partUp 17 = .ok (.iload_n 3, 1) := by decide +kernel
theorem dX8_partUp_18 : decode cX8_partUp 18 = .ok (.if_icmp .ge 32, 3) := by decide +kernel
theorem dX8_partUp_21 : decode cX8_partUp 21 = .ok (.aload_n 0, 1) := by decide +kernel
theorem dX8_partUp_22 : decode cX8_partUp 22 = .ok (.getfield 15, 3) := by decide +kernel
theorem dX8_partUp_25 : decode cX8_partUp 25 = .ok (.iload 4, 2) := by decide +kernel
theorem dX8_partUp_27 : decode cX8_partUp 27 = .ok (.iconst 1, 1) := by decide +kernel
theorem dX8_partUp_28 : decode cX8_partUp 28 = .ok (.iadd, 1) := by decide +kernel
theorem dX8_partUp_29 : decode cX8_partUp 29 = .ok (.aload_n 0, 1) := by decide +kernel
theorem dX8_partUp_30 : decode cX8_partUp 30 = .ok (.getfield 15, 3) := by decide +kernel
theorem dX8_partUp_33 : decode cX8_partUp 33 = .ok (.iload 4, 2) := by decide +kernel
theorem dX8_partUp_35 : decode cX8_partUp 35 = .ok (.iaload, 1) := by decide +kernel
theorem dX8_partUp_36 : decode cX8_partUp 36 = .ok (.aload_n 1, 1) := by decide +kernel
theorem dX8_partUp_37 : decode cX8_partUp 37 = .ok (.iload 4, 2) := by decide +kernel
theorem dX8_partUp_39 : decode cX8_partUp 39 = .ok (.invokevirtual 38, 3) := by decide +kernel
theorem dX8_partUp_42 : decode cX8_partUp 42 = .ok (.iadd, 1) := by decide +kernel
theorem dX8_partUp_43 : decode cX8_partUp 43 = .ok (.iastore, 1) := by decide +kernel
theorem dX8_partUp_44 : decode cX8_partUp 44 = .ok (.iinc 4 1, 3) := by decide +kernel
theorem dX8_partUp_47 : decode cX8_partUp 47 = .ok (.goto (-32), 3) := by decide +kernel
theorem dX8_partUp_50 : decode cX8_partUp 50 = .ok (.iconst 0, 1) := by decide +kernel
theorem dX8_partUp_51 : decode cX8_partUp 51 = .ok (.istore 4, 2) := by decide +kernel
theorem dX8_partUp_53 : decode cX8_partUp 53 = .ok (.iload 4, 2) := by decide +kernel
theorem dX8_partUp_55 : decode cX8_partUp 55 = .ok (.iload_n 3, 1) := by decide +kernel
theorem dX8_partUp_56 : decode cX8_partUp 56 = .ok (.if_icmp .ge 30, 3) := by decide +kernel
theorem dX8_partUp_59 : decode cX8_partUp 59 = .ok (.aload_n 0, 1) := by decide +kernel
theorem dX8_partUp_60 : decode cX8_partUp 60 = .ok (.getfield 9, 3) := by decide +kernel
theorem dX8_partUp_63 : decode cX8_partUp 63 = .ok (.iload 4, 2) := by decide +kernel
theorem dX8_partUp_65 : decode cX8_partUp 65 = .ok (.aload_n 0, 1) := by decide +kernel
theorem dX8_partUp_66 : decode cX8_partUp 66 = .ok (.getfield 15, 3) := by decide +kernel
theorem dX8_partUp_69 : decode cX8_partUp 69 = .ok (.iload_n 3, 1) := by decide +kernel
theorem dX8_partUp_70 : decode cX8_partUp 70 = .ok (.iaload, 1) := by decide +kernel
theorem dX8_partUp_71 : decode cX8_partUp 71 = .ok (.aload_n 0, 1) := by decide +kernel
theorem dX8_partUp_72 : decode cX8_partUp 72 = .ok (.getfield 15, 3) := by decide +kernel
theorem dX8_partUp_75 : decode cX8_partUp 75 = .ok (.iload 4, 2) := by decide +kernel
theorem dX8_partUp_77 : decode cX8_partUp 77 = .ok (.iaload, 1) := by decide +kernel
theorem dX8_partUp_78 : decode cX8_partUp 78 = .ok (.isub, 1) := by decide +kernel
theorem dX8_partUp_79 : decode cX8_partUp 79 = .ok (.iastore, 1) := by decide +kernel
theorem dX8_partUp_80 : decode cX8_partUp 80 = .ok (.iinc 4 1, 3) := by decide +kernel
theorem dX8_partUp_83 : decode cX8_partUp 83 = .ok (.goto (-30), 3) := by decide +kernel
theorem dX8_partUp_86 : decode cX8_partUp 86 = .ok (.iload_n 3, 1) := by decide +kernel
theorem dX8_partUp_87 : decode cX8_partUp 87 = .ok (.istore 4, 2) := by decide +kernel
theorem dX8_partUp_89 : decode cX8_partUp 89 = .ok (.iconst 2, 1) := by decide +kernel
theorem dX8_partUp_90 : decode cX8_partUp 90 = .ok (.istore 5, 2) := by decide +kernel
theorem dX8_partUp_92 : decode cX8_partUp 92 = .ok (.iload 5, 2) := by decide +kernel
theorem dX8_partUp_94 : decode cX8_partUp 94 = .ok (.iload_n 2, 1) := by decide +kernel
theorem dX8_partUp_95 : decode cX8_partUp 95 = .ok (.if_icmp .gt 65, 3) := by decide +kernel
theorem dX8_partUp_98 : decode cX8_partUp 98 = .ok (.aload_n 0, 1) := by decide +kernel
theorem dX8_partUp_99 : decode cX8_partUp 99 = .ok (.iconst 0, 1) := by decide +kernel
theorem dX8_partUp_100 : decode cX8_partUp 100 = .ok (.iload_n 3, 1) := by decide +kernel
theorem dX8_partUp_101 : decode cX8_partUp 101 = .ok (.iload 5, 2) := by decide +kernel
theorem dX8_partUp_103 : decode cX8_partUp 103 = .ok (.isub, 1) := by decide +kernel
theorem dX8_partUp_104 : decode cX8_partUp 104 = .ok (.iconst 1, 1) := by decide +kernel
theorem dX8_partUp_105 : decode cX8_partUp 105 = .ok (.iadd, 1) := by decide +kernel
theorem dX8_partUp_106 : decode cX8_partUp 106 = .ok (.invokevirtual 44, 3) := by decide +kernel
theorem dX8_partUp_109 : decode cX8_partUp 109 = .ok (.istore 4, 2) := by decide +kernel
theorem dX8_partUp_111 : decode cX8_partUp 111 = .ok (.iconst 0, 1) := by decide +kernel
theorem dX8_partUp_112 : decode cX8_partUp 112 = .ok (.istore 6, 2) := by decide +kernel
theorem dX8_partUp_114 : decode cX8_partUp 114 = .ok (.iload 6, 2) := by decide +kernel
theorem dX8_partUp_116 : decode cX8_partUp 116 = .ok (.iload 5, 2) := by decide +kernel
theorem dX8_partUp_118 : decode cX8_partUp 118 = .ok (.iadd, 1) := by decide +kernel
theorem dX8_partUp_119 : decode cX8_partUp 119 = .ok (.iload_n 3, 1) := by decide +kernel
theorem dX8_partUp_120 : decode cX8_partUp 120 = .ok (.if_icmp .gt 34, 3) := by decide +kernel
theorem dX8_partUp_123 : decode cX8_partUp 123 = .ok (.aload_n 0, 1) := by decide +kernel
theorem dX8_partUp_124 : decode cX8_partUp 124 = .ok (.getfield 9, 3) := by decide +kernel
theorem dX8_partUp_127 : decode cX8_partUp 127 = .ok (.iload 6, 2) := by decide +kernel
theorem dX8_partUp_129 : decode cX8_partUp 129 = .ok (.aload_n 0, 1) := by decide +kernel
theorem dX8_partUp_130 : decode cX8_partUp 130 = .ok (.iload 6, 2) := by decide +kernel
theorem dX8_partUp_132 : decode cX8_partUp 132 = .ok (.aload_n 0, 1) := by decide +kernel
theorem dX8_partUp_133 : decode cX8_partUp 133 = .ok (.iload 6, 2) := by decide +kernel
theorem dX8_partUp_135 : decode cX8_partUp 135 = .ok (.iload_n 3, 1) := by decide +kernel
theorem dX8_partUp_136 : decode cX8_partUp 136 = .ok (.iload 5, 2) := by decide +kernel
theorem dX8_partUp_138 : decode cX8_partUp 138 = .ok (.isub, 1) := by decide +kernel
theorem dX8_partUp_139 : decode cX8_partUp 139 = .ok (.iconst 1, 1) := by decide +kernel
theorem dX8_partUp_140 : decode cX8_partUp 140 = .ok (.iadd, 1) := by decide +kernel
theorem dX8_partUp_141 : decode cX8_partUp 141 = .ok (.invokevirtual 44, 3) := by decide +kernel
theorem dX8_partUp_144 : decode cX8_partUp 144 = .ok (.invokevirtual 48, 3) := by decide +kernel
theorem dX8_partUp_147 : decode cX8_partUp 147 = .ok (.iastore, 1) := by decide +kernel
theorem dX8_partUp_148 : decode cX8_partUp 148 = .ok (.iinc 6 1, 3) := by decide +kernel
theorem dX8_partUp_151 : decode cX8_partUp 151 = .ok (.goto (-37), 3) := by decide +kernel
theorem dX8_partUp_154 : decode cX8_partUp 154 = .ok (.iinc 5 1, 3) := by decide +kernel
theorem dX8_partUp_157 : decode cX8_partUp 157 = .ok (.goto (-65), 3) := by decide +kernel
theorem dX8_partUp_160 : decode cX8_partUp 160 = .ok (.iload 4, 2) := by decide +kernel
theorem dX8_partUp_162 : decode cX8_partUp 162 = .ok (.ireturn, 1) := by decide +kernel
theorem dX8_firstPartEnd_0 : decode cX8_firstPartEnd 0 = .ok (.iload_n 1, 1) := by decide +kernel
theorem dX8_firstPartEnd_1 : decode cX8_firstPartEnd 1 = .ok (.iconst 1, 1) := by decide +kernel
theorem dX8_firstPartEnd_2 : decode cX8_firstPartEnd 2 = .ok (.iadd, 1) := by decide +kernel
theorem dX8_firstPartEnd_3 : decode cX8_firstPartEnd 3 = .ok (.istore_n 3, 1) := by decide +kernel
theorem dX8_firstPartEnd_4 : decode cX8_firstPartEnd 4 = .ok (.iload_n 1, 1) := by decide +kernel
theorem dX8_firstPartEnd_5 : decode cX8_firstPartEnd 5 = .ok (.iconst 2, 1) := by decide +kernel
theorem dX8_firstPartEnd_6 : decode cX8_firstPartEnd 6 = .ok (.iadd, 1) := by decide +kernel
theorem dX8_firstPartEnd_7 : decode cX8_firstPartEnd 7 = .ok (.istore 4, 2) := by decide +kernel
theorem dX8_firstPartEnd_9 : decode cX8_firstPartEnd 9 = .ok (.iload 4, 2) := by decide +kernel
theorem dX8_firstPartEnd_11 : decode cX8_firstPartEnd 11 = .ok (.iload_n 2, 1) := by decide +kernel
theorem dX8_firstPartEnd_12 : decode cX8_firstPartEnd 12 = .ok (.if_icmp .gt 28, 3) := by decide +kernel
theorem dX8_firstPartEnd_15 : decode cX8_firstPartEnd 15 = .ok (.aload_n 0, 1) := by decide +kernel
theorem dX8_firstPartEnd_16 : decode cX8_firstPartEnd 16 = .ok (.iload_n 1, 1) := by decide +kernel
theorem dX8_firstPartEnd_17 : decode cX8_firstPartEnd 17 = .ok (.iload 4, 2) := by decide +kernel
theorem dX8_firstPartEnd_19 : decode cX8_firstPartEnd 19 = .ok (.invokevirtual 48, 3) := by decide +kernel
theorem dX8_firstPartEnd_22 : decode cX8_firstPartEnd 22 = .ok (.aload_n 0, 1) := by decide +kernel
theorem dX8_firstPartEnd_23 : decode cX8_firstPartEnd 23 = .ok (.iload_n 1, 1) := by decide +kernel
theorem dX8_firstPartEnd_24 : decode cX8_firstPartEnd 24 = .ok (.iload_n 3, 1) := by decide +kernel
theorem dX8_firstPartEnd_25 : decode cX8_firstPartEnd 25 = .ok (.invokevirtual 48, 3) := by decide +kernel
theorem dX8_firstPartEnd_28 : decode cX8_firstPartEnd 28 = .ok (.if_icmp .ge 6, 3) := by decide +kernel
theorem dX8_firstPartEnd_31 : decode cX8_firstPartEnd 31 = .ok (.iload 4, 2) := by decide +kernel
theorem dX8_firstPartEnd_33 : decode cX8_firstPartEnd 33 = .ok (.istore_n 3, 1) := by decide +kernel
theorem dX8_firstPartEnd_34 : decode cX8_firstPartEnd 34 = .ok (.iinc 4 1, 3) := by decide +kernel
theorem dX8_firstPartEnd_37 : decode cX8_firstPartEnd 37 = .ok (.goto (-28), 3) := by decide +kernel
theorem dX8_firstPartEnd_40 : decode cX8_firstPartEnd 40 = .ok (.iload_n 3, 1) := by decide +kernel
theorem dX8_firstPartEnd_41 : decode cX8_firstPartEnd 41 = .ok (.ireturn, 1) := by decide +kernel
theorem dX8_greatestWith_0 : decode cX8_greatestWith 0 = .ok (.iload_n 1, 1) := by decide +kernel
theorem dX8_greatestWith_1 : decode cX8_greatestWith 1 = .ok (.ifCond .lt 14, 3) := by decide +kernel
theorem dX8_greatestWith_4 : decode cX8_greatestWith 4 = .ok (.iload_n 2, 1) := by decide +kernel
theorem dX8_greatestWith_5 : decode cX8_greatestWith 5 = .ok (.iload_n 1, 1) := by decide +kernel
theorem dX8_greatestWith_6 : decode cX8_greatestWith 6 = .ok (.if_icmp .lt 9, 3) := by decide +kernel
theorem dX8_greatestWith_9 : decode cX8_greatestWith 9 = .ok (.iload_n 2, 1) := by decide +kernel
theorem dX8_greatestWith_10 : decode cX8_greatestWith 10 = .ok (.bipush 12, 2) := by decide +kernel
theorem dX8_greatestWith_12 : decode cX8_greatestWith 12 = .ok (.if_icmp .le 5, 3) := by decide +kernel
theorem dX8_greatestWith_15 : decode cX8_greatestWith 15 = .ok (.iconst 0, 1) := by decide +kernel
theorem dX8_greatestWith_16 : decode cX8_greatestWith 16 = .ok (.ireturn, 1) := by decide +kernel
theorem dX8_greatestWith_17 : decode cX8_greatestWith 17 = .ok (.aload_n 0, 1) := by decide +kernel
theorem dX8_greatestWith_18 : decode cX8_greatestWith 18 = .ok (.getfield 15, 3) := by decide +kernel
theorem dX8_greatestWith_21 : decode cX8_greatestWith 21 = .ok (.iload_n 2, 1) := by decide +kernel
theorem dX8_greatestWith_22 : decode cX8_greatestWith 22 = .ok (.iaload, 1) := by decide +kernel
theorem dX8_greatestWith_23 : decode cX8_greatestWith 23 = .ok (.aload_n 0, 1) := by decide +kernel
theorem dX8_greatestWith_24 : decode cX8_greatestWith 24 = .ok (.getfield 15, 3) := by decide +kernel
theorem dX8_greatestWith_27 : decode cX8_greatestWith 27 = .ok (.iload_n 1, 1) := by decide +kernel
theorem dX8_greatestWith_28 : decode cX8_greatestWith 28 = .ok (.iaload, 1) := by decide +kernel
theorem dX8_greatestWith_29 : decode cX8_greatestWith 29 = .ok (.isub, 1) := by decide +kernel
theorem dX8_greatestWith_30 : decode cX8_greatestWith 30 = .ok (.aload_n 0, 1) := by decide +kernel
theorem dX8_greatestWith_31 : decode cX8_greatestWith 31 = .ok (.getfield 9, 3) := by decide +kernel
theorem dX8_greatestWith_34 : decode cX8_greatestWith 34 = .ok (.iload_n 2, 1) := by decide +kernel
theorem dX8_greatestWith_35 : decode cX8_greatestWith 35 = .ok (.iaload, 1) := by decide +kernel
theorem dX8_greatestWith_36 : decode cX8_greatestWith 36 = .ok (.invokestatic 51, 3) := by decide +kernel
theorem dX8_greatestWith_39 : decode cX8_greatestWith 39 = .ok (.ireturn, 1) := by decide +kernel
theorem dX8_playByTurns_0 : decode cX8_playByTurns 0 = .ok (.aload_n 0, 1) := by decide +kernel
theorem dX8_playByTurns_1 : decode cX8_playByTurns 1 = .ok (.getfield 9, 3) := by decide +kernel
theorem dX8_playByTurns_4 : decode cX8_playByTurns 4 = .ok (.aload_n 1, 1) := by decide +kernel
theorem dX8_playByTurns_5 : decode cX8_playByTurns 5 = .ok (.getfield 24, 3) := by decide +kernel
theorem dX8_playByTurns_8 : decode cX8_playByTurns 8 = .ok (.iconst 0, 1) := by decide +kernel
theorem dX8_playByTurns_9 : decode cX8_playByTurns 9 = .ok (.iastore, 1) := by decide +kernel
theorem dX8_playByTurns_10 : decode cX8_playByTurns 10 = .ok (.iconst 0, 1) := by decide +kernel
theorem dX8_playByTurns_11 : decode cX8_playByTurns 11 = .ok (.istore_n 2, 1) := by decide +kernel
theorem dX8_playByTurns_12 : decode cX8_playByTurns 12 = .ok (.aload_n 1, 1) := by decide +kernel
theorem dX8_playByTurns_13 : decode cX8_playByTurns 13 = .ok (.getfield 24, 3) := by decide +kernel
theorem dX8_playByTurns_16 : decode cX8_playByTurns 16 = .ok (.iconst 1, 1) := by decide +kernel
theorem dX8_playByTurns_17 : decode cX8_playByTurns 17 = .ok (.isub, 1) := by decide +kernel
theorem dX8_playByTurns_18 : decode cX8_playByTurns 18 = .ok (.istore_n 3, 1) := by decide +kernel
theorem dX8_playByTurns_19 : decode cX8_playByTurns 19 = .ok (.iload_n 3, 1) := by decide +kernel
theorem dX8_playByTurns_20 : decode cX8_playByTurns 20 = .ok (.ifCond .lt 86, 3) := by decide +kernel
theorem dX8_playByTurns_23 : decode cX8_playByTurns 23 = .ok (.aload_n 1, 1) := by decide +kernel
theorem dX8_playByTurns_24 : decode cX8_playByTurns 24 = .ok (.iload_n 3, 1) := by decide +kernel
theorem dX8_playByTurns_25 : decode cX8_playByTurns 25 = .ok (.invokevirtual 34, 3) := by decide +kernel
theorem dX8_playByTurns_28 : decode cX8_playByTurns 28 = .ok (.aload_n 0, 1) := by decide +kernel
theorem dX8_playByTurns_29 : decode cX8_playByTurns 29 = .ok (.getfield 9, 3) := by decide +kernel
theorem dX8_playByTurns_32 : decode cX8_playByTurns 32 = .ok (.iload_n 3, 1) := by decide +kernel
theorem dX8_playByTurns_33 : decode cX8_playByTurns 33 = .ok (.iconst 1, 1) := by decide +kernel
theorem dX8_playByTurns_34 : decode cX8_playByTurns 34 = .ok (.iadd, 1) := by decide +kernel
theorem dX8_playByTurns_35 : decode cX8_playByTurns 35 = .ok (.iaload, 1) := by decide +kernel
theorem dX8_playByTurns_36 : decode cX8_playByTurns 36 = .ok (.isub, 1) := by decide +kernel
theorem dX8_playByTurns_37 : decode cX8_playByTurns 37 = .ok (.istore 4, 2) := by decide +kernel
theorem dX8_playByTurns_39 : decode cX8_playByTurns 39 = .ok (.iconst 1, 1) := by decide +kernel
theorem dX8_playByTurns_40 : decode cX8_playByTurns 40 = .ok (.istore_n 2, 1) := by decide +kernel
theorem dX8_playByTurns_41 : decode cX8_playByTurns 41 = .ok (.aload_n 0, 1) := by decide +kernel
theorem dX8_playByTurns_42 : decode cX8_playByTurns 42 = .ok (.getfield 9, 3) := by decide +kernel
theorem dX8_playByTurns_45 : decode cX8_playByTurns 45 = .ok (.iload_n 3, 1) := by decide +kernel
theorem dX8_playByTurns_46 : decode cX8_playByTurns 46 = .ok (.iload 4, 2) := by decide +kernel
theorem dX8_playByTurns_48 : decode cX8_playByTurns 48 = .ok (.iastore, 1) := by decide +kernel
theorem dX8_playByTurns_49 : decode cX8_playByTurns 49 = .ok (.iload_n 3, 1) := by decide +kernel
theorem dX8_playByTurns_50 : decode cX8_playByTurns 50 = .ok (.iconst 2, 1) := by decide +kernel
theorem dX8_playByTurns_51 : decode cX8_playByTurns 51 = .ok (.iadd, 1) := by decide +kernel
theorem dX8_playByTurns_52 : decode cX8_playByTurns 52 = .ok (.aload_n 1, 1) := by decide +kernel
theorem dX8_playByTurns_53 : decode cX8_playByTurns 53 = .ok (.getfield 24, 3) := by decide +kernel
theorem dX8_playByTurns_56 : decode cX8_playByTurns 56 = .ok (.if_icmp .gt 44, 3) := by decide +kernel
theorem dX8_playByTurns_59 : decode cX8_playByTurns 59 = .ok (.aload_n 1, 1) := by decide +kernel
theorem dX8_playByTurns_60 : decode cX8_playByTurns 60 = .ok (.iload_n 3, 1) := by decide +kernel
theorem dX8_playByTurns_61 : decode cX8_playByTurns 61 = .ok (.invokevirtual 34, 3) := by decide +kernel
theorem dX8_playByTurns_64 : decode cX8_playByTurns 64 = .ok (.aload_n 1, 1) := by decide +kernel
theorem dX8_playByTurns_65 : decode cX8_playByTurns 65 = .ok (.iload_n 3, 1) := by decide +kernel
theorem dX8_playByTurns_66 : decode cX8_playByTurns 66 = .ok (.iconst 1, 1) := by decide +kernel
theorem dX8_playByTurns_67 : decode cX8_playByTurns 67 = .ok (.iadd, 1) := by decide +kernel
theorem dX8_playByTurns_68 : decode cX8_playByTurns 68 = .ok (.invokevirtual 34, 3) := by decide +kernel
theorem dX8_playByTurns_71 : decode cX8_playByTurns 71 = .ok (.iadd, 1) := by decide +kernel
theorem dX8_playByTurns_72 : decode cX8_playByTurns 72 = .ok (.aload_n 0, 1) := by decide +kernel
theorem dX8_playByTurns_73 : decode cX8_playByTurns 73 = .ok (.getfield 9, 3) := by decide +kernel
theorem dX8_playByTurns_76 : decode cX8_playByTurns 76 = .ok (.iload_n 3, 1) := by decide +kernel
theorem dX8_playByTurns_77 : decode cX8_playByTurns 77 = .ok (.iconst 2, 1) := by decide +kernel
theorem dX8_playByTurns_78 : decode cX8_playByTurns 78 = .ok (.iadd, 1) := by decide +kernel
theorem dX8_playByTurns_79 : decode cX8_playByTurns 79 = .ok (.iaload, 1) := by decide +kernel
theorem dX8_playByTurns_80 : decode cX8_playByTurns 80 = .ok (.isub, 1) := by decide +kernel
theorem dX8_playByTurns_81 : decode cX8_playByTurns 81 = .ok (.istore 5, 2) := by decide +kernel
theorem dX8_playByTurns_83 : decode cX8_playByTurns 83 = .ok (.iload 5, 2) := by decide +kernel
theorem dX8_playByTurns_85 : decode cX8_playByTurns 85 = .ok (.iload 4, 2) := by decide +kernel
theorem dX8_playByTurns_87 : decode cX8_playByTurns 87 = .ok (.if_icmp .le 13, 3) := by decide +kernel
theorem dX8_playByTurns_90 : decode cX8_playByTurns 90 = .ok (.iconst 2, 1) := by decide +kernel
theorem dX8_playByTurns_91 : decode cX8_playByTurns 91 = .ok (.istore_n 2, 1) := by decide +kernel
theorem dX8_playByTurns_92 : decode cX8_playByTurns 92 = .ok (.aload_n 0, 1) := by decide +kernel
theorem dX8_playByTurns_93 : decode cX8_playByTurns 93 = .ok (.getfield 9, 3) := by decide +kernel
theorem dX8_playByTurns_96 : decode cX8_playByTurns 96 = .ok (.iload_n 3, 1) := by decide +kernel
theorem dX8_playByTurns_97 : decode cX8_playByTurns 97 = .ok (.iload 5, 2) := by decide +kernel
theorem dX8_playByTurns_99 : decode cX8_playByTurns 99 = .ok (.iastore, 1) := by decide +kernel
theorem dX8_playByTurns_100 : decode cX8_playByTurns 100 = .ok (.iinc 3 (-1), 3) := by decide +kernel
theorem dX8_playByTurns_103 : decode cX8_playByTurns 103 = .ok (.goto (-84), 3) := by decide +kernel
theorem dX8_playByTurns_106 : decode cX8_playByTurns 106 = .ok (.iload_n 2, 1) := by decide +kernel
theorem dX8_playByTurns_107 : decode cX8_playByTurns 107 = .ok (.ireturn, 1) := by decide +kernel
theorem dX8_shareOut_0 : decode cX8_shareOut 0 = .ok (.aload_n 1, 1) := by decide +kernel
theorem dX8_shareOut_1 : decode cX8_shareOut 1 = .ok (.getfield 56, 3) := by decide +kernel
theorem dX8_shareOut_4 : decode cX8_shareOut 4 = .ok (.iconst 0, 1) := by decide +kernel
theorem dX8_shareOut_5 : decode cX8_shareOut 5 = .ok (.aload_n 0, 1) := by decide +kernel
theorem dX8_shareOut_6 : decode cX8_shareOut 6 = .ok (.getfield 18, 3) := by decide +kernel
theorem dX8_shareOut_9 : decode cX8_shareOut 9 = .ok (.iconst 0, 1) := by decide +kernel
theorem dX8_shareOut_10 : decode cX8_shareOut 10 = .ok (.iconst 5, 1) := by decide +kernel
theorem dX8_shareOut_11 : decode cX8_shareOut 11 = .ok (.invokestatic 59, 3) := by decide +kernel
theorem dX8_shareOut_14 : decode cX8_shareOut 14 = .ok (.iconst (-1), 1) := by decide +kernel
theorem dX8_shareOut_15 : decode cX8_shareOut 15 = .ok (.istore 4, 2) := by decide +kernel
theorem dX8_shareOut_17 : decode cX8_shareOut 17 = .ok (.iconst 0, 1) := by decide +kernel
theorem dX8_shareOut_18 : decode cX8_shareOut 18 = .ok (.istore 5, 2) := by decide +kernel
theorem dX8_shareOut_20 : decode cX8_shareOut 20 = .ok (.iload 5, 2) := by decide +kernel
theorem dX8_shareOut_22 : decode cX8_shareOut 22 = .ok (.aload_n 1, 1) := by decide +kernel
theorem dX8_shareOut_23 : decode cX8_shareOut 23 = .ok (.getfield 24, 3) := by decide +kernel
theorem dX8_shareOut_26 : decode cX8_shareOut 26 = .ok (.if_icmp .ge 48, 3) := by decide +kernel
theorem dX8_shareOut_29 : decode cX8_shareOut 29 = .ok (.aload_n 0, 1) := by decide +kernel
theorem dX8_shareOut_30 : decode cX8_shareOut 30 = .ok (.iload_n 2, 1) := by decide +kernel
theorem dX8_shareOut_31 : decode cX8_shareOut 31 = .ok (.invokevirtual 65, 3) := by decide +kernel
theorem dX8_shareOut_34 : decode cX8_shareOut 34 = .ok (.istore 6, 2) := by decide +kernel
theorem dX8_shareOut_36 : decode cX8_shareOut 36 = .ok (.iload 6, 2) := by decide +kernel
theorem dX8_shareOut_38 : decode cX8_shareOut 38 = .ok (.iconst (-1), 1) := by decide +kernel
theorem dX8_shareOut_39 : decode cX8_shareOut 39 = .ok (.if_icmp .eq 19, 3) := by decide +kernel
theorem dX8_shareOut_42 : decode cX8_shareOut 42 = .ok (.aload_n 0, 1) := by decide +kernel
theorem dX8_shareOut_43 : decode cX8_shareOut 43 = .ok (.getfield 18, 3) := by decide +kernel
theorem dX8_shareOut_46 : decode cX8_shareOut 46 = .ok (.iload 6, 2) := by decide +kernel
theorem dX8_shareOut_48 : decode cX8_shareOut 48 = .ok (.dup2, 1) := by decide +kernel
theorem dX8_shareOut_49 : decode cX8_shareOut 49 = .ok (.iaload, 1) := by decide +kernel
theorem dX8_shareOut_50 : decode cX8_shareOut 50 = .ok (.aload_n 1, 1) := by decide +kernel
theorem dX8_shareOut_51 : decode cX8_shareOut 51 = .ok (.iload 5, 2) := by decide +kernel
theorem dX8_shareOut_53 : decode cX8_shareOut 53 = .ok (.invokevirtual 34, 3) := by decide +kernel
theorem dX8_shareOut_56 : decode cX8_shareOut 56 = .ok (.iadd, 1) := by decide +kernel
theorem dX8_shareOut_57 : decode cX8_shareOut 57 = .ok (.iastore, 1) := by decide +kernel
theorem dX8_shareOut_58 : decode cX8_shareOut 58 = .ok (.iload 5, 2) := by decide +kernel
theorem dX8_shareOut_60 : decode cX8_shareOut 60 = .ok (.iload_n 3, 1) := by decide +kernel
theorem dX8_shareOut_61 : decode cX8_shareOut 61 = .ok (.if_icmp .ne 7, 3) := by decide +kernel
theorem dX8_shareOut_64 : decode cX8_shareOut 64 = .ok (.iload 6, 2) := by decide +kernel
theorem dX8_shareOut_66 : decode cX8_shareOut 66 = .ok (.istore 4, 2) := by decide +kernel
theorem dX8_shareOut_68 : decode cX8_shareOut 68 = .ok (.iinc 5 1, 3) := by decide +kernel
theorem dX8_shareOut_71 : decode cX8_shareOut 71 = .ok (.goto (-51), 3) := by decide +kernel
theorem dX8_shareOut_74 : decode cX8_shareOut 74 = .ok (.iload 4, 2) := by decide +kernel
theorem dX8_shareOut_76 : decode cX8_shareOut 76 = .ok (.ireturn, 1) := by decide +kernel
theorem dX8_poorest_0 : decode cX8_poorest 0 = .ok (.iconst (-1), 1) := by decide +kernel
theorem dX8_poorest_1 : decode cX8_poorest 1 = .ok (.istore_n 2, 1) := by decide +kernel
theorem dX8_poorest_2 : decode cX8_poorest 2 = .ok (.iconst 0, 1) := by decide +kernel
theorem dX8_poorest_3 : decode cX8_poorest 3 = .ok (.istore_n 3, 1) := by decide +kernel
theorem dX8_poorest_4 : decode cX8_poorest 4 = .ok (.iload_n 3, 1) := by decide +kernel
theorem dX8_poorest_5 : decode cX8_poorest 5 = .ok (.iload_n 1, 1) := by decide +kernel
theorem dX8_poorest_6 : decode cX8_poorest 6 = .ok (.if_icmp .ge 36, 3) := by decide +kernel
theorem dX8_poorest_9 : decode cX8_poorest 9 = .ok (.iload_n 3, 1) := by decide +kernel
theorem dX8_poorest_10 : decode cX8_poorest 10 = .ok (.iconst 5, 1) := by decide +kernel
theorem dX8_poorest_11 : decode cX8_poorest 11 = .ok (.if_icmp .ge 31, 3) := by decide +kernel
theorem dX8_poorest_14 : decode cX8_poorest 14 = .ok (.iload_n 2, 1) := by decide +kernel
theorem dX8_poorest_15 : decode cX8_poorest 15 = .ok (.iconst (-1), 1) := by decide +kernel
theorem dX8_poorest_16 : decode cX8_poorest 16 = .ok (.if_icmp .eq 18, 3) := by decide +kernel
theorem dX8_poorest_19 : decode cX8_poorest 19 = .ok (.aload_n 0, 1) := by decide +kernel
theorem dX8_poorest_20 : decode cX8_poorest 20 = .ok (.getfield 18, 3) := by decide +kernel
theorem dX8_poorest_23 : decode cX8_poorest 23 = .ok (.iload_n 3, 1) := by decide +kernel
theorem dX8_poorest_24 : decode cX8_poorest 24 = .ok (.iaload, 1) := by decide +kernel
theorem dX8_poorest_25 : decode cX8_poorest 25 = .ok (.aload_n 0, 1) := by decide +kernel
theorem dX8_poorest_26 : decode cX8_poorest 26 = .ok (.getfield 18, 3) := by decide +kernel
theorem dX8_poorest_29 : decode cX8_poorest 29 = .ok (.iload_n 2, 1) := by decide +kernel
theorem dX8_poorest_30 : decode cX8_poorest 30 = .ok (.iaload, 1) := by decide +kernel
theorem dX8_poorest_31 : decode cX8_poorest 31 = .ok (.if_icmp .ge 5, 3) := by decide +kernel
theorem dX8_poorest_34 : decode cX8_poorest 34 = .ok (.iload_n 3, 1) := by decide +kernel
theorem dX8_poorest_35 : decode cX8_poorest 35 = .ok (.istore_n 2, 1) := by decide +kernel
theorem dX8_poorest_36 : decode cX8_poorest 36 = .ok (.iinc 3 1, 3) := by decide +kernel
theorem dX8_poorest_39 : decode cX8_poorest 39 = .ok (.goto (-35), 3) := by decide +kernel
theorem dX8_poorest_42 : decode cX8_poorest 42 = .ok (.iload_n 2, 1) := by decide +kernel
theorem dX8_poorest_43 : decode cX8_poorest 43 = .ok (.ireturn, 1) := by decide +kernel
theorem dX8_bestQuestion_0 : decode cX8_bestQuestion 0 = .ok (.iconst (-1), 1) := by decide +kernel
theorem dX8_bestQuestion_1 : decode cX8_bestQuestion 1 = .ok (.istore_n 3, 1) := by decide +kernel
theorem dX8_bestQuestion_2 : decode cX8_bestQuestion 2 = .ok (.iload_n 2, 1) := by decide +kernel
theorem dX8_bestQuestion_3 : decode cX8_bestQuestion 3 = .ok (.invokestatic 68, 3) := by decide +kernel
theorem dX8_bestQuestion_6 : decode cX8_bestQuestion 6 = .ok (.istore 4, 2) := by decide +kernel
theorem dX8_bestQuestion_8 : decode cX8_bestQuestion 8 = .ok (.iconst 0, 1) := by decide +kernel
theorem dX8_bestQuestion_9 : decode cX8_bestQuestion 9 = .ok (.istore 5, 2) := by decide +kernel
theorem dX8_bestQuestion_11 : decode cX8_bestQuestion 11 = .ok (.iload 5, 2) := by decide +kernel
theorem dX8_bestQuestion_13 : decode cX8_bestQuestion 13 = .ok (.bipush 8, 2) := by decide +kernel
theorem dX8_bestQuestion_15 : decode cX8_bestQuestion 15 = .ok (.if_icmp .ge 33, 3) := by decide +kernel
theorem dX8_bestQuestion_18 : decode cX8_bestQuestion 18 = .ok (.aload_n 0, 1) := by decide +kernel
theorem dX8_bestQuestion_19 : decode cX8_bestQuestion 19 = .ok (.aload_n 1, 1) := by decide +kernel
theorem dX8_bestQuestion_20 : decode cX8_bestQuestion 20 = .ok (.iload_n 2, 1) := by decide +kernel
theorem dX8_bestQuestion_21 : decode cX8_bestQuestion 21 = .ok (.iload 5, 2) := by decide +kernel
theorem dX8_bestQuestion_23 : decode cX8_bestQuestion 23 = .ok (.invokevirtual 73, 3) := by decide +kernel
theorem dX8_bestQuestion_26 : decode cX8_bestQuestion 26 = .ok (.istore 6, 2) := by decide +kernel
theorem dX8_bestQuestion_28 : decode cX8_bestQuestion 28 = .ok (.iload 6, 2) := by decide +kernel
theorem dX8_bestQuestion_30 : decode cX8_bestQuestion 30 = .ok (.iload 4, 2) := by decide +kernel
theorem dX8_bestQuestion_32 : decode cX8_bestQuestion 32 = .ok (.if_icmp .ge 10, 3) := by decide +kernel
theorem dX8_bestQuestion_35 : decode cX8_bestQuestion 35 = .ok (.iload 6, 2) := by decide +kernel
theorem dX8_bestQuestion_37 : decode cX8_bestQuestion 37 = .ok (.istore 4, 2) := by decide +kernel
theorem dX8_bestQuestion_39 : decode cX8_bestQuestion 39 = .ok (.iload 5, 2) := by decide +kernel
theorem dX8_bestQuestion_41 : decode cX8_bestQuestion 41 = .ok (.istore_n 3, 1) := by decide +kernel
theorem dX8_bestQuestion_42 : decode cX8_bestQuestion 42 = .ok (.iinc 5 1, 3) := by decide +kernel
theorem dX8_bestQuestion_45 : decode cX8_bestQuestion 45 = .ok (.goto (-34), 3) := by decide +kernel
theorem dX8_bestQuestion_48 : decode cX8_bestQuestion 48 = .ok (.iload_n 3, 1) := by decide +kernel
theorem dX8_bestQuestion_49 : decode cX8_bestQuestion 49 = .ok (.ireturn, 1) := by decide +kernel
theorem dX8_greatestAlike_0 : decode cX8_greatestAlike 0 = .ok (.iconst 0, 1) := by decide +kernel
theorem dX8_greatestAlike_1 : decode cX8_greatestAlike 1 = .ok (.istore 4, 2) := by decide +kernel
theorem dX8_greatestAlike_3 : decode cX8_greatestAlike 3 = .ok (.iload 4, 2) := by decide +kernel
theorem dX8_greatestAlike_5 : decode cX8_greatestAlike 5 = .ok (.iconst 5, 1) := by decide +kernel
theorem dX8_greatestAlike_6 : decode cX8_greatestAlike 6 = .ok (.if_icmp .gt 17, 3) := by decide +kernel
theorem dX8_greatestAlike_9 : decode cX8_greatestAlike 9 = .ok (.aload_n 0, 1) := by decide +kernel
theorem dX8_greatestAlike_10 : decode cX8_greatestAlike 10 = .ok (.getfield 21, 3) := by decide +kernel
theorem dX8_greatestAlike_13 : decode cX8_greatestAlike 13 = .ok (.iload 4, 2) := by decide +kernel
theorem dX8_greatestAlike_15 : decode cX8_greatestAlike 15 = .ok (.iconst 0, 1) := by decide +kernel
theorem dX8_greatestAlike_16 : decode cX8_greatestAlike 16 = .ok (.iastore, 1) := by decide +kernel
theorem dX8_greatestAlike_17 : decode cX8_greatestAlike 17 = .ok (.iinc 4 1, 3) := by decide +kernel
theorem dX8_greatestAlike_20 : decode cX8_greatestAlike 20 = .ok (.goto (-17), 3) := by decide +kernel
theorem dX8_greatestAlike_23 : decode cX8_greatestAlike 23 = .ok (.iconst 0, 1) := by decide +kernel
theorem dX8_greatestAlike_24 : decode cX8_greatestAlike 24 = .ok (.istore 4, 2) := by decide +kernel
theorem dX8_greatestAlike_26 : decode cX8_greatestAlike 26 = .ok (.iconst 0, 1) := by decide +kernel
theorem dX8_greatestAlike_27 : decode cX8_greatestAlike 27 = .ok (.istore 5, 2) := by decide +kernel
theorem dX8_greatestAlike_29 : decode cX8_greatestAlike 29 = .ok (.iload 5, 2) := by decide +kernel
theorem dX8_greatestAlike_31 : decode cX8_greatestAlike 31 = .ok (.aload_n 1, 1) := by decide +kernel
theorem dX8_greatestAlike_32 : decode cX8_greatestAlike 32 = .ok (.getfield 77, 3) := by decide +kernel
theorem dX8_greatestAlike_35 : decode cX8_greatestAlike 35 = .ok (.if_icmp .ge 71, 3) := by decide +kernel
theorem dX8_greatestAlike_38 : decode cX8_greatestAlike 38 = .ok (.iload_n 2, 1) := by decide +kernel
theorem dX8_greatestAlike_39 : decode cX8_greatestAlike 39 = .ok (.iconst 1, 1) := by decide +kernel
theorem dX8_greatestAlike_40 : decode cX8_greatestAlike 40 = .ok (.iload 5, 2) := by decide +kernel
theorem dX8_greatestAlike_42 : decode cX8_greatestAlike 42 = .ok (.ishl, 1) := by decide +kernel
theorem dX8_greatestAlike_43 : decode cX8_greatestAlike 43 = .ok (.iand, 1) := by decide +kernel
theorem dX8_greatestAlike_44 : decode cX8_greatestAlike 44 = .ok (.ifCond .eq 56, 3) := by decide +kernel
theorem dX8_greatestAlike_47 : decode cX8_greatestAlike 47 = .ok (.aload_n 1, 1) := by decide +kernel
theorem dX8_greatestAlike_48 : decode cX8_greatestAlike 48 = .ok (.iload 5, 2) := by decide +kernel
theorem dX8_greatestAlike_50 : decode cX8_greatestAlike 50 = .ok (.iload_n 3, 1) := by decide +kernel
theorem dX8_greatestAlike_51 : decode cX8_greatestAlike 51 = .ok (.invokevirtual 82, 3) := by decide +kernel
theorem dX8_greatestAlike_54 : decode cX8_greatestAlike 54 = .ok (.istore 6, 2) := by decide +kernel
theorem dX8_greatestAlike_56 : decode cX8_greatestAlike 56 = .ok (.iload 6, 2) := by decide +kernel
theorem dX8_greatestAlike_58 : decode cX8_greatestAlike 58 = .ok (.ifCond .lt 14, 3) := by decide +kernel
theorem dX8_greatestAlike_61 : decode cX8_greatestAlike 61 = .ok (.iload 6, 2) := by decide +kernel
theorem dX8_greatestAlike_63 : decode cX8_greatestAlike 63 = .ok (.iconst 5, 1) := by decide +kernel
theorem dX8_greatestAlike_64 : decode cX8_greatestAlike 64 = .ok (.if_icmp .ge 8, 3) := by decide +kernel
theorem dX8_greatestAlike_67 : decode cX8_greatestAlike 67 = .ok (.iload 6, 2) := by decide +kernel
theorem dX8_greatestAlike_69 : decode cX8_greatestAlike 69 = .ok (.goto 4, 3) := by decide +kernel
theorem dX8_greatestAlike_72 : decode cX8_greatestAlike 72 = .ok (.iconst 5, 1) := by decide +kernel
theorem dX8_greatestAlike_73 : decode cX8_greatestAlike 73 = .ok (.istore 7, 2) := by decide +kernel
theorem dX8_greatestAlike_75 : decode cX8_greatestAlike 75 = .ok (.aload_n 0, 1) := by decide +kernel
theorem dX8_greatestAlike_76 : decode cX8_greatestAlike 76 = .ok (.getfield 21, 3) := by decide +kernel
theorem dX8_greatestAlike_79 : decode cX8_greatestAlike 79 = .ok (.iload 7, 2) := by decide +kernel
theorem dX8_greatestAlike_81 : decode cX8_greatestAlike 81 = .ok (.dup2, 1) := by decide +kernel
theorem dX8_greatestAlike_82 : decode cX8_greatestAlike 82 = .ok (.iaload, 1) := by decide +kernel
theorem dX8_greatestAlike_83 : decode cX8_greatestAlike 83 = .ok (.iconst 1, 1) := by decide +kernel
theorem dX8_greatestAlike_84 : decode cX8_greatestAlike 84 = .ok (.iadd, 1) := by decide +kernel
theorem dX8_greatestAlike_85 : decode cX8_greatestAlike 85 = .ok (.iastore, 1) := by decide +kernel
theorem dX8_greatestAlike_86 : decode cX8_greatestAlike 86 = .ok (.iload 4, 2) := by decide +kernel
theorem dX8_greatestAlike_88 : decode cX8_greatestAlike 88 = .ok (.aload_n 0, 1) := by decide +kernel
theorem dX8_greatestAlike_89 : decode cX8_greatestAlike 89 = .ok (.getfield 21, 3) := by decide +kernel
theorem dX8_greatestAlike_92 : decode cX8_greatestAlike 92 = .ok (.iload 7, 2) := by decide +kernel
theorem dX8_greatestAlike_94 : decode cX8_greatestAlike 94 = .ok (.iaload, 1) := by decide +kernel
theorem dX8_greatestAlike_95 : decode cX8_greatestAlike 95 = .ok (.invokestatic 51, 3) := by decide +kernel
theorem dX8_greatestAlike_98 : decode cX8_greatestAlike 98 = .ok (.istore 4, 2) := by decide +kernel
theorem dX8_greatestAlike_100 : decode cX8_greatestAlike 100 = .ok (.iinc 5 1, 3) := by decide +kernel
theorem dX8_greatestAlike_103 : decode cX8_greatestAlike 103 = .ok (.goto (-74), 3) := by decide +kernel
theorem dX8_greatestAlike_106 : decode cX8_greatestAlike 106 = .ok (.iload 4, 2) := by decide +kernel
theorem dX8_greatestAlike_108 : decode cX8_greatestAlike 108 = .ok (.ireturn, 1) := by decide +kernel
theorem dJ6_bitCount_0f7a4_0 : decode cJ6_bitCount_0f7a4 0 = .ok (.iload_n 0, 1) := by decide +kernel
theorem dJ6_bitCount_0f7a4_1 : decode cJ6_bitCount_0f7a4 1 = .ok (.iload_n 0, 1) := by decide +kernel
theorem dJ6_bitCount_0f7a4_2 : decode cJ6_bitCount_0f7a4 2 = .ok (.iconst 1, 1) := by decide +kernel
theorem dJ6_bitCount_0f7a4_3 : decode cJ6_bitCount_0f7a4 3 = .ok (.iushr, 1) := by decide +kernel
theorem dJ6_bitCount_0f7a4_4 : decode cJ6_bitCount_0f7a4 4 = .ok (.ldc_w 265, 3) := by decide +kernel
theorem dJ6_bitCount_0f7a4_7 : decode cJ6_bitCount_0f7a4 7 = .ok (.iand, 1) := by decide +kernel
theorem dJ6_bitCount_0f7a4_8 : decode cJ6_bitCount_0f7a4 8 = .ok (.isub, 1) := by decide +kernel
theorem dJ6_bitCount_0f7a4_9 : decode cJ6_bitCount_0f7a4 9 = .ok (.istore_n 0, 1) := by decide +kernel
theorem dJ6_bitCount_0f7a4_10 : decode cJ6_bitCount_0f7a4 10 = .ok (.iload_n 0, 1) := by decide +kernel
theorem dJ6_bitCount_0f7a4_11 : decode cJ6_bitCount_0f7a4 11 = .ok (.ldc_w 266, 3) := by decide +kernel
theorem dJ6_bitCount_0f7a4_14 : decode cJ6_bitCount_0f7a4 14 = .ok (.iand, 1) := by decide +kernel
theorem dJ6_bitCount_0f7a4_15 : decode cJ6_bitCount_0f7a4 15 = .ok (.iload_n 0, 1) := by decide +kernel
theorem dJ6_bitCount_0f7a4_16 : decode cJ6_bitCount_0f7a4 16 = .ok (.iconst 2, 1) := by decide +kernel
theorem dJ6_bitCount_0f7a4_17 : decode cJ6_bitCount_0f7a4 17 = .ok (.iushr, 1) := by decide +kernel
theorem dJ6_bitCount_0f7a4_18 : decode cJ6_bitCount_0f7a4 18 = .ok (.ldc_w 266, 3) := by decide +kernel
theorem dJ6_bitCount_0f7a4_21 : decode cJ6_bitCount_0f7a4 21 = .ok (.iand, 1) := by decide +kernel
theorem dJ6_bitCount_0f7a4_22 : decode cJ6_bitCount_0f7a4 22 = .ok (.iadd, 1) := by decide +kernel
theorem dJ6_bitCount_0f7a4_23 : decode cJ6_bitCount_0f7a4 23 = .ok (.istore_n 0, 1) := by decide +kernel
theorem dJ6_bitCount_0f7a4_24 : decode cJ6_bitCount_0f7a4 24 = .ok (.iload_n 0, 1) := by decide +kernel
theorem dJ6_bitCount_0f7a4_25 : decode cJ6_bitCount_0f7a4 25 = .ok (.iload_n 0, 1) := by decide +kernel
theorem dJ6_bitCount_0f7a4_26 : decode cJ6_bitCount_0f7a4 26 = .ok (.iconst 4, 1) := by decide +kernel
theorem dJ6_bitCount_0f7a4_27 : decode cJ6_bitCount_0f7a4 27 = .ok (.iushr, 1) := by decide +kernel
theorem dJ6_bitCount_0f7a4_28 : decode cJ6_bitCount_0f7a4 28 = .ok (.iadd, 1) := by decide +kernel
theorem dJ6_bitCount_0f7a4_29 : decode cJ6_bitCount_0f7a4 29 = .ok (.ldc_w 267, 3) := by decide +kernel
theorem dJ6_bitCount_0f7a4_32 : decode cJ6_bitCount_0f7a4 32 = .ok (.iand, 1) := by decide +kernel
theorem dJ6_bitCount_0f7a4_33 : decode cJ6_bitCount_0f7a4 33 = .ok (.istore_n 0, 1) := by decide +kernel
theorem dJ6_bitCount_0f7a4_34 : decode cJ6_bitCount_0f7a4 34 = .ok (.iload_n 0, 1) := by decide +kernel
theorem dJ6_bitCount_0f7a4_35 : decode cJ6_bitCount_0f7a4 35 = .ok (.iload_n 0, 1) := by decide +kernel
theorem dJ6_bitCount_0f7a4_36 : decode cJ6_bitCount_0f7a4 36 = .ok (.bipush 8, 2) := by decide +kernel
theorem dJ6_bitCount_0f7a4_38 : decode cJ6_bitCount_0f7a4 38 = .ok (.iushr, 1) := by decide +kernel
theorem dJ6_bitCount_0f7a4_39 : decode cJ6_bitCount_0f7a4 39 = .ok (.iadd, 1) := by decide +kernel
theorem dJ6_bitCount_0f7a4_40 : decode cJ6_bitCount_0f7a4 40 = .ok (.istore_n 0, 1) := by decide +kernel
theorem dJ6_bitCount_0f7a4_41 : decode cJ6_bitCount_0f7a4 41 = .ok (.iload_n 0, 1) := by decide +kernel
theorem dJ6_bitCount_0f7a4_42 : decode cJ6_bitCount_0f7a4 42 = .ok (.iload_n 0, 1) := by decide +kernel
theorem dJ6_bitCount_0f7a4_43 : decode cJ6_bitCount_0f7a4 43 = .ok (.bipush 16, 2) := by decide +kernel
theorem dJ6_bitCount_0f7a4_45 : decode cJ6_bitCount_0f7a4 45 = .ok (.iushr, 1) := by decide +kernel
theorem dJ6_bitCount_0f7a4_46 : decode cJ6_bitCount_0f7a4 46 = .ok (.iadd, 1) := by decide +kernel
theorem dJ6_bitCount_0f7a4_47 : decode cJ6_bitCount_0f7a4 47 = .ok (.istore_n 0, 1) := by decide +kernel
theorem dJ6_bitCount_0f7a4_48 : decode cJ6_bitCount_0f7a4 48 = .ok (.iload_n 0, 1) := by decide +kernel
theorem dJ6_bitCount_0f7a4_49 : decode cJ6_bitCount_0f7a4 49 = .ok (.bipush 63, 2) := by decide +kernel
theorem dJ6_bitCount_0f7a4_51 : decode cJ6_bitCount_0f7a4 51 = .ok (.iand, 1) := by decide +kernel
theorem dJ6_bitCount_0f7a4_52 : decode cJ6_bitCount_0f7a4 52 = .ok (.ireturn, 1) := by decide +kernel
theorem dJ9_max_7cf53_0 : decode cJ9_max_7cf53 0 = .ok (.iload_n 0, 1) := by decide +kernel
theorem dJ9_max_7cf53_1 : decode cJ9_max_7cf53 1 = .ok (.iload_n 1, 1) := by decide +kernel
theorem dJ9_max_7cf53_2 : decode cJ9_max_7cf53 2 = .ok (.if_icmp .lt 7, 3) := by decide +kernel
theorem dJ9_max_7cf53_5 : decode cJ9_max_7cf53 5 = .ok (.iload_n 0, 1) := by decide +kernel
theorem dJ9_max_7cf53_6 : decode cJ9_max_7cf53 6 = .ok (.goto 4, 3) := by decide +kernel
theorem dJ9_max_7cf53_9 : decode cJ9_max_7cf53 9 = .ok (.iload_n 1, 1) := by decide +kernel
theorem dJ9_max_7cf53_10 : decode cJ9_max_7cf53 10 = .ok (.ireturn, 1) := by decide +kernel
theorem dJ9_min_7cf53_0 : decode cJ9_min_7cf53 0 = .ok (.iload_n 0, 1) := by decide +kernel
theorem dJ9_min_7cf53_1 : decode cJ9_min_7cf53 1 = .ok (.iload_n 1, 1) := by decide +kernel
theorem dJ9_min_7cf53_2 : decode cJ9_min_7cf53 2 = .ok (.if_icmp .gt 7, 3) := by decide +kernel
theorem dJ9_min_7cf53_5 : decode cJ9_min_7cf53 5 = .ok (.iload_n 0, 1) := by decide +kernel
theorem dJ9_min_7cf53_6 : decode cJ9_min_7cf53 6 = .ok (.goto 4, 3) := by decide +kernel
theorem dJ9_min_7cf53_9 : decode cJ9_min_7cf53 9 = .ok (.iload_n 1, 1) := by decide +kernel
theorem dJ9_min_7cf53_10 : decode cJ9_min_7cf53 10 = .ok (.ireturn, 1) := by decide +kernel
end
section
theorem dX9_init_0 : decode cX9_init 0 = .ok (.aload_n 0, 1) := by decide +kernel
theorem dX9_init_1 : decode cX9_init 1 = .ok (.invokespecial 1, 3) := by decide +kernel
theorem dX9_init_4 : decode cX9_init 4 = .ok (.aload_n 0, 1) := by decide +kernel
theorem dX9_init_5 : decode cX9_init 5 = .ok (.new 7, 3) := by decide +kernel
theorem dX9_init_8 : decode cX9_init 8 = .ok (.dup, 1) := by decide +kernel
theorem dX9_init_9 : decode cX9_init 9 = .ok (.invokespecial 9, 3) := by decide +kernel
theorem dX9_init_12 : decode cX9_init 12 = .ok (.putfield 10, 3) := by decide +kernel
theorem dX9_init_15 : decode cX9_init 15 = .ok (.aload_n 0, 1) := by decide +kernel
theorem dX9_init_16 : decode cX9_init 16 = .ok (.new 16, 3) := by decide +kernel
theorem dX9_init_19 : decode cX9_init 19 = .ok (.dup, 1) := by decide +kernel
theorem dX9_init_20 : decode cX9_init 20 = .ok (.invokespecial 18, 3) := by decide +kernel
theorem dX9_init_23 : decode cX9_init 23 = .ok (.putfield 19, 3) := by decide +kernel
theorem dX9_init_26 : decode cX9_init 26 = .ok (.aload_n 0, 1) := by decide +kernel
theorem dX9_init_27 : decode cX9_init 27 = .ok (.new 16, 3) := by decide +kernel
theorem dX9_init_30 : decode cX9_init 30 = .ok (.dup, 1) := by decide +kernel
theorem dX9_init_31 : decode cX9_init 31 = .ok (.invokespecial 18, 3) := by decide +kernel
theorem dX9_init_34 : decode cX9_init 34 = .ok (.putfield 23, 3) := by decide +kernel
theorem dX9_init_37 : decode cX9_init 37 = .ok (.aload_n 0, 1) := by decide +kernel
theorem dX9_init_38 : decode cX9_init 38 = .ok (.new 26, 3) := by decide +kernel
theorem dX9_init_41 : decode cX9_init 41 = .ok (.dup, 1) := by decide +kernel
theorem dX9_init_42 : decode cX9_init 42 = .ok (.invokespecial 28, 3) := by decide +kernel
theorem dX9_init_45 : decode cX9_init 45 = .ok (.putfield 29, 3) := by decide +kernel
theorem dX9_init_48 : decode cX9_init 48 = .ok (.aload_n 0, 1) := by decide +kernel
theorem dX9_init_49 : decode cX9_init 49 = .ok (.new 33, 3) := by decide +kernel
theorem dX9_init_52 : decode cX9_init 52 = .ok (.dup, 1) := by decide +kernel
theorem dX9_init_53 : decode cX9_init 53 = .ok (.invokespecial 35, 3) := by decide +kernel
theorem dX9_init_56 : decode cX9_init 56 = .ok (.putfield 36, 3) := by decide +kernel
theorem dX9_init_59 : decode cX9_init 59 = .ok (.aload_n 0, 1) := by decide +kernel
theorem dX9_init_60 : decode cX9_init 60 = .ok (.iconst 2, 1) := by decide +kernel
theorem dX9_init_61 : decode cX9_init 61 = .ok (.anewarray 40, 3) := by decide +kernel
theorem dX9_init_64 : decode cX9_init 64 = .ok (.putfield 42, 3) := by decide +kernel
theorem dX9_init_67 : decode cX9_init 67 = .ok (.iconst 0, 1) := by decide +kernel
theorem dX9_init_68 : decode cX9_init 68 = .ok (.istore_n 1, 1) := by decide +kernel
theorem dX9_init_69 : decode cX9_init 69 = .ok (.iload_n 1, 1) := by decide +kernel
theorem dX9_init_70 : decode cX9_init 70 = .ok (.iconst 2, 1) := by decide +kernel
theorem dX9_init_71 : decode cX9_init 71 = .ok (.if_icmp .ge 22, 3) := by decide +kernel
theorem dX9_init_74 : decode cX9_init 74 = .ok (.aload_n 0, 1) := by decide +kernel
theorem dX9_init_75 : decode cX9_init 75 = .ok (.getfield 42, 3) := by decide +kernel
theorem dX9_init_78 : decode cX9_init 78 = .ok (.iload_n 1, 1) := by decide +kernel
theorem dX9_init_79 : decode cX9_init 79 = .ok (.new 40, 3) := by decide +kernel
theorem dX9_init_82 : decode cX9_init 82 = .ok (.dup, 1) := by decide +kernel
theorem dX9_init_83 : decode cX9_init 83 = .ok (.invokespecial 46, 3) := by decide +kernel
theorem dX9_init_86 : decode cX9_init 86 = .ok (.aastore, 1) := by decide +kernel
theorem dX9_init_87 : decode cX9_init 87 = .ok (.iinc 1 1, 3) := by decide +kernel
theorem dX9_init_90 : decode cX9_init 90 = .ok (.goto (-21), 3) := by decide +kernel
theorem dX9_init_93 : decode cX9_init 93 = .ok (.aload_n 0, 1) := by decide +kernel
theorem dX9_init_94 : decode cX9_init 94 = .ok (.new 47, 3) := by decide +kernel
theorem dX9_init_97 : decode cX9_init 97 = .ok (.dup, 1) := by decide +kernel
theorem dX9_init_98 : decode cX9_init 98 = .ok (.invokespecial 49, 3) := by decide +kernel
theorem dX9_init_101 : decode cX9_init 101 = .ok (.putfield 50, 3) := by decide +kernel
theorem dX9_init_104 : decode cX9_init 104 = .ok (.aload_n 0, 1) := by decide +kernel
theorem dX9_init_105 : decode cX9_init 105 = .ok (.new 54, 3) := by decide +kernel
theorem dX9_init_108 : decode cX9_init 108 = .ok (.dup, 1) := by decide +kernel
theorem dX9_init_109 : decode cX9_init 109 = .ok (.invokespecial 56, 3) := by decide +kernel
theorem dX9_init_112 : decode cX9_init 112 = .ok (.putfield 57, 3) := by decide +kernel
theorem dX9_init_115 : decode cX9_init 115 = .ok (.aload_n 0, 1) := by decide +kernel
theorem dX9_init_116 : decode cX9_init 116 = .ok (.new 61, 3) := by decide +kernel
theorem dX9_init_119 : decode cX9_init 119 = .ok (.dup, 1) := by decide +kernel
theorem dX9_init_120 : decode cX9_init 120 = .ok (.invokespecial 63, 3) := by decide +kernel
theorem dX9_init_123 : decode cX9_init 123 = .ok (.putfield 64, 3) := by decide +kernel
theorem dX9_init_126 : decode cX9_init 126 = .ok (.aload_n 0, 1) := by decide +kernel
theorem dX9_init_127 : decode cX9_init 127 = .ok (.new 68, 3) := by decide +kernel
theorem dX9_init_130 : decode cX9_init 130 = .ok (.dup, 1) := by decide +kernel
theorem dX9_init_131 : decode cX9_init 131 = .ok (.invokespecial 70, 3) := by decide +kernel
theorem dX9_init_134 : decode cX9_init 134 = .ok (.putfield 71, 3) := by decide +kernel
theorem dX9_init_137 : decode cX9_init 137 = .ok (.return_, 1) := by decide +kernel
theorem dX9_feed_0 : decode cX9_feed 0 = .ok (.iload_n 1, 1) := by decide +kernel
theorem dX9_feed_1 : decode cX9_feed 1 = .ok (.ifCond .lt 10, 3) := by decide +kernel
theorem dX9_feed_4 : decode cX9_feed 4 = .ok (.iload_n 1, 1) := by decide +kernel
theorem dX9_feed_5 : decode cX9_feed 5 = .ok (.sipush 255, 3) := by decide +kernel
theorem dX9_feed_8 : decode cX9_feed 8 = .ok (.if_icmp .le 6, 3) := by decide +kernel
theorem dX9_feed_11 : decode cX9_feed 11 = .ok (.ldc 75, 2) := by decide +kernel
theorem dX9_feed_13 : decode cX9_feed 13 = .ok (.ireturn, 1) := by decide +kernel
theorem dX9_feed_14 : decode cX9_feed 14 = .ok (.aload_n 0, 1) := by decide +kernel
theorem dX9_feed_15 : decode cX9_feed 15 = .ok (.getfield 10, 3) := by decide +kernel
theorem dX9_feed_18 : decode cX9_feed 18 = .ok (.iload_n 1, 1) := by decide +kernel
theorem dX9_feed_19 : decode cX9_feed 19 = .ok (.invokevirtual 76, 3) := by decide +kernel
theorem dX9_feed_22 : decode cX9_feed 22 = .ok (.ireturn, 1) := by decide +kernel
theorem dX9_probate_0 : decode cX9_probate 0 = .ok (.aload_n 0, 1) := by decide +kernel
theorem dX9_probate_1 : decode cX9_probate 1 = .ok (.getfield 10, 3) := by decide +kernel
theorem dX9_probate_4 : decode cX9_probate 4 = .ok (.aload_n 0, 1) := by decide +kernel
theorem dX9_probate_5 : decode cX9_probate 5 = .ok (.getfield 23, 3) := by decide +kernel
theorem dX9_probate_8 : decode cX9_probate 8 = .ok (.invokevirtual 80, 3) := by decide +kernel
theorem dX9_probate_11 : decode cX9_probate 11 = .ok (.aload_n 0, 1) := by decide +kernel
theorem dX9_probate_12 : decode cX9_probate 12 = .ok (.getfield 10, 3) := by decide +kernel
theorem dX9_probate_15 : decode cX9_probate 15 = .ok (.getfield 84, 3) := by decide +kernel
theorem dX9_probate_18 : decode cX9_probate 18 = .ok (.ifCond .eq 14, 3) := by decide +kernel
theorem dX9_probate_21 : decode cX9_probate 21 = .ok (.bipush (-10), 2) := by decide +kernel
theorem dX9_probate_23 : decode cX9_probate 23 = .ok (.aload_n 0, 1) := by decide +kernel
theorem dX9_probate_24 : decode cX9_probate 24 = .ok (.getfield 10, 3) := by decide +kernel
theorem dX9_probate_27 : decode cX9_probate 27 = .ok (.getfield 84, 3) := by decide +kernel
theorem dX9_probate_30 : decode cX9_probate 30 = .ok (.isub, 1) := by decide +kernel
theorem dX9_probate_31 : decode cX9_probate 31 = .ok (.ireturn, 1) := by decide +kernel
theorem dX9_probate_32 : decode cX9_probate 32 = .ok (.aload_n 0, 1) := by decide +kernel
theorem dX9_probate_33 : decode cX9_probate 33 = .ok (.getfield 19, 3) := by decide +kernel
theorem dX9_probate_36 : decode cX9_probate 36 = .ok (.astore_n 1, 1) := by decide +kernel
theorem dX9_probate_37 : decode cX9_probate 37 = .ok (.aload_n 0, 1) := by decide +kernel
theorem dX9_probate_38 : decode cX9_probate 38 = .ok (.aload_n 0, 1) := by decide +kernel
theorem dX9_probate_39 : decode cX9_probate 39 = .ok (.getfield 23, 3) := by decide +kernel
theorem dX9_probate_42 : decode cX9_probate 42 = .ok (.putfield 19, 3) := by decide +kernel
theorem dX9_probate_45 : decode cX9_probate 45 = .ok (.aload_n 0, 1) := by decide +kernel
theorem dX9_probate_46 : decode cX9_probate 46 = .ok (.aload_n 1, 1) := by decide +kernel
theorem dX9_probate_47 : decode cX9_probate 47 = .ok (.putfield 23, 3) := by decide +kernel
theorem dX9_probate_50 : decode cX9_probate 50 = .ok (.aload_n 0, 1) := by decide +kernel
theorem dX9_probate_51 : decode cX9_probate 51 = .ok (.getfield 29, 3) := by decide +kernel
theorem dX9_probate_54 : decode cX9_probate 54 = .ok (.aload_n 0, 1) := by decide +kernel
theorem dX9_probate_55 : decode cX9_probate 55 = .ok (.getfield 19, 3) := by decide +kernel
theorem dX9_probate_58 : decode cX9_probate 58 = .ok (.invokevirtual 88, 3) := by decide +kernel
theorem dX9_probate_61 : decode cX9_probate 61 = .ok (.aload_n 0, 1) := by decide +kernel
theorem dX9_probate_62 : decode cX9_probate 62 = .ok (.getfield 50, 3) := by decide +kernel
theorem dX9_probate_65 : decode cX9_probate 65 = .ok (.iconst 0, 1) := by decide +kernel
theorem dX9_probate_66 : decode cX9_probate 66 = .ok (.putfield 91, 3) := by decide +kernel
theorem dX9_probate_69 : decode cX9_probate 69 = .ok (.aload_n 0, 1) := by decide +kernel
theorem dX9_probate_70 : decode cX9_probate 70 = .ok (.getfield 57, 3) := by decide +kernel
theorem dX9_probate_73 : decode cX9_probate 73 = .ok (.iconst 0, 1) := by decide +kernel
theorem dX9_probate_74 : decode cX9_probate 74 = .ok (.putfield 94, 3) := by decide +kernel
theorem dX9_probate_77 : decode cX9_probate 77 = .ok (.aload_n 0, 1) := by decide +kernel
theorem dX9_probate_78 : decode cX9_probate 78 = .ok (.getfield 36, 3) := by decide +kernel
theorem dX9_probate_81 : decode cX9_probate 81 = .ok (.invokevirtual 95, 3) := by decide +kernel
theorem dX9_probate_84 : decode cX9_probate 84 = .ok (.iconst 0, 1) := by decide +kernel
theorem dX9_probate_85 : decode cX9_probate 85 = .ok (.istore_n 2, 1) := by decide +kernel
theorem dX9_probate_86 : decode cX9_probate 86 = .ok (.iload_n 2, 1) := by decide +kernel
theorem dX9_probate_87 : decode cX9_probate 87 = .ok (.iconst 2, 1) := by decide +kernel
theorem dX9_probate_88 : decode cX9_probate 88 = .ok (.if_icmp .ge 19, 3) := by decide +kernel
theorem dX9_probate_91 : decode cX9_probate 91 = .ok (.aload_n 0, 1) := by decide +kernel
theorem dX9_probate_92 : decode cX9_probate 92 = .ok (.getfield 42, 3) := by decide +kernel
theorem dX9_probate_95 : decode cX9_probate 95 = .ok (.iload_n 2, 1) := by decide +kernel
theorem dX9_probate_96 : decode cX9_probate 96 = .ok (.aaload, 1) := by decide +kernel
theorem dX9_probate_97 : decode cX9_probate 97 = .ok (.iconst 0, 1) := by decide +kernel
theorem dX9_probate_98 : decode cX9_probate 98 = .ok (.putfield 98, 3) := by decide +kernel
theorem dX9_probate_101 : decode cX9_probate 101 = .ok (.iinc 2 1, 3) := by decide +kernel
theorem dX9_probate_104 : decode cX9_probate 104 = .ok (.goto (-18), 3) := by decide +kernel
theorem dX9_probate_107 : decode cX9_probate 107 = .ok (.aload_n 0, 1) := by decide +kernel
theorem dX9_probate_108 : decode cX9_probate 108 = .ok (.getfield 29, 3) := by decide +kernel
theorem dX9_probate_111 : decode cX9_probate 111 = .ok (.getfield 102, 3) := by decide +kernel
theorem dX9_probate_114 : decode cX9_probate 114 = .ok (.ireturn, 1) := by decide +kernel
theorem dX9_fault_0 : decode cX9_fault 0 = .ok (.aload_n 0, 1) := by decide +kernel
theorem dX9_fault_1 : decode cX9_fault 1 = .ok (.getfield 10, 3) := by decide +kernel
theorem dX9_fault_4 : decode cX9_fault 4 = .ok (.getfield 105, 3) := by decide +kernel
theorem dX9_fault_7 : decode cX9_fault 7 = .ok (.ireturn, 1) := by decide +kernel
theorem dX9_told_0 : decode cX9_told 0 = .ok (.iload_n 1, 1) := by decide +kernel
theorem dX9_told_1 : decode cX9_told 1 = .ok (.tableswitch 314 0 19 #[95, 111, 119, 127, 135, 143, 151, 167, 189, 197, 205, 217, 229, 237, 255, 270, 282, 290, 298, 306], 95) := by decide +kernel
theorem dX9_told_96 : decode cX9_told 96 = .ok (.aload_n 0, 1) := by decide +kernel
theorem dX9_told_97 : decode cX9_told 97 = .ok (.getfield 19, 3) := by decide +kernel
theorem dX9_told_100 : decode cX9_told 100 = .ok (.getfield 108, 3) := by decide +kernel
theorem dX9_told_103 : decode cX9_told 103 = .ok (.ifCond .eq 7, 3) := by decide +kernel
theorem dX9_told_106 : decode cX9_told 106 = .ok (.iconst 1, 1) := by decide +kernel
theorem dX9_told_107 : decode cX9_told 107 = .ok (.goto 4, 3) := by decide +kernel
theorem dX9_told_110 : decode cX9_told 110 = .ok (.iconst 0, 1) := by decide +kernel
theorem dX9_told_111 : decode cX9_told 111 = .ok (.ireturn, 1) := by decide +kernel
theorem dX9_told_112 : decode cX9_told 112 = .ok (.aload_n 0, 1) := by decide +kernel
theorem dX9_told_113 : decode cX9_told 113 = .ok (.getfield 29, 3) := by decide +kernel
theorem dX9_told_116 : decode cX9_told 116 = .ok (.getfield 102, 3) := by decide +kernel
theorem dX9_told_119 : decode cX9_told 119 = .ok (.ireturn, 1) := by decide +kernel
theorem dX9_told_120 : decode cX9_told 120 = .ok (.aload_n 0, 1) := by decide +kernel
theorem dX9_told_121 : decode cX9_told 121 = .ok (.getfield 19, 3) := by decide +kernel
theorem dX9_told_124 : decode cX9_told 124 = .ok (.getfield 111, 3) := by decide +kernel
theorem dX9_told_127 : decode cX9_told 127 = .ok (.ireturn, 1) := by decide +kernel
theorem dX9_told_128 : decode cX9_told 128 = .ok (.aload_n 0, 1) := by decide +kernel
theorem dX9_told_129 : decode cX9_told 129 = .ok (.getfield 19, 3) := by decide +kernel
theorem dX9_told_132 : decode cX9_told 132 = .ok (.getfield 114, 3) := by decide +kernel
theorem dX9_told_135 : decode cX9_told 135 = .ok (.ireturn, 1) := by decide +kernel
theorem dX9_told_136 : decode cX9_told 136 = .ok (.aload_n 0, 1) := by decide +kernel
theorem dX9_told_137 : decode cX9_told 137 = .ok (.getfield 10, 3) := by decide +kernel
theorem dX9_told_140 : decode cX9_told 140 = .ok (.getfield 117, 3) := by decide +kernel
theorem dX9_told_143 : decode cX9_told 143 = .ok (.ireturn, 1) := by decide +kernel
theorem dX9_told_144 : decode cX9_told 144 = .ok (.aload_n 0, 1) := by decide +kernel
theorem dX9_told_145 : decode cX9_told 145 = .ok (.getfield 29, 3) := by decide +kernel
theorem dX9_told_148 : decode cX9_told 148 = .ok (.getfield 120, 3) := by decide +kernel
theorem dX9_told_151 : decode cX9_told 151 = .ok (.ireturn, 1) := by decide +kernel
theorem dX9_told_152 : decode cX9_told 152 = .ok (.aload_n 0, 1) := by decide +kernel
theorem dX9_told_153 : decode cX9_told 153 = .ok (.getfield 29, 3) := by decide +kernel
theorem dX9_told_156 : decode cX9_told 156 = .ok (.getfield 123, 3) := by decide +kernel
theorem dX9_told_159 : decode cX9_told 159 = .ok (.ifCond .eq 7, 3) := by decide +kernel
theorem dX9_told_162 : decode cX9_told 162 = .ok (.iconst 1, 1) := by decide +kernel
theorem dX9_told_163 : decode cX9_told 163 = .ok (.goto 4, 3) := by decide +kernel
theorem dX9_told_166 : decode cX9_told 166 = .ok (.iconst 0, 1) := by decide +kernel
theorem dX9_told_167 : decode cX9_told 167 = .ok (.ireturn, 1) := by decide +kernel
theorem dX9_told_168 : decode cX9_told 168 = .ok (.aload_n 0, 1) := by decide +kernel
theorem dX9_told_169 : decode cX9_told 169 = .ok (.getfield 29, 3) := by decide +kernel
theorem dX9_told_172 : decode cX9_told 172 = .ok (.getfield 126, 3) := by decide +kernel
theorem dX9_told_175 : decode cX9_told 175 = .ok (.ifCond .eq 13, 3) := by decide +kernel
theorem dX9_told_178 : decode cX9_told 178 = .ok (.aload_n 0, 1) := by decide +kernel
theorem dX9_told_179 : decode cX9_told 179 = .ok (.getfield 19, 3) := by decide +kernel
theorem dX9_told_182 : decode cX9_told 182 = .ok (.getfield 129, 3) := by decide +kernel
theorem dX9_told_185 : decode cX9_told 185 = .ok (.goto 4, 3) := by decide +kernel
theorem dX9_told_188 : decode cX9_told 188 = .ok (.iconst 0, 1) := by decide +kernel
theorem dX9_told_189 : decode cX9_told 189 = .ok (.ireturn, 1) := by decide +kernel
theorem dX9_told_190 : decode cX9_told 190 = .ok (.aload_n 0, 1) := by decide +kernel
theorem dX9_told_191 : decode cX9_told 191 = .ok (.getfield 29, 3) := by decide +kernel
theorem dX9_told_194 : decode cX9_told 194 = .ok (.invokevirtual 132, 3) := by decide +kernel
theorem dX9_told_197 : decode cX9_told 197 = .ok (.ireturn, 1) := by decide +kernel
theorem dX9_told_198 : decode cX9_told 198 = .ok (.aload_n 0, 1) := by decide +kernel
theorem dX9_told_199 : decode cX9_told 199 = .ok (.getfield 29, 3) := by decide +kernel
theorem dX9_told_202 : decode cX9_told 202 = .ok (.invokevirtual 136, 3) := by decide +kernel
theorem dX9_told_205 : decode cX9_told 205 = .ok (.ireturn, 1) := by decide +kernel
theorem dX9_told_206 : decode cX9_told 206 = .ok (.aload_n 0, 1) := by decide +kernel
theorem dX9_told_207 : decode cX9_told 207 = .ok (.getfield 19, 3) := by decide +kernel
theorem dX9_told_210 : decode cX9_told 210 = .ok (.aload_n 0, 1) := by decide +kernel
theorem dX9_told_211 : decode cX9_told 211 = .ok (.getfield 29, 3) := by decide +kernel
theorem dX9_told_214 : decode cX9_told 214 = .ok (.invokevirtual 139, 3) := by decide +kernel
theorem dX9_told_217 : decode cX9_told 217 = .ok (.ireturn, 1) := by decide +kernel
theorem dX9_told_218 : decode cX9_told 218 = .ok (.aload_n 0, 1) := by decide +kernel
theorem dX9_told_219 : decode cX9_told 219 = .ok (.getfield 19, 3) := by decide +kernel
theorem dX9_told_222 : decode cX9_told 222 = .ok (.aload_n 0, 1) := by decide +kernel
theorem dX9_told_223 : decode cX9_told 223 = .ok (.getfield 29, 3) := by decide +kernel
theorem dX9_told_226 : decode cX9_told 226 = .ok (.invokevirtual 143, 3) := by decide +kernel
theorem dX9_told_229 : decode cX9_told 229 = .ok (.ireturn, 1) := by decide +kernel
theorem dX9_told_230 : decode cX9_told 230 = .ok (.aload_n 0, 1) := by decide +kernel
theorem dX9_told_231 : decode cX9_told 231 = .ok (.getfield 29, 3) := by decide +kernel
theorem dX9_told_234 : decode cX9_told 234 = .ok (.invokevirtual 146, 3) := by decide +kernel
theorem dX9_told_237 : decode cX9_told 237 = .ok (.ireturn, 1) := by decide +kernel
theorem dX9_told_238 : decode cX9_told 238 = .ok (.aload_n 0, 1) := by decide +kernel
theorem dX9_told_239 : decode cX9_told 239 = .ok (.getfield 29, 3) := by decide +kernel
theorem dX9_told_242 : decode cX9_told 242 = .ok (.getfield 149, 3) := by decide +kernel
theorem dX9_told_245 : decode cX9_told 245 = .ok (.aload_n 0, 1) := by decide +kernel
theorem dX9_told_246 : decode cX9_told 246 = .ok (.getfield 19, 3) := by decide +kernel
theorem dX9_told_249 : decode cX9_told 249 = .ok (.getfield 111, 3) := by decide +kernel
theorem dX9_told_252 : decode cX9_told 252 = .ok (.invokestatic 153, 3) := by decide +kernel
theorem dX9_told_255 : decode cX9_told 255 = .ok (.ireturn, 1) := by decide +kernel
theorem dX9_told_256 : decode cX9_told 256 = .ok (.aload_n 0, 1) := by decide +kernel
theorem dX9_told_257 : decode cX9_told 257 = .ok (.getfield 29, 3) := by decide +kernel
theorem dX9_told_260 : decode cX9_told 260 = .ok (.aload_n 0, 1) := by decide +kernel
theorem dX9_told_261 : decode cX9_told 261 = .ok (.getfield 19, 3) := by decide +kernel
theorem dX9_told_264 : decode cX9_told 264 = .ok (.getfield 111, 3) := by decide +kernel
theorem dX9_told_267 : decode cX9_told 267 = .ok (.invokevirtual 157, 3) := by decide +kernel
theorem dX9_told_270 : decode cX9_told 270 = .ok (.ireturn, 1) := by decide +kernel
theorem dX9_told_271 : decode cX9_told 271 = .ok (.aload_n 0, 1) := by decide +kernel
theorem dX9_told_272 : decode cX9_told 272 = .ok (.getfield 29, 3) := by decide +kernel
theorem dX9_told_275 : decode cX9_told 275 = .ok (.aload_n 0, 1) := by decide +kernel
theorem dX9_told_276 : decode cX9_told 276 = .ok (.getfield 19, 3) := by decide +kernel
theorem dX9_told_279 : decode cX9_told 279 = .ok (.invokevirtual 160, 3) := by decide +kernel
theorem dX9_told_282 : decode cX9_told 282 = .ok (.ireturn, 1) := by decide +kernel
theorem dX9_told_283 : decode cX9_told 283 = .ok (.aload_n 0, 1) := by decide +kernel
theorem dX9_told_284 : decode cX9_told 284 = .ok (.getfield 29, 3) := by decide +kernel
theorem dX9_told_287 : decode cX9_told 287 = .ok (.getfield 164, 3) := by decide +kernel
theorem dX9_told_290 : decode cX9_told 290 = .ok (.ireturn, 1) := by decide +kernel
theorem dX9_told_291 : decode cX9_told 291 = .ok (.aload_n 0, 1) := by decide +kernel
theorem dX9_told_292 : decode cX9_told 292 = .ok (.getfield 50, 3) := by decide +kernel
theorem dX9_told_295 : decode cX9_told 295 = .ok (.getfield 91, 3) := by decide +kernel
theorem dX9_told_298 : decode cX9_told 298 = .ok (.ireturn, 1) := by decide +kernel
theorem dX9_told_299 : decode cX9_told 299 = .ok (.aload_n 0, 1) := by decide +kernel
theorem dX9_told_300 : decode cX9_told 300 = .ok (.getfield 57, 3) := by decide +kernel
theorem dX9_told_303 : decode cX9_told 303 = .ok (.getfield 94, 3) := by decide +kernel
theorem dX9_told_306 : decode cX9_told 306 = .ok (.ireturn, 1) := by decide +kernel
theorem dX9_told_307 : decode cX9_told 307 = .ok (.aload_n 0, 1) := by decide +kernel
theorem dX9_told_308 : decode cX9_told 308 = .ok (.getfield 36, 3) := by decide +kernel
theorem dX9_told_311 : decode cX9_told 311 = .ok (.getfield 167, 3) := by decide +kernel
theorem dX9_told_314 : decode cX9_told 314 = .ok (.ireturn, 1) := by decide +kernel
theorem dX9_told_315 : decode cX9_told 315 = .ok (.ldc 75, 2) := by decide +kernel
theorem dX9_told_317 : decode cX9_told 317 = .ok (.ireturn, 1) := by decide +kernel
theorem dX9_layer_0 : decode cX9_layer 0 = .ok (.aload_n 0, 1) := by decide +kernel
theorem dX9_layer_1 : decode cX9_layer 1 = .ok (.getfield 29, 3) := by decide +kernel
theorem dX9_layer_4 : decode cX9_layer 4 = .ok (.iload_n 1, 1) := by decide +kernel
theorem dX9_layer_5 : decode cX9_layer 5 = .ok (.invokevirtual 168, 3) := by decide +kernel
theorem dX9_layer_8 : decode cX9_layer 8 = .ok (.ifCond .ne 6, 3) := by decide +kernel
theorem dX9_layer_11 : decode cX9_layer 11 = .ok (.ldc 172, 2) := by decide +kernel
theorem dX9_layer_13 : decode cX9_layer 13 = .ok (.ireturn, 1) := by decide +kernel
theorem dX9_layer_14 : decode cX9_layer 14 = .ok (.iload_n 2, 1) := by decide +kernel
theorem dX9_layer_15 : decode cX9_layer 15 = .ok (.tableswitch 67 0 3 #[29, 39, 49, 58], 29) := by decide +kernel
theorem dX9_layer_44 : decode cX9_layer 44 = .ok (.aload_n 0, 1) := by decide +kernel
theorem dX9_layer_45 : decode cX9_layer 45 = .ok (.getfield 29, 3) := by decide +kernel
theorem dX9_layer_48 : decode cX9_layer 48 = .ok (.getfield 173, 3) := by decide +kernel
theorem dX9_layer_51 : decode cX9_layer 51 = .ok (.iload_n 1, 1) := by decide +kernel
theorem dX9_layer_52 : decode cX9_layer 52 = .ok (.iaload, 1) := by decide +kernel
theorem dX9_layer_53 : decode cX9_layer 53 = .ok (.ireturn, 1) := by decide +kernel
theorem dX9_layer_54 : decode cX9_layer 54 = .ok (.aload_n 0, 1) := by decide +kernel
theorem dX9_layer_55 : decode cX9_layer 55 = .ok (.getfield 29, 3) := by decide +kernel
theorem dX9_layer_58 : decode cX9_layer 58 = .ok (.getfield 176, 3) := by decide +kernel
theorem dX9_layer_61 : decode cX9_layer 61 = .ok (.iload_n 1, 1) := by decide +kernel
theorem dX9_layer_62 : decode cX9_layer 62 = .ok (.iaload, 1) := by decide +kernel
theorem dX9_layer_63 : decode cX9_layer 63 = .ok (.ireturn, 1) := by decide +kernel
theorem dX9_layer_64 : decode cX9_layer 64 = .ok (.aload_n 0, 1) := by decide +kernel
theorem dX9_layer_65 : decode cX9_layer 65 = .ok (.getfield 29, 3) := by decide +kernel
theorem dX9_layer_68 : decode cX9_layer 68 = .ok (.iload_n 1, 1) := by decide +kernel
theorem dX9_layer_69 : decode cX9_layer 69 = .ok (.invokevirtual 179, 3) := by decide +kernel
theorem dX9_layer_72 : decode cX9_layer 72 = .ok (.ireturn, 1) := by decide +kernel
theorem dX9_layer_73 : decode cX9_layer 73 = .ok (.aload_n 0, 1) := by decide +kernel
theorem dX9_layer_74 : decode cX9_layer 74 = .ok (.getfield 29, 3) := by decide +kernel
theorem dX9_layer_77 : decode cX9_layer 77 = .ok (.iload_n 1, 1) := by decide +kernel
theorem dX9_layer_78 : decode cX9_layer 78 = .ok (.invokevirtual 182, 3) := by decide +kernel
theorem dX9_layer_81 : decode cX9_layer 81 = .ok (.ireturn, 1) := by decide +kernel
theorem dX9_layer_82 : decode cX9_layer 82 = .ok (.ldc 75, 2) := by decide +kernel
theorem dX9_layer_84 : decode cX9_layer 84 = .ok (.ireturn, 1) := by decide +kernel
theorem dX9_executor_0 : decode cX9_executor 0 = .ok (.aload_n 0, 1) := by decide +kernel
theorem dX9_executor_1 : decode cX9_executor 1 = .ok (.getfield 19, 3) := by decide +kernel
theorem dX9_executor_4 : decode cX9_executor 4 = .ok (.iload_n 1, 1) := by decide +kernel
theorem dX9_executor_5 : decode cX9_executor 5 = .ok (.invokevirtual 185, 3) := by decide +kernel
theorem dX9_executor_8 : decode cX9_executor 8 = .ok (.ifCond .ne 6, 3) := by decide +kernel
theorem dX9_executor_11 : decode cX9_executor 11 = .ok (.ldc 172, 2) := by decide +kernel
theorem dX9_executor_13 : decode cX9_executor 13 = .ok (.ireturn, 1) := by decide +kernel
theorem dX9_executor_14 : decode cX9_executor 14 = .ok (.iload_n 2, 1) := by decide +kernel
theorem dX9_executor_15 : decode cX9_executor 15 = .ok (.tableswitch 83 0 4 #[33, 43, 53, 63, 73], 33) := by decide +kernel
theorem dX9_executor_48 : decode cX9_executor 48 = .ok (.aload_n 0, 1) := by decide +kernel
theorem dX9_executor_49 : decode cX9_executor 49 = .ok (.getfield 19, 3) := by decide +kernel
theorem dX9_executor_52 : decode cX9_executor 52 = .ok (.getfield 188, 3) := by decide +kernel
theorem dX9_executor_55 : decode cX9_executor 55 = .ok (.iload_n 1, 1) := by decide +kernel
theorem dX9_executor_56 : decode cX9_executor 56 = .ok (.iaload, 1) := by decide +kernel
theorem dX9_executor_57 : decode cX9_executor 57 = .ok (.ireturn, 1) := by decide +kernel
theorem dX9_executor_58 : decode cX9_executor 58 = .ok (.aload_n 0, 1) := by decide +kernel
theorem dX9_executor_59 : decode cX9_executor 59 = .ok (.getfield 19, 3) := by decide +kernel
theorem dX9_executor_62 : decode cX9_executor 62 = .ok (.getfield 191, 3) := by decide +kernel
theorem dX9_executor_65 : decode cX9_executor 65 = .ok (.iload_n 1, 1) := by decide +kernel
theorem dX9_executor_66 : decode cX9_executor 66 = .ok (.iaload, 1) := by decide +kernel
theorem dX9_executor_67 : decode cX9_executor 67 = .ok (.ireturn, 1) := by decide +kernel
theorem dX9_executor_68 : decode cX9_executor 68 = .ok (.aload_n 0, 1) := by decide +kernel
theorem dX9_executor_69 : decode cX9_executor 69 = .ok (.getfield 29, 3) := by decide +kernel
theorem dX9_executor_72 : decode cX9_executor 72 = .ok (.getfield 149, 3) := by decide +kernel
theorem dX9_executor_75 : decode cX9_executor 75 = .ok (.iload_n 1, 1) := by decide +kernel
theorem dX9_executor_76 : decode cX9_executor 76 = .ok (.iaload, 1) := by decide +kernel
theorem dX9_executor_77 : decode cX9_executor 77 = .ok (.ireturn, 1) := by decide +kernel
theorem dX9_executor_78 : decode cX9_executor 78 = .ok (.aload_n 0, 1) := by decide +kernel
theorem dX9_executor_79 : decode cX9_executor 79 = .ok (.getfield 29, 3) := by decide +kernel
theorem dX9_executor_82 : decode cX9_executor 82 = .ok (.getfield 194, 3) := by decide +kernel
theorem dX9_executor_85 : decode cX9_executor 85 = .ok (.iload_n 1, 1) := by decide +kernel
theorem dX9_executor_86 : decode cX9_executor 86 = .ok (.iaload, 1) := by decide +kernel
theorem dX9_executor_87 : decode cX9_executor 87 = .ok (.ireturn, 1) := by decide +kernel
theorem dX9_executor_88 : decode cX9_executor 88 = .ok (.aload_n 0, 1) := by decide +kernel
theorem dX9_executor_89 : decode cX9_executor 89 = .ok (.getfield 29, 3) := by decide +kernel
theorem dX9_executor_92 : decode cX9_executor 92 = .ok (.getfield 197, 3) := by decide +kernel
theorem dX9_executor_95 : decode cX9_executor 95 = .ok (.iload_n 1, 1) := by decide +kernel
theorem dX9_executor_96 : decode cX9_executor 96 = .ok (.iaload, 1) := by decide +kernel
theorem dX9_executor_97 : decode cX9_executor 97 = .ok (.ireturn, 1) := by decide +kernel
theorem dX9_executor_98 : decode cX9_executor 98 = .ok (.ldc 75, 2) := by decide +kernel
theorem dX9_executor_100 : decode cX9_executor 100 = .ok (.ireturn, 1) := by decide +kernel
theorem dX9_type_0 : decode cX9_type 0 = .ok (.iload_n 1, 1) := by decide +kernel
theorem dX9_type_1 : decode cX9_type 1 = .ok (.ifCond .lt 14, 3) := by decide +kernel
theorem dX9_type_4 : decode cX9_type 4 = .ok (.iload_n 1, 1) := by decide +kernel
theorem dX9_type_5 : decode cX9_type 5 = .ok (.aload_n 0, 1) := by decide +kernel
theorem dX9_type_6 : decode cX9_type 6 = .ok (.getfield 19, 3) := by decide +kernel
theorem dX9_type_9 : decode cX9_type 9 = .ok (.getfield 114, 3) := by decide +kernel
theorem dX9_type_12 : decode cX9_type 12 = .ok (.if_icmp .lt 6, 3) := by decide +kernel
theorem dX9_type_15 : decode cX9_type 15 = .ok (.ldc 172, 2) := by decide +kernel
theorem dX9_type_17 : decode cX9_type 17 = .ok (.ireturn, 1) := by decide +kernel
theorem dX9_type_18 : decode cX9_type 18 = .ok (.iload_n 2, 1) := by decide +kernel
theorem dX9_type_19 : decode cX9_type 19 = .ok (.ifCond .lt 9, 3) := by decide +kernel
theorem dX9_type_22 : decode cX9_type 22 = .ok (.iload_n 2, 1) := by decide +kernel
theorem dX9_type_23 : decode cX9_type 23 = .ok (.bipush 8, 2) := by decide +kernel
theorem dX9_type_25 : decode cX9_type 25 = .ok (.if_icmp .lt 6, 3) := by decide +kernel
theorem dX9_type_28 : decode cX9_type 28 = .ok (.ldc 75, 2) := by decide +kernel
theorem dX9_type_30 : decode cX9_type 30 = .ok (.ireturn, 1) := by decide +kernel
theorem dX9_type_31 : decode cX9_type 31 = .ok (.aload_n 0, 1) := by decide +kernel
theorem dX9_type_32 : decode cX9_type 32 = .ok (.getfield 19, 3) := by decide +kernel
theorem dX9_type_35 : decode cX9_type 35 = .ok (.iload_n 1, 1) := by decide +kernel
theorem dX9_type_36 : decode cX9_type 36 = .ok (.iload_n 2, 1) := by decide +kernel
theorem dX9_type_37 : decode cX9_type 37 = .ok (.invokevirtual 200, 3) := by decide +kernel
theorem dX9_type_40 : decode cX9_type 40 = .ok (.ireturn, 1) := by decide +kernel
theorem dX9_logged_0 : decode cX9_logged 0 = .ok (.iload_n 2, 1) := by decide +kernel
theorem dX9_logged_1 : decode cX9_logged 1 = .ok (.ifCond .lt 8, 3) := by decide +kernel
theorem dX9_logged_4 : decode cX9_logged 4 = .ok (.iload_n 2, 1) := by decide +kernel
theorem dX9_logged_5 : decode cX9_logged 5 = .ok (.iconst 4, 1) := by decide +kernel
theorem dX9_logged_6 : decode cX9_logged 6 = .ok (.if_icmp .lt 6, 3) := by decide +kernel
theorem dX9_logged_9 : decode cX9_logged 9 = .ok (.ldc 75, 2) := by decide +kernel
theorem dX9_logged_11 : decode cX9_logged 11 = .ok (.ireturn, 1) := by decide +kernel
theorem dX9_logged_12 : decode cX9_logged 12 = .ok (.iload_n 1, 1) := by decide +kernel
theorem dX9_logged_13 : decode cX9_logged 13 = .ok (.ifCond .lt 14, 3) := by decide +kernel
theorem dX9_logged_16 : decode cX9_logged 16 = .ok (.iload_n 1, 1) := by decide +kernel
theorem dX9_logged_17 : decode cX9_logged 17 = .ok (.aload_n 0, 1) := by decide +kernel
theorem dX9_logged_18 : decode cX9_logged 18 = .ok (.getfield 29, 3) := by decide +kernel
theorem dX9_logged_21 : decode cX9_logged 21 = .ok (.getfield 164, 3) := by decide +kernel
theorem dX9_logged_24 : decode cX9_logged 24 = .ok (.if_icmp .lt 5, 3) := by decide +kernel
theorem dX9_logged_27 : decode cX9_logged 27 = .ok (.iconst (-1), 1) := by decide +kernel
theorem dX9_logged_28 : decode cX9_logged 28 = .ok (.ireturn, 1) := by decide +kernel
theorem dX9_logged_29 : decode cX9_logged 29 = .ok (.aload_n 0, 1) := by decide +kernel
theorem dX9_logged_30 : decode cX9_logged 30 = .ok (.getfield 29, 3) := by decide +kernel
theorem dX9_logged_33 : decode cX9_logged 33 = .ok (.getfield 204, 3) := by decide +kernel
theorem dX9_logged_36 : decode cX9_logged 36 = .ok (.iload_n 1, 1) := by decide +kernel
theorem dX9_logged_37 : decode cX9_logged 37 = .ok (.iconst 4, 1) := by decide +kernel
theorem dX9_logged_38 : decode cX9_logged 38 = .ok (.imul, 1) := by decide +kernel
theorem dX9_logged_39 : decode cX9_logged 39 = .ok (.iload_n 2, 1) := by decide +kernel
theorem dX9_logged_40 : decode cX9_logged 40 = .ok (.iadd, 1) := by decide +kernel
theorem dX9_logged_41 : decode cX9_logged 41 = .ok (.iaload, 1) := by decide +kernel
theorem dX9_logged_42 : decode cX9_logged 42 = .ok (.ireturn, 1) := by decide +kernel
theorem dX9_peel_0 : decode cX9_peel 0 = .ok (.aload_n 0, 1) := by decide +kernel
theorem dX9_peel_1 : decode cX9_peel 1 = .ok (.getfield 19, 3) := by decide +kernel
theorem dX9_peel_4 : decode cX9_peel 4 = .ok (.iload_n 1, 1) := by decide +kernel
theorem dX9_peel_5 : decode cX9_peel 5 = .ok (.invokevirtual 185, 3) := by decide +kernel
theorem dX9_peel_8 : decode cX9_peel 8 = .ok (.ifCond .ne 6, 3) := by decide +kernel
theorem dX9_peel_11 : decode cX9_peel 11 = .ok (.ldc 172, 2) := by decide +kernel
theorem dX9_peel_13 : decode cX9_peel 13 = .ok (.ireturn, 1) := by decide +kernel
theorem dX9_peel_14 : decode cX9_peel 14 = .ok (.aload_n 0, 1) := by decide +kernel
theorem dX9_peel_15 : decode cX9_peel 15 = .ok (.getfield 29, 3) := by decide +kernel
theorem dX9_peel_18 : decode cX9_peel 18 = .ok (.invokevirtual 207, 3) := by decide +kernel
theorem dX9_peel_21 : decode cX9_peel 21 = .ok (.ifCond .ne 6, 3) := by decide +kernel
theorem dX9_peel_24 : decode cX9_peel 24 = .ok (.ldc 211, 2) := by decide +kernel
theorem dX9_peel_26 : decode cX9_peel 26 = .ok (.ireturn, 1) := by decide +kernel
theorem dX9_peel_27 : decode cX9_peel 27 = .ok (.aload_n 0, 1) := by decide +kernel
theorem dX9_peel_28 : decode cX9_peel 28 = .ok (.getfield 36, 3) := by decide +kernel
theorem dX9_peel_31 : decode cX9_peel 31 = .ok (.aload_n 0, 1) := by decide +kernel
theorem dX9_peel_32 : decode cX9_peel 32 = .ok (.getfield 29, 3) := by decide +kernel
theorem dX9_peel_35 : decode cX9_peel 35 = .ok (.invokevirtual 212, 3) := by decide +kernel
theorem dX9_peel_38 : decode cX9_peel 38 = .ok (.aload_n 0, 1) := by decide +kernel
theorem dX9_peel_39 : decode cX9_peel 39 = .ok (.getfield 29, 3) := by decide +kernel
theorem dX9_peel_42 : decode cX9_peel 42 = .ok (.iload_n 1, 1) := by decide +kernel
theorem dX9_peel_43 : decode cX9_peel 43 = .ok (.aload_n 0, 1) := by decide +kernel
theorem dX9_peel_44 : decode cX9_peel 44 = .ok (.getfield 19, 3) := by decide +kernel
theorem dX9_peel_47 : decode cX9_peel 47 = .ok (.getfield 188, 3) := by decide +kernel
theorem dX9_peel_50 : decode cX9_peel 50 = .ok (.iload_n 1, 1) := by decide +kernel
theorem dX9_peel_51 : decode cX9_peel 51 = .ok (.iaload, 1) := by decide +kernel
theorem dX9_peel_52 : decode cX9_peel 52 = .ok (.invokevirtual 216, 3) := by decide +kernel
theorem dX9_peel_55 : decode cX9_peel 55 = .ok (.ireturn, 1) := by decide +kernel
theorem dX9_stop_0 : decode cX9_stop 0 = .ok (.aload_n 0, 1) := by decide +kernel
theorem dX9_stop_1 : decode cX9_stop 1 = .ok (.getfield 19, 3) := by decide +kernel
theorem dX9_stop_4 : decode cX9_stop 4 = .ok (.getfield 108, 3) := by decide +kernel
theorem dX9_stop_7 : decode cX9_stop 7 = .ok (.ifCond .ne 6, 3) := by decide +kernel
theorem dX9_stop_10 : decode cX9_stop 10 = .ok (.ldc 211, 2) := by decide +kernel
theorem dX9_stop_12 : decode cX9_stop 12 = .ok (.ireturn, 1) := by decide +kernel
theorem dX9_stop_13 : decode cX9_stop 13 = .ok (.aload_n 0, 1) := by decide +kernel
theorem dX9_stop_14 : decode cX9_stop 14 = .ok (.getfield 36, 3) := by decide +kernel
theorem dX9_stop_17 : decode cX9_stop 17 = .ok (.aload_n 0, 1) := by decide +kernel
theorem dX9_stop_18 : decode cX9_stop 18 = .ok (.getfield 29, 3) := by decide +kernel
theorem dX9_stop_21 : decode cX9_stop 21 = .ok (.invokevirtual 212, 3) := by decide +kernel
theorem dX9_stop_24 : decode cX9_stop 24 = .ok (.aload_n 0, 1) := by decide +kernel
theorem dX9_stop_25 : decode cX9_stop 25 = .ok (.getfield 29, 3) := by decide +kernel
theorem dX9_stop_28 : decode cX9_stop 28 = .ok (.getfield 123, 3) := by decide +kernel
theorem dX9_stop_31 : decode cX9_stop 31 = .ok (.ifCond .eq 7, 3) := by decide +kernel
theorem dX9_stop_34 : decode cX9_stop 34 = .ok (.iconst 1, 1) := by decide +kernel
theorem dX9_stop_35 : decode cX9_stop 35 = .ok (.goto 4, 3) := by decide +kernel
theorem dX9_stop_38 : decode cX9_stop 38 = .ok (.iconst 0, 1) := by decide +kernel
theorem dX9_stop_39 : decode cX9_stop 39 = .ok (.istore_n 2, 1) := by decide +kernel
theorem dX9_stop_40 : decode cX9_stop 40 = .ok (.aload_n 0, 1) := by decide +kernel
theorem dX9_stop_41 : decode cX9_stop 41 = .ok (.getfield 29, 3) := by decide +kernel
theorem dX9_stop_44 : decode cX9_stop 44 = .ok (.iload_n 1, 1) := by decide +kernel
theorem dX9_stop_45 : decode cX9_stop 45 = .ok (.putfield 123, 3) := by decide +kernel
theorem dX9_stop_48 : decode cX9_stop 48 = .ok (.iload_n 2, 1) := by decide +kernel
theorem dX9_stop_49 : decode cX9_stop 49 = .ok (.ireturn, 1) := by decide +kernel
theorem dX9_visit_0 : decode cX9_visit 0 = .ok (.aload_n 0, 1) := by decide +kernel
theorem dX9_visit_1 : decode cX9_visit 1 = .ok (.getfield 29, 3) := by decide +kernel
theorem dX9_visit_4 : decode cX9_visit 4 = .ok (.getfield 102, 3) := by decide +kernel
theorem dX9_visit_7 : decode cX9_visit 7 = .ok (.ifCond .ne 6, 3) := by decide +kernel
theorem dX9_visit_10 : decode cX9_visit 10 = .ok (.ldc 211, 2) := by decide +kernel
theorem dX9_visit_12 : decode cX9_visit 12 = .ok (.ireturn, 1) := by decide +kernel
theorem dX9_visit_13 : decode cX9_visit 13 = .ok (.aload_n 0, 1) := by decide +kernel
theorem dX9_visit_14 : decode cX9_visit 14 = .ok (.getfield 36, 3) := by decide +kernel
theorem dX9_visit_17 : decode cX9_visit 17 = .ok (.aload_n 0, 1) := by decide +kernel
theorem dX9_visit_18 : decode cX9_visit 18 = .ok (.getfield 29, 3) := by decide +kernel
theorem dX9_visit_21 : decode cX9_visit 21 = .ok (.invokevirtual 212, 3) := by decide +kernel
theorem dX9_visit_24 : decode cX9_visit 24 = .ok (.aload_n 0, 1) := by decide +kernel
theorem dX9_visit_25 : decode cX9_visit 25 = .ok (.getfield 29, 3) := by decide +kernel
theorem dX9_visit_28 : decode cX9_visit 28 = .ok (.invokevirtual 219, 3) := by decide +kernel
theorem dX9_visit_31 : decode cX9_visit 31 = .ok (.aload_n 0, 1) := by decide +kernel
theorem dX9_visit_32 : decode cX9_visit 32 = .ok (.getfield 29, 3) := by decide +kernel
theorem dX9_visit_35 : decode cX9_visit 35 = .ok (.getfield 176, 3) := by decide +kernel
theorem dX9_visit_38 : decode cX9_visit 38 = .ok (.iconst 0, 1) := by decide +kernel
theorem dX9_visit_39 : decode cX9_visit 39 = .ok (.iaload, 1) := by decide +kernel
theorem dX9_visit_40 : decode cX9_visit 40 = .ok (.ireturn, 1) := by decide +kernel
theorem dX9_year_0 : decode cX9_year 0 = .ok (.aload_n 0, 1) := by decide +kernel
theorem dX9_year_1 : decode cX9_year 1 = .ok (.iload_n 1, 1) := by decide +kernel
theorem dX9_year_2 : decode cX9_year 2 = .ok (.invokevirtual 222, 3) := by decide +kernel
theorem dX9_year_5 : decode cX9_year 5 = .ok (.istore_n 2, 1) := by decide +kernel
theorem dX9_year_6 : decode cX9_year 6 = .ok (.iload_n 2, 1) := by decide +kernel
theorem dX9_year_7 : decode cX9_year 7 = .ok (.ifCond .eq 5, 3) := by decide +kernel
theorem dX9_year_10 : decode cX9_year 10 = .ok (.iload_n 2, 1) := by decide +kernel
theorem dX9_year_11 : decode cX9_year 11 = .ok (.ireturn, 1) := by decide +kernel
theorem dX9_year_12 : decode cX9_year 12 = .ok (.iconst 0, 1) := by decide +kernel
theorem dX9_year_13 : decode cX9_year 13 = .ok (.istore_n 3, 1) := by decide +kernel
theorem dX9_year_14 : decode cX9_year 14 = .ok (.iload_n 3, 1) := by decide +kernel
theorem dX9_year_15 : decode cX9_year 15 = .ok (.iload_n 1, 1) := by decide +kernel
theorem dX9_year_16 : decode cX9_year 16 = .ok (.if_icmp .ge 31, 3) := by decide +kernel
theorem dX9_year_19 : decode cX9_year 19 = .ok (.aload_n 0, 1) := by decide +kernel
theorem dX9_year_20 : decode cX9_year 20 = .ok (.getfield 36, 3) := by decide +kernel
theorem dX9_year_23 : decode cX9_year 23 = .ok (.aload_n 0, 1) := by decide +kernel
theorem dX9_year_24 : decode cX9_year 24 = .ok (.getfield 29, 3) := by decide +kernel
theorem dX9_year_27 : decode cX9_year 27 = .ok (.invokevirtual 212, 3) := by decide +kernel
theorem dX9_year_30 : decode cX9_year 30 = .ok (.aload_n 0, 1) := by decide +kernel
theorem dX9_year_31 : decode cX9_year 31 = .ok (.getfield 29, 3) := by decide +kernel
theorem dX9_year_34 : decode cX9_year 34 = .ok (.aload_n 0, 1) := by decide +kernel
theorem dX9_year_35 : decode cX9_year 35 = .ok (.getfield 19, 3) := by decide +kernel
theorem dX9_year_38 : decode cX9_year 38 = .ok (.invokevirtual 225, 3) := by decide +kernel
theorem dX9_year_41 : decode cX9_year 41 = .ok (.iinc 3 1, 3) := by decide +kernel
theorem dX9_year_44 : decode cX9_year 44 = .ok (.goto (-30), 3) := by decide +kernel
theorem dX9_year_47 : decode cX9_year 47 = .ok (.aload_n 0, 1) := by decide +kernel
theorem dX9_year_48 : decode cX9_year 48 = .ok (.getfield 29, 3) := by decide +kernel
theorem dX9_year_51 : decode cX9_year 51 = .ok (.getfield 120, 3) := by decide +kernel
theorem dX9_year_54 : decode cX9_year 54 = .ok (.ireturn, 1) := by decide +kernel
theorem dX9_drift_0 : decode cX9_drift 0 = .ok (.aload_n 0, 1) := by decide +kernel
theorem dX9_drift_1 : decode cX9_drift 1 = .ok (.iload_n 1, 1) := by decide +kernel
theorem dX9_drift_2 : decode cX9_drift 2 = .ok (.invokevirtual 222, 3) := by decide +kernel
theorem dX9_drift_5 : decode cX9_drift 5 = .ok (.istore_n 2, 1) := by decide +kernel
theorem dX9_drift_6 : decode cX9_drift 6 = .ok (.iload_n 2, 1) := by decide +kernel
theorem dX9_drift_7 : decode cX9_drift 7 = .ok (.ifCond .eq 5, 3) := by decide +kernel
theorem dX9_drift_10 : decode cX9_drift 10 = .ok (.iload_n 2, 1) := by decide +kernel
theorem dX9_drift_11 : decode cX9_drift 11 = .ok (.ireturn, 1) := by decide +kernel
theorem dX9_drift_12 : decode cX9_drift 12 = .ok (.iconst 0, 1) := by decide +kernel
theorem dX9_drift_13 : decode cX9_drift 13 = .ok (.istore_n 3, 1) := by decide +kernel
theorem dX9_drift_14 : decode cX9_drift 14 = .ok (.iload_n 3, 1) := by decide +kernel
theorem dX9_drift_15 : decode cX9_drift 15 = .ok (.iload_n 1, 1) := by decide +kernel
theorem dX9_drift_16 : decode cX9_drift 16 = .ok (.if_icmp .ge 45, 3) := by decide +kernel
theorem dX9_drift_19 : decode cX9_drift 19 = .ok (.aload_n 0, 1) := by decide +kernel
theorem dX9_drift_20 : decode cX9_drift 20 = .ok (.getfield 36, 3) := by decide +kernel
theorem dX9_drift_23 : decode cX9_drift 23 = .ok (.aload_n 0, 1) := by decide +kernel
theorem dX9_drift_24 : decode cX9_drift 24 = .ok (.getfield 29, 3) := by decide +kernel
theorem dX9_drift_27 : decode cX9_drift 27 = .ok (.invokevirtual 212, 3) := by decide +kernel
theorem dX9_drift_30 : decode cX9_drift 30 = .ok (.aload_n 0, 1) := by decide +kernel
theorem dX9_drift_31 : decode cX9_drift 31 = .ok (.getfield 19, 3) := by decide +kernel
theorem dX9_drift_34 : decode cX9_drift 34 = .ok (.getfield 111, 3) := by decide +kernel
theorem dX9_drift_37 : decode cX9_drift 37 = .ok (.ifCond .le 7, 3) := by decide +kernel
theorem dX9_drift_40 : decode cX9_drift 40 = .ok (.aload_n 0, 1) := by decide +kernel
theorem dX9_drift_41 : decode cX9_drift 41 = .ok (.invokevirtual 228, 3) := by decide +kernel
theorem dX9_drift_44 : decode cX9_drift 44 = .ok (.aload_n 0, 1) := by decide +kernel
theorem dX9_drift_45 : decode cX9_drift 45 = .ok (.getfield 29, 3) := by decide +kernel
theorem dX9_drift_48 : decode cX9_drift 48 = .ok (.aload_n 0, 1) := by decide +kernel
theorem dX9_drift_49 : decode cX9_drift 49 = .ok (.getfield 19, 3) := by decide +kernel
theorem dX9_drift_52 : decode cX9_drift 52 = .ok (.invokevirtual 225, 3) := by decide +kernel
theorem dX9_drift_55 : decode cX9_drift 55 = .ok (.iinc 3 1, 3) := by decide +kernel
theorem dX9_drift_58 : decode cX9_drift 58 = .ok (.goto (-44), 3) := by decide +kernel
theorem dX9_drift_61 : decode cX9_drift 61 = .ok (.aload_n 0, 1) := by decide +kernel
theorem dX9_drift_62 : decode cX9_drift 62 = .ok (.getfield 29, 3) := by decide +kernel
theorem dX9_drift_65 : decode cX9_drift 65 = .ok (.getfield 120, 3) := by decide +kernel
theorem dX9_drift_68 : decode cX9_drift 68 = .ok (.ireturn, 1) := by decide +kernel
theorem dX9_undo_0 : decode cX9_undo 0 = .ok (.iload_n 1, 1) := by decide +kernel
theorem dX9_undo_1 : decode cX9_undo 1 = .ok (.iconst 1, 1) := by decide +kernel
theorem dX9_undo_2 : decode cX9_undo 2 = .ok (.if_icmp .lt 9, 3) := by decide +kernel
theorem dX9_undo_5 : decode cX9_undo 5 = .ok (.iload_n 1, 1) := by decide +kernel
theorem dX9_undo_6 : decode cX9_undo 6 = .ok (.bipush 30, 2) := by decide +kernel
theorem dX9_undo_8 : decode cX9_undo 8 = .ok (.if_icmp .le 6, 3) := by decide +kernel
theorem dX9_undo_11 : decode cX9_undo 11 = .ok (.ldc 75, 2) := by decide +kernel
theorem dX9_undo_13 : decode cX9_undo 13 = .ok (.ireturn, 1) := by decide +kernel
theorem dX9_undo_14 : decode cX9_undo 14 = .ok (.iload_n 1, 1) := by decide +kernel
theorem dX9_undo_15 : decode cX9_undo 15 = .ok (.aload_n 0, 1) := by decide +kernel
theorem dX9_undo_16 : decode cX9_undo 16 = .ok (.getfield 36, 3) := by decide +kernel
theorem dX9_undo_19 : decode cX9_undo 19 = .ok (.getfield 167, 3) := by decide +kernel
theorem dX9_undo_22 : decode cX9_undo 22 = .ok (.if_icmp .le 6, 3) := by decide +kernel
theorem dX9_undo_25 : decode cX9_undo 25 = .ok (.ldc 211, 2) := by decide +kernel
theorem dX9_undo_27 : decode cX9_undo 27 = .ok (.ireturn, 1) := by decide +kernel
theorem dX9_undo_28 : decode cX9_undo 28 = .ok (.aload_n 0, 1) := by decide +kernel
theorem dX9_undo_29 : decode cX9_undo 29 = .ok (.getfield 36, 3) := by decide +kernel
theorem dX9_undo_32 : decode cX9_undo 32 = .ok (.iload_n 1, 1) := by decide +kernel
theorem dX9_undo_33 : decode cX9_undo 33 = .ok (.aload_n 0, 1) := by decide +kernel
theorem dX9_undo_34 : decode cX9_undo 34 = .ok (.getfield 29, 3) := by decide +kernel
theorem dX9_undo_37 : decode cX9_undo 37 = .ok (.invokevirtual 231, 3) := by decide +kernel
theorem dX9_undo_40 : decode cX9_undo 40 = .ok (.aload_n 0, 1) := by decide +kernel
theorem dX9_undo_41 : decode cX9_undo 41 = .ok (.getfield 29, 3) := by decide +kernel
theorem dX9_undo_44 : decode cX9_undo 44 = .ok (.getfield 120, 3) := by decide +kernel
theorem dX9_undo_47 : decode cX9_undo 47 = .ok (.ireturn, 1) := by decide +kernel
theorem dX9_worthIt_0 : decode cX9_worthIt 0 = .ok (.aload_n 0, 1) := by decide +kernel
theorem dX9_worthIt_1 : decode cX9_worthIt 1 = .ok (.getfield 19, 3) := by decide +kernel
theorem dX9_worthIt_4 : decode cX9_worthIt 4 = .ok (.iload_n 1, 1) := by decide +kernel
theorem dX9_worthIt_5 : decode cX9_worthIt 5 = .ok (.invokevirtual 185, 3) := by decide +kernel
theorem dX9_worthIt_8 : decode cX9_worthIt 8 = .ok (.ifCond .ne 6, 3) := by decide +kernel
theorem dX9_worthIt_11 : decode cX9_worthIt 11 = .ok (.ldc 172, 2) := by decide +kernel
theorem dX9_worthIt_13 : decode cX9_worthIt 13 = .ok (.ireturn, 1) := by decide +kernel
theorem dX9_worthIt_14 : decode cX9_worthIt 14 = .ok (.iload_n 2, 1) := by decide +kernel
theorem dX9_worthIt_15 : decode cX9_worthIt 15 = .ok (.lookupswitch 79 #[(0, 25), (1, 42)], 25) := by decide +kernel
theorem dX9_worthIt_40 : decode cX9_worthIt 40 = .ok (.aload_n 0, 1) := by decide +kernel
theorem dX9_worthIt_41 : decode cX9_worthIt 41 = .ok (.getfield 29, 3) := by decide +kernel
theorem dX9_worthIt_44 : decode cX9_worthIt 44 = .ok (.aload_n 0, 1) := by decide +kernel
theorem dX9_worthIt_45 : decode cX9_worthIt 45 = .ok (.getfield 19, 3) := by decide +kernel
theorem dX9_worthIt_48 : decode cX9_worthIt 48 = .ok (.getfield 188, 3) := by decide +kernel
theorem dX9_worthIt_51 : decode cX9_worthIt 51 = .ok (.iload_n 1, 1) := by decide +kernel
theorem dX9_worthIt_52 : decode cX9_worthIt 52 = .ok (.iaload, 1) := by decide +kernel
theorem dX9_worthIt_53 : decode cX9_worthIt 53 = .ok (.invokestatic 235, 3) := by decide +kernel
theorem dX9_worthIt_56 : decode cX9_worthIt 56 = .ok (.ireturn, 1) := by decide +kernel
theorem dX9_worthIt_57 : decode cX9_worthIt 57 = .ok (.sipush 1000, 3) := by decide +kernel
theorem dX9_worthIt_60 : decode cX9_worthIt 60 = .ok (.aload_n 0, 1) := by decide +kernel
theorem dX9_worthIt_61 : decode cX9_worthIt 61 = .ok (.getfield 29, 3) := by decide +kernel
theorem dX9_worthIt_64 : decode cX9_worthIt 64 = .ok (.aload_n 0, 1) := by decide +kernel
theorem dX9_worthIt_65 : decode cX9_worthIt 65 = .ok (.getfield 19, 3) := by decide +kernel
theorem dX9_worthIt_68 : decode cX9_worthIt 68 = .ok (.getfield 188, 3) := by decide +kernel
theorem dX9_worthIt_71 : decode cX9_worthIt 71 = .ok (.iload_n 1, 1) := by decide +kernel
theorem dX9_worthIt_72 : decode cX9_worthIt 72 = .ok (.iaload, 1) := by decide +kernel
theorem dX9_worthIt_73 : decode cX9_worthIt 73 = .ok (.aload_n 0, 1) := by decide +kernel
theorem dX9_worthIt_74 : decode cX9_worthIt 74 = .ok (.getfield 29, 3) := by decide +kernel
theorem dX9_worthIt_77 : decode cX9_worthIt 77 = .ok (.aload_n 0, 1) := by decide +kernel
theorem dX9_worthIt_78 : decode cX9_worthIt 78 = .ok (.getfield 19, 3) := by decide +kernel
theorem dX9_worthIt_81 : decode cX9_worthIt 81 = .ok (.getfield 188, 3) := by decide +kernel
theorem dX9_worthIt_84 : decode cX9_worthIt 84 = .ok (.iload_n 1, 1) := by decide +kernel
theorem dX9_worthIt_85 : decode cX9_worthIt 85 = .ok (.iaload, 1) := by decide +kernel
theorem dX9_worthIt_86 : decode cX9_worthIt 86 = .ok (.invokestatic 235, 3) := by decide +kernel
theorem dX9_worthIt_89 : decode cX9_worthIt 89 = .ok (.invokestatic 239, 3) := by decide +kernel
theorem dX9_worthIt_92 : decode cX9_worthIt 92 = .ok (.iadd, 1) := by decide +kernel
theorem dX9_worthIt_93 : decode cX9_worthIt 93 = .ok (.ireturn, 1) := by decide +kernel
theorem dX9_worthIt_94 : decode cX9_worthIt 94 = .ok (.ldc 75, 2) := by decide +kernel
theorem dX9_worthIt_96 : decode cX9_worthIt 96 = .ok (.ireturn, 1) := by decide +kernel
theorem dX9_parts_0 : decode cX9_parts 0 = .ok (.iload_n 1, 1) := by decide +kernel
theorem dX9_parts_1 : decode cX9_parts 1 = .ok (.iconst 1, 1) := by decide +kernel
theorem dX9_parts_2 : decode cX9_parts 2 = .ok (.if_icmp .lt 17, 3) := by decide +kernel
theorem dX9_parts_5 : decode cX9_parts 5 = .ok (.iload_n 1, 1) := by decide +kernel
theorem dX9_parts_6 : decode cX9_parts 6 = .ok (.iconst 5, 1) := by decide +kernel
theorem dX9_parts_7 : decode cX9_parts 7 = .ok (.if_icmp .gt 12, 3) := by decide +kernel
theorem dX9_parts_10 : decode cX9_parts 10 = .ok (.iload_n 2, 1) := by decide +kernel
theorem dX9_parts_11 : decode cX9_parts 11 = .ok (.ifCond .lt 8, 3) := by decide +kernel
theorem dX9_parts_14 : decode cX9_parts 14 = .ok (.iload_n 2, 1) := by decide +kernel
theorem dX9_parts_15 : decode cX9_parts 15 = .ok (.iconst 1, 1) := by decide +kernel
theorem dX9_parts_16 : decode cX9_parts 16 = .ok (.if_icmp .le 6, 3) := by decide +kernel
theorem dX9_parts_19 : decode cX9_parts 19 = .ok (.ldc 75, 2) := by decide +kernel
theorem dX9_parts_21 : decode cX9_parts 21 = .ok (.ireturn, 1) := by decide +kernel
theorem dX9_parts_22 : decode cX9_parts 22 = .ok (.aload_n 0, 1) := by decide +kernel
theorem dX9_parts_23 : decode cX9_parts 23 = .ok (.getfield 29, 3) := by decide +kernel
theorem dX9_parts_26 : decode cX9_parts 26 = .ok (.getfield 102, 3) := by decide +kernel
theorem dX9_parts_29 : decode cX9_parts 29 = .ok (.iload_n 1, 1) := by decide +kernel
theorem dX9_parts_30 : decode cX9_parts 30 = .ok (.if_icmp .ge 5, 3) := by decide +kernel
theorem dX9_parts_33 : decode cX9_parts 33 = .ok (.iconst (-1), 1) := by decide +kernel
theorem dX9_parts_34 : decode cX9_parts 34 = .ok (.ireturn, 1) := by decide +kernel
theorem dX9_parts_35 : decode cX9_parts 35 = .ok (.aload_n 0, 1) := by decide +kernel
theorem dX9_parts_36 : decode cX9_parts 36 = .ok (.getfield 64, 3) := by decide +kernel
theorem dX9_parts_39 : decode cX9_parts 39 = .ok (.aload_n 0, 1) := by decide +kernel
theorem dX9_parts_40 : decode cX9_parts 40 = .ok (.getfield 29, 3) := by decide +kernel
theorem dX9_parts_43 : decode cX9_parts 43 = .ok (.iload_n 1, 1) := by decide +kernel
theorem dX9_parts_44 : decode cX9_parts 44 = .ok (.invokevirtual 243, 3) := by decide +kernel
theorem dX9_parts_47 : decode cX9_parts 47 = .ok (.istore_n 3, 1) := by decide +kernel
theorem dX9_parts_48 : decode cX9_parts 48 = .ok (.iload_n 2, 1) := by decide +kernel
theorem dX9_parts_49 : decode cX9_parts 49 = .ok (.ifCond .ne 15, 3) := by decide +kernel
theorem dX9_parts_52 : decode cX9_parts 52 = .ok (.aload_n 0, 1) := by decide +kernel
theorem dX9_parts_53 : decode cX9_parts 53 = .ok (.getfield 64, 3) := by decide +kernel
theorem dX9_parts_56 : decode cX9_parts 56 = .ok (.getfield 246, 3) := by decide +kernel
theorem dX9_parts_59 : decode cX9_parts 59 = .ok (.iconst 0, 1) := by decide +kernel
theorem dX9_parts_60 : decode cX9_parts 60 = .ok (.iaload, 1) := by decide +kernel
theorem dX9_parts_61 : decode cX9_parts 61 = .ok (.goto 4, 3) := by decide +kernel
theorem dX9_parts_64 : decode cX9_parts 64 = .ok (.iload_n 3, 1) := by decide +kernel
theorem dX9_parts_65 : decode cX9_parts 65 = .ok (.ireturn, 1) := by decide +kernel
theorem dX9_byTurns_0 : decode cX9_byTurns 0 = .ok (.iload_n 1, 1) := by decide +kernel
theorem dX9_byTurns_1 : decode cX9_byTurns 1 = .ok (.ifCond .lt 8, 3) := by decide +kernel
theorem dX9_byTurns_4 : decode cX9_byTurns 4 = .ok (.iload_n 1, 1) := by decide +kernel
theorem dX9_byTurns_5 : decode cX9_byTurns 5 = .ok (.iconst 1, 1) := by decide +kernel
theorem dX9_byTurns_6 : decode cX9_byTurns 6 = .ok (.if_icmp .le 6, 3) := by decide +kernel
theorem dX9_byTurns_9 : decode cX9_byTurns 9 = .ok (.ldc 75, 2) := by decide +kernel
theorem dX9_byTurns_11 : decode cX9_byTurns 11 = .ok (.ireturn, 1) := by decide +kernel
theorem dX9_byTurns_12 : decode cX9_byTurns 12 = .ok (.aload_n 0, 1) := by decide +kernel
theorem dX9_byTurns_13 : decode cX9_byTurns 13 = .ok (.getfield 64, 3) := by decide +kernel
theorem dX9_byTurns_16 : decode cX9_byTurns 16 = .ok (.aload_n 0, 1) := by decide +kernel
theorem dX9_byTurns_17 : decode cX9_byTurns 17 = .ok (.getfield 29, 3) := by decide +kernel
theorem dX9_byTurns_20 : decode cX9_byTurns 20 = .ok (.invokevirtual 249, 3) := by decide +kernel
theorem dX9_byTurns_23 : decode cX9_byTurns 23 = .ok (.istore_n 2, 1) := by decide +kernel
theorem dX9_byTurns_24 : decode cX9_byTurns 24 = .ok (.iload_n 1, 1) := by decide +kernel
theorem dX9_byTurns_25 : decode cX9_byTurns 25 = .ok (.ifCond .ne 19, 3) := by decide +kernel
theorem dX9_byTurns_28 : decode cX9_byTurns 28 = .ok (.sipush 1000, 3) := by decide +kernel
theorem dX9_byTurns_31 : decode cX9_byTurns 31 = .ok (.aload_n 0, 1) := by decide +kernel
theorem dX9_byTurns_32 : decode cX9_byTurns 32 = .ok (.getfield 64, 3) := by decide +kernel
theorem dX9_byTurns_35 : decode cX9_byTurns 35 = .ok (.getfield 246, 3) := by decide +kernel
theorem dX9_byTurns_38 : decode cX9_byTurns 38 = .ok (.iconst 0, 1) := by decide +kernel
theorem dX9_byTurns_39 : decode cX9_byTurns 39 = .ok (.iaload, 1) := by decide +kernel
theorem dX9_byTurns_40 : decode cX9_byTurns 40 = .ok (.iadd, 1) := by decide +kernel
theorem dX9_byTurns_41 : decode cX9_byTurns 41 = .ok (.goto 4, 3) := by decide +kernel
theorem dX9_byTurns_44 : decode cX9_byTurns 44 = .ok (.iload_n 2, 1) := by decide +kernel
theorem dX9_byTurns_45 : decode cX9_byTurns 45 = .ok (.ireturn, 1) := by decide +kernel
theorem dX9_twoSides_0 : decode cX9_twoSides 0 = .ok (.aload_n 0, 1) := by decide +kernel
theorem dX9_twoSides_1 : decode cX9_twoSides 1 = .ok (.getfield 29, 3) := by decide +kernel
theorem dX9_twoSides_4 : decode cX9_twoSides 4 = .ok (.getfield 102, 3) := by decide +kernel
theorem dX9_twoSides_7 : decode cX9_twoSides 7 = .ok (.aload_n 0, 1) := by decide +kernel
theorem dX9_twoSides_8 : decode cX9_twoSides 8 = .ok (.getfield 29, 3) := by decide +kernel
theorem dX9_twoSides_11 : decode cX9_twoSides 11 = .ok (.getfield 102, 3) := by decide +kernel
theorem dX9_twoSides_14 : decode cX9_twoSides 14 = .ok (.iconst 2, 1) := by decide +kernel
theorem dX9_twoSides_15 : decode cX9_twoSides 15 = .ok (.idiv, 1) := by decide +kernel
theorem dX9_twoSides_16 : decode cX9_twoSides 16 = .ok (.isub, 1) := by decide +kernel
theorem dX9_twoSides_17 : decode cX9_twoSides 17 = .ok (.istore_n 2, 1) := by decide +kernel
theorem dX9_twoSides_18 : decode cX9_twoSides 18 = .ok (.iload_n 1, 1) := by decide +kernel
theorem dX9_twoSides_19 : decode cX9_twoSides 19 = .ok (.tableswitch 75 0 2 #[25, 35, 51], 25) := by decide +kernel
theorem dX9_twoSides_44 : decode cX9_twoSides 44 = .ok (.aload_n 0, 1) := by decide +kernel
theorem dX9_twoSides_45 : decode cX9_twoSides 45 = .ok (.getfield 29, 3) := by decide +kernel
theorem dX9_twoSides_48 : decode cX9_twoSides 48 = .ok (.iconst 0, 1) := by decide +kernel
theorem dX9_twoSides_49 : decode cX9_twoSides 49 = .ok (.iload_n 2, 1) := by decide +kernel
theorem dX9_twoSides_50 : decode cX9_twoSides 50 = .ok (.invokevirtual 252, 3) := by decide +kernel
theorem dX9_twoSides_53 : decode cX9_twoSides 53 = .ok (.ireturn, 1) := by decide +kernel
theorem dX9_twoSides_54 : decode cX9_twoSides 54 = .ok (.aload_n 0, 1) := by decide +kernel
theorem dX9_twoSides_55 : decode cX9_twoSides 55 = .ok (.getfield 29, 3) := by decide +kernel
theorem dX9_twoSides_58 : decode cX9_twoSides 58 = .ok (.iload_n 2, 1) := by decide +kernel
theorem dX9_twoSides_59 : decode cX9_twoSides 59 = .ok (.aload_n 0, 1) := by decide +kernel
theorem dX9_twoSides_60 : decode cX9_twoSides 60 = .ok (.getfield 29, 3) := by decide +kernel
theorem dX9_twoSides_63 : decode cX9_twoSides 63 = .ok (.getfield 102, 3) := by decide +kernel
theorem dX9_twoSides_66 : decode cX9_twoSides 66 = .ok (.invokevirtual 252, 3) := by decide +kernel
theorem dX9_twoSides_69 : decode cX9_twoSides 69 = .ok (.ireturn, 1) := by decide +kernel
theorem dX9_twoSides_70 : decode cX9_twoSides 70 = .ok (.aload_n 0, 1) := by decide +kernel
theorem dX9_twoSides_71 : decode cX9_twoSides 71 = .ok (.getfield 29, 3) := by decide +kernel
theorem dX9_twoSides_74 : decode cX9_twoSides 74 = .ok (.getfield 102, 3) := by decide +kernel
theorem dX9_twoSides_77 : decode cX9_twoSides 77 = .ok (.ifCond .ne 7, 3) := by decide +kernel
theorem dX9_twoSides_80 : decode cX9_twoSides 80 = .ok (.iconst (-1), 1) := by decide +kernel
theorem dX9_twoSides_81 : decode cX9_twoSides 81 = .ok (.goto 12, 3) := by decide +kernel
theorem dX9_twoSides_84 : decode cX9_twoSides 84 = .ok (.aload_n 0, 1) := by decide +kernel
theorem dX9_twoSides_85 : decode cX9_twoSides 85 = .ok (.getfield 29, 3) := by decide +kernel
theorem dX9_twoSides_88 : decode cX9_twoSides 88 = .ok (.getfield 102, 3) := by decide +kernel
theorem dX9_twoSides_91 : decode cX9_twoSides 91 = .ok (.iconst 2, 1) := by decide +kernel
theorem dX9_twoSides_92 : decode cX9_twoSides 92 = .ok (.idiv, 1) := by decide +kernel
theorem dX9_twoSides_93 : decode cX9_twoSides 93 = .ok (.ireturn, 1) := by decide +kernel
theorem dX9_twoSides_94 : decode cX9_twoSides 94 = .ok (.ldc 75, 2) := by decide +kernel
theorem dX9_twoSides_96 : decode cX9_twoSides 96 = .ok (.ireturn, 1) := by decide +kernel
theorem dX9_nextKind_0 : decode cX9_nextKind 0 = .ok (.iload_n 1, 1) := by decide +kernel
theorem dX9_nextKind_1 : decode cX9_nextKind 1 = .ok (.ifCond .lt 8, 3) := by decide +kernel
theorem dX9_nextKind_4 : decode cX9_nextKind 4 = .ok (.iload_n 1, 1) := by decide +kernel
theorem dX9_nextKind_5 : decode cX9_nextKind 5 = .ok (.iconst 5, 1) := by decide +kernel
theorem dX9_nextKind_6 : decode cX9_nextKind 6 = .ok (.if_icmp .lt 6, 3) := by decide +kernel
theorem dX9_nextKind_9 : decode cX9_nextKind 9 = .ok (.ldc 75, 2) := by decide +kernel
theorem dX9_nextKind_11 : decode cX9_nextKind 11 = .ok (.ireturn, 1) := by decide +kernel
theorem dX9_nextKind_12 : decode cX9_nextKind 12 = .ok (.aload_n 0, 1) := by decide +kernel
theorem dX9_nextKind_13 : decode cX9_nextKind 13 = .ok (.getfield 19, 3) := by decide +kernel
theorem dX9_nextKind_16 : decode cX9_nextKind 16 = .ok (.aload_n 0, 1) := by decide +kernel
theorem dX9_nextKind_17 : decode cX9_nextKind 17 = .ok (.getfield 29, 3) := by decide +kernel
theorem dX9_nextKind_20 : decode cX9_nextKind 20 = .ok (.iload_n 1, 1) := by decide +kernel
theorem dX9_nextKind_21 : decode cX9_nextKind 21 = .ok (.invokevirtual 255, 3) := by decide +kernel
theorem dX9_nextKind_24 : decode cX9_nextKind 24 = .ok (.ireturn, 1) := by decide +kernel
theorem dX9_allows_0 : decode cX9_allows 0 = .ok (.iload_n 1, 1) := by decide +kernel
theorem dX9_allows_1 : decode cX9_allows 1 = .ok (.ifCond .lt 8, 3) := by decide +kernel
theorem dX9_allows_4 : decode cX9_allows 4 = .ok (.iload_n 1, 1) := by decide +kernel
theorem dX9_allows_5 : decode cX9_allows 5 = .ok (.iconst 5, 1) := by decide +kernel
theorem dX9_allows_6 : decode cX9_allows 6 = .ok (.if_icmp .lt 6, 3) := by decide +kernel
theorem dX9_allows_9 : decode cX9_allows 9 = .ok (.ldc 75, 2) := by decide +kernel
theorem dX9_allows_11 : decode cX9_allows 11 = .ok (.ireturn, 1) := by decide +kernel
theorem dX9_allows_12 : decode cX9_allows 12 = .ok (.aload_n 0, 1) := by decide +kernel
theorem dX9_allows_13 : decode cX9_allows 13 = .ok (.getfield 29, 3) := by decide +kernel
theorem dX9_allows_16 : decode cX9_allows 16 = .ok (.iload_n 1, 1) := by decide +kernel
theorem dX9_allows_17 : decode cX9_allows 17 = .ok (.aload_n 0, 1) := by decide +kernel
theorem dX9_allows_18 : decode cX9_allows 18 = .ok (.getfield 19, 3) := by decide +kernel
theorem dX9_allows_21 : decode cX9_allows 21 = .ok (.invokevirtual 258, 3) := by decide +kernel
theorem dX9_allows_24 : decode cX9_allows 24 = .ok (.invokevirtual 261, 3) := by decide +kernel
theorem dX9_allows_27 : decode cX9_allows 27 = .ok (.ireturn, 1) := by decide +kernel
theorem dX9_run_0 : decode cX9_run 0 = .ok (.iload_n 1, 1) := by decide +kernel
theorem dX9_run_1 : decode cX9_run 1 = .ok (.ifCond .lt 8, 3) := by decide +kernel
theorem dX9_run_4 : decode cX9_run 4 = .ok (.iload_n 1, 1) := by decide +kernel
theorem dX9_run_5 : decode cX9_run 5 = .ok (.iconst 1, 1) := by decide +kernel
theorem dX9_run_6 : decode cX9_run 6 = .ok (.if_icmp .le 6, 3) := by decide +kernel
theorem dX9_run_9 : decode cX9_run 9 = .ok (.ldc 75, 2) := by decide +kernel
theorem dX9_run_11 : decode cX9_run 11 = .ok (.ireturn, 1) := by decide +kernel
theorem dX9_run_12 : decode cX9_run 12 = .ok (.aload_n 0, 1) := by decide +kernel
theorem dX9_run_13 : decode cX9_run 13 = .ok (.getfield 29, 3) := by decide +kernel
theorem dX9_run_16 : decode cX9_run 16 = .ok (.invokevirtual 264, 3) := by decide +kernel
theorem dX9_run_19 : decode cX9_run 19 = .ok (.istore_n 2, 1) := by decide +kernel
theorem dX9_run_20 : decode cX9_run 20 = .ok (.iload_n 1, 1) := by decide +kernel
theorem dX9_run_21 : decode cX9_run 21 = .ok (.iconst 1, 1) := by decide +kernel
theorem dX9_run_22 : decode cX9_run 22 = .ok (.if_icmp .ne 5, 3) := by decide +kernel
theorem dX9_run_25 : decode cX9_run 25 = .ok (.iload_n 2, 1) := by decide +kernel
theorem dX9_run_26 : decode cX9_run 26 = .ok (.ireturn, 1) := by decide +kernel
theorem dX9_run_27 : decode cX9_run 27 = .ok (.iload_n 2, 1) := by decide +kernel
theorem dX9_run_28 : decode cX9_run 28 = .ok (.iconst (-1), 1) := by decide +kernel
theorem dX9_run_29 : decode cX9_run 29 = .ok (.if_icmp .ne 7, 3) := by decide +kernel
theorem dX9_run_32 : decode cX9_run 32 = .ok (.iconst 0, 1) := by decide +kernel
theorem dX9_run_33 : decode cX9_run 33 = .ok (.goto 11, 3) := by decide +kernel
theorem dX9_run_36 : decode cX9_run 36 = .ok (.aload_n 0, 1) := by decide +kernel
theorem dX9_run_37 : decode cX9_run 37 = .ok (.getfield 29, 3) := by decide +kernel
theorem dX9_run_40 : decode cX9_run 40 = .ok (.iload_n 2, 1) := by decide +kernel
theorem dX9_run_41 : decode cX9_run 41 = .ok (.invokevirtual 267, 3) := by decide +kernel
theorem dX9_run_44 : decode cX9_run 44 = .ok (.ireturn, 1) := by decide +kernel
theorem dX9_fair_0 : decode cX9_fair 0 = .ok (.iload_n 1, 1) := by decide +kernel
theorem dX9_fair_1 : decode cX9_fair 1 = .ok (.iconst (-1), 1) := by decide +kernel
theorem dX9_fair_2 : decode cX9_fair 2 = .ok (.if_icmp .eq 17, 3) := by decide +kernel
theorem dX9_fair_5 : decode cX9_fair 5 = .ok (.aload_n 0, 1) := by decide +kernel
theorem dX9_fair_6 : decode cX9_fair 6 = .ok (.getfield 29, 3) := by decide +kernel
theorem dX9_fair_9 : decode cX9_fair 9 = .ok (.iload_n 1, 1) := by decide +kernel
theorem dX9_fair_10 : decode cX9_fair 10 = .ok (.invokevirtual 168, 3) := by decide +kernel
theorem dX9_fair_13 : decode cX9_fair 13 = .ok (.ifCond .ne 6, 3) := by decide +kernel
theorem dX9_fair_16 : decode cX9_fair 16 = .ok (.ldc 172, 2) := by decide +kernel
theorem dX9_fair_18 : decode cX9_fair 18 = .ok (.ireturn, 1) := by decide +kernel
theorem dX9_fair_19 : decode cX9_fair 19 = .ok (.aload_n 0, 1) := by decide +kernel
theorem dX9_fair_20 : decode cX9_fair 20 = .ok (.getfield 19, 3) := by decide +kernel
theorem dX9_fair_23 : decode cX9_fair 23 = .ok (.getfield 111, 3) := by decide +kernel
theorem dX9_fair_26 : decode cX9_fair 26 = .ok (.ifCond .ne 5, 3) := by decide +kernel
theorem dX9_fair_29 : decode cX9_fair 29 = .ok (.iconst (-1), 1) := by decide +kernel
theorem dX9_fair_30 : decode cX9_fair 30 = .ok (.ireturn, 1) := by decide +kernel
theorem dX9_fair_31 : decode cX9_fair 31 = .ok (.aload_n 0, 1) := by decide +kernel
theorem dX9_fair_32 : decode cX9_fair 32 = .ok (.getfield 64, 3) := by decide +kernel
theorem dX9_fair_35 : decode cX9_fair 35 = .ok (.aload_n 0, 1) := by decide +kernel
theorem dX9_fair_36 : decode cX9_fair 36 = .ok (.getfield 29, 3) := by decide +kernel
theorem dX9_fair_39 : decode cX9_fair 39 = .ok (.aload_n 0, 1) := by decide +kernel
theorem dX9_fair_40 : decode cX9_fair 40 = .ok (.getfield 19, 3) := by decide +kernel
theorem dX9_fair_43 : decode cX9_fair 43 = .ok (.getfield 111, 3) := by decide +kernel
theorem dX9_fair_46 : decode cX9_fair 46 = .ok (.iload_n 1, 1) := by decide +kernel
theorem dX9_fair_47 : decode cX9_fair 47 = .ok (.invokevirtual 270, 3) := by decide +kernel
theorem dX9_fair_50 : decode cX9_fair 50 = .ok (.istore_n 2, 1) := by decide +kernel
theorem dX9_fair_51 : decode cX9_fair 51 = .ok (.iload_n 1, 1) := by decide +kernel
theorem dX9_fair_52 : decode cX9_fair 52 = .ok (.iconst (-1), 1) := by decide +kernel
theorem dX9_fair_53 : decode cX9_fair 53 = .ok (.if_icmp .ne 23, 3) := by decide +kernel
theorem dX9_fair_56 : decode cX9_fair 56 = .ok (.aload_n 0, 1) := by decide +kernel
theorem dX9_fair_57 : decode cX9_fair 57 = .ok (.getfield 64, 3) := by decide +kernel
theorem dX9_fair_60 : decode cX9_fair 60 = .ok (.getfield 273, 3) := by decide +kernel
theorem dX9_fair_63 : decode cX9_fair 63 = .ok (.aload_n 0, 1) := by decide +kernel
theorem dX9_fair_64 : decode cX9_fair 64 = .ok (.getfield 19, 3) := by decide +kernel
theorem dX9_fair_67 : decode cX9_fair 67 = .ok (.getfield 111, 3) := by decide +kernel
theorem dX9_fair_70 : decode cX9_fair 70 = .ok (.invokestatic 153, 3) := by decide +kernel
theorem dX9_fair_73 : decode cX9_fair 73 = .ok (.goto 4, 3) := by decide +kernel
theorem dX9_fair_76 : decode cX9_fair 76 = .ok (.iload_n 2, 1) := by decide +kernel
theorem dX9_fair_77 : decode cX9_fair 77 = .ok (.ireturn, 1) := by decide +kernel
theorem dX9_dry_0 : decode cX9_dry 0 = .ok (.iload_n 1, 1) := by decide +kernel
theorem dX9_dry_1 : decode cX9_dry 1 = .ok (.ifCond .lt 19, 3) := by decide +kernel
theorem dX9_dry_4 : decode cX9_dry 4 = .ok (.iload_n 1, 1) := by decide +kernel
theorem dX9_dry_5 : decode cX9_dry 5 = .ok (.bipush 60, 2) := by decide +kernel
theorem dX9_dry_7 : decode cX9_dry 7 = .ok (.if_icmp .gt 13, 3) := by decide +kernel
theorem dX9_dry_10 : decode cX9_dry 10 = .ok (.iload_n 2, 1) := by decide +kernel
theorem dX9_dry_11 : decode cX9_dry 11 = .ok (.ifCond .lt 9, 3) := by decide +kernel
theorem dX9_dry_14 : decode cX9_dry 14 = .ok (.iload_n 2, 1) := by decide +kernel
theorem dX9_dry_15 : decode cX9_dry 15 = .ok (.bipush 100, 2) := by decide +kernel
theorem dX9_dry_17 : decode cX9_dry 17 = .ok (.if_icmp .le 6, 3) := by decide +kernel
theorem dX9_dry_20 : decode cX9_dry 20 = .ok (.ldc 75, 2) := by decide +kernel
theorem dX9_dry_22 : decode cX9_dry 22 = .ok (.ireturn, 1) := by decide +kernel
theorem dX9_dry_23 : decode cX9_dry 23 = .ok (.ldc2_w 276, 3) := by decide +kernel
theorem dX9_dry_26 : decode cX9_dry 26 = .ok (.lstore_n 3, 1) := by decide +kernel
theorem dX9_dry_27 : decode cX9_dry 27 = .ok (.iconst 0, 1) := by decide +kernel
theorem dX9_dry_28 : decode cX9_dry 28 = .ok (.istore 5, 2) := by decide +kernel
theorem dX9_dry_30 : decode cX9_dry 30 = .ok (.iload 5, 2) := by decide +kernel
theorem dX9_dry_32 : decode cX9_dry 32 = .ok (.iload_n 1, 1) := by decide +kernel
theorem dX9_dry_33 : decode cX9_dry 33 = .ok (.if_icmp .ge 18, 3) := by decide +kernel
theorem dX9_dry_36 : decode cX9_dry 36 = .ok (.lload_n 3, 1) := by decide +kernel
theorem dX9_dry_37 : decode cX9_dry 37 = .ok (.iload_n 2, 1) := by decide +kernel
theorem dX9_dry_38 : decode cX9_dry 38 = .ok (.i2l, 1) := by decide +kernel
theorem dX9_dry_39 : decode cX9_dry 39 = .ok (.lmul, 1) := by decide +kernel
theorem dX9_dry_40 : decode cX9_dry 40 = .ok (.ldc2_w 278, 3) := by decide +kernel
theorem dX9_dry_43 : decode cX9_dry 43 = .ok (.ldiv, 1) := by decide +kernel
theorem dX9_dry_44 : decode cX9_dry 44 = .ok (.lstore_n 3, 1) := by decide +kernel
theorem dX9_dry_45 : decode cX9_dry 45 = .ok (.iinc 5 1, 3) := by decide +kernel
theorem dX9_dry_48 : decode cX9_dry 48 = .ok (.goto (-18), 3) := by decide +kernel
theorem dX9_dry_51 : decode cX9_dry 51 = .ok (.lload_n 3, 1) := by decide +kernel
theorem dX9_dry_52 : decode cX9_dry 52 = .ok (.l2i, 1) := by decide +kernel
theorem dX9_dry_53 : decode cX9_dry 53 = .ok (.ireturn, 1) := by decide +kernel
theorem dX9_guess_0 : decode cX9_guess 0 = .ok (.iload_n 1, 1) := by decide +kernel
theorem dX9_guess_1 : decode cX9_guess 1 = .ok (.ifCond .lt 18, 3) := by decide +kernel
theorem dX9_guess_4 : decode cX9_guess 4 = .ok (.iload_n 1, 1) := by decide +kernel
theorem dX9_guess_5 : decode cX9_guess 5 = .ok (.bipush 8, 2) := by decide +kernel
theorem dX9_guess_7 : decode cX9_guess 7 = .ok (.if_icmp .ge 12, 3) := by decide +kernel
theorem dX9_guess_10 : decode cX9_guess 10 = .ok (.iload_n 2, 1) := by decide +kernel
theorem dX9_guess_11 : decode cX9_guess 11 = .ok (.ifCond .lt 8, 3) := by decide +kernel
theorem dX9_guess_14 : decode cX9_guess 14 = .ok (.iload_n 2, 1) := by decide +kernel
theorem dX9_guess_15 : decode cX9_guess 15 = .ok (.iconst 5, 1) := by decide +kernel
theorem dX9_guess_16 : decode cX9_guess 16 = .ok (.if_icmp .lt 6, 3) := by decide +kernel
theorem dX9_guess_19 : decode cX9_guess 19 = .ok (.ldc 75, 2) := by decide +kernel
theorem dX9_guess_21 : decode cX9_guess 21 = .ok (.ireturn, 1) := by decide +kernel
theorem dX9_guess_22 : decode cX9_guess 22 = .ok (.aload_n 0, 1) := by decide +kernel
theorem dX9_guess_23 : decode cX9_guess 23 = .ok (.getfield 50, 3) := by decide +kernel
theorem dX9_guess_26 : decode cX9_guess 26 = .ok (.iload_n 1, 1) := by decide +kernel
theorem dX9_guess_27 : decode cX9_guess 27 = .ok (.iload_n 2, 1) := by decide +kernel
theorem dX9_guess_28 : decode cX9_guess 28 = .ok (.iload_n 3, 1) := by decide +kernel
theorem dX9_guess_29 : decode cX9_guess 29 = .ok (.invokevirtual 280, 3) := by decide +kernel
theorem dX9_guess_32 : decode cX9_guess 32 = .ok (.ireturn, 1) := by decide +kernel
theorem dX9_couldBe_0 : decode cX9_couldBe 0 = .ok (.aload_n 0, 1) := by decide +kernel
theorem dX9_couldBe_1 : decode cX9_couldBe 1 = .ok (.getfield 50, 3) := by decide +kernel
theorem dX9_couldBe_4 : decode cX9_couldBe 4 = .ok (.aload_n 0, 1) := by decide +kernel
theorem dX9_couldBe_5 : decode cX9_couldBe 5 = .ok (.getfield 19, 3) := by decide +kernel
theorem dX9_couldBe_8 : decode cX9_couldBe 8 = .ok (.invokevirtual 283, 3) := by decide +kernel
theorem dX9_couldBe_11 : decode cX9_couldBe 11 = .ok (.ireturn, 1) := by decide +kernel
theorem dX9_ask_0 : decode cX9_ask 0 = .ok (.aload_n 0, 1) := by decide +kernel
theorem dX9_ask_1 : decode cX9_ask 1 = .ok (.getfield 64, 3) := by decide +kernel
theorem dX9_ask_4 : decode cX9_ask 4 = .ok (.aload_n 0, 1) := by decide +kernel
theorem dX9_ask_5 : decode cX9_ask 5 = .ok (.getfield 19, 3) := by decide +kernel
theorem dX9_ask_8 : decode cX9_ask 8 = .ok (.aload_n 0, 1) := by decide +kernel
theorem dX9_ask_9 : decode cX9_ask 9 = .ok (.getfield 50, 3) := by decide +kernel
theorem dX9_ask_12 : decode cX9_ask 12 = .ok (.aload_n 0, 1) := by decide +kernel
theorem dX9_ask_13 : decode cX9_ask 13 = .ok (.getfield 19, 3) := by decide +kernel
theorem dX9_ask_16 : decode cX9_ask 16 = .ok (.invokevirtual 283, 3) := by decide +kernel
theorem dX9_ask_19 : decode cX9_ask 19 = .ok (.invokevirtual 286, 3) := by decide +kernel
theorem dX9_ask_22 : decode cX9_ask 22 = .ok (.ireturn, 1) := by decide +kernel
theorem dX9_write_0 : decode cX9_write 0 = .ok (.aload_n 0, 1) := by decide +kernel
theorem dX9_write_1 : decode cX9_write 1 = .ok (.getfield 19, 3) := by decide +kernel
theorem dX9_write_4 : decode cX9_write 4 = .ok (.iload_n 1, 1) := by decide +kernel
theorem dX9_write_5 : decode cX9_write 5 = .ok (.invokevirtual 185, 3) := by decide +kernel
theorem dX9_write_8 : decode cX9_write 8 = .ok (.ifCond .ne 6, 3) := by decide +kernel
theorem dX9_write_11 : decode cX9_write 11 = .ok (.ldc 172, 2) := by decide +kernel
theorem dX9_write_13 : decode cX9_write 13 = .ok (.ireturn, 1) := by decide +kernel
theorem dX9_write_14 : decode cX9_write 14 = .ok (.iload_n 2, 1) := by decide +kernel
theorem dX9_write_15 : decode cX9_write 15 = .ok (.ifCond .lt 10, 3) := by decide +kernel
theorem dX9_write_18 : decode cX9_write 18 = .ok (.iload_n 2, 1) := by decide +kernel
theorem dX9_write_19 : decode cX9_write 19 = .ok (.sipush 9999, 3) := by decide +kernel
theorem dX9_write_22 : decode cX9_write 22 = .ok (.if_icmp .le 6, 3) := by decide +kernel
theorem dX9_write_25 : decode cX9_write 25 = .ok (.ldc 75, 2) := by decide +kernel
theorem dX9_write_27 : decode cX9_write 27 = .ok (.ireturn, 1) := by decide +kernel
theorem dX9_write_28 : decode cX9_write 28 = .ok (.aload_n 0, 1) := by decide +kernel
theorem dX9_write_29 : decode cX9_write 29 = .ok (.getfield 57, 3) := by decide +kernel
theorem dX9_write_32 : decode cX9_write 32 = .ok (.iload_n 1, 1) := by decide +kernel
theorem dX9_write_33 : decode cX9_write 33 = .ok (.iload_n 2, 1) := by decide +kernel
theorem dX9_write_34 : decode cX9_write 34 = .ok (.invokevirtual 290, 3) := by decide +kernel
theorem dX9_write_37 : decode cX9_write 37 = .ok (.ireturn, 1) := by decide +kernel
theorem dX9_judge_0 : decode cX9_judge 0 = .ok (.aload_n 0, 1) := by decide +kernel
theorem dX9_judge_1 : decode cX9_judge 1 = .ok (.getfield 57, 3) := by decide +kernel
theorem dX9_judge_4 : decode cX9_judge 4 = .ok (.aload_n 0, 1) := by decide +kernel
theorem dX9_judge_5 : decode cX9_judge 5 = .ok (.getfield 29, 3) := by decide +kernel
theorem dX9_judge_8 : decode cX9_judge 8 = .ok (.invokevirtual 292, 3) := by decide +kernel
theorem dX9_judge_11 : decode cX9_judge 11 = .ok (.ireturn, 1) := by decide +kernel
theorem dX9_tear_0 : decode cX9_tear 0 = .ok (.aload_n 0, 1) := by decide +kernel
theorem dX9_tear_1 : decode cX9_tear 1 = .ok (.getfield 50, 3) := by decide +kernel
theorem dX9_tear_4 : decode cX9_tear 4 = .ok (.getfield 91, 3) := by decide +kernel
theorem dX9_tear_7 : decode cX9_tear 7 = .ok (.aload_n 0, 1) := by decide +kernel
theorem dX9_tear_8 : decode cX9_tear 8 = .ok (.getfield 57, 3) := by decide +kernel
theorem dX9_tear_11 : decode cX9_tear 11 = .ok (.getfield 94, 3) := by decide +kernel
theorem dX9_tear_14 : decode cX9_tear 14 = .ok (.iadd, 1) := by decide +kernel
theorem dX9_tear_15 : decode cX9_tear 15 = .ok (.istore_n 1, 1) := by decide +kernel
theorem dX9_tear_16 : decode cX9_tear 16 = .ok (.aload_n 0, 1) := by decide +kernel
theorem dX9_tear_17 : decode cX9_tear 17 = .ok (.getfield 50, 3) := by decide +kernel
theorem dX9_tear_20 : decode cX9_tear 20 = .ok (.iconst 0, 1) := by decide +kernel
theorem dX9_tear_21 : decode cX9_tear 21 = .ok (.putfield 91, 3) := by decide +kernel
theorem dX9_tear_24 : decode cX9_tear 24 = .ok (.aload_n 0, 1) := by decide +kernel
theorem dX9_tear_25 : decode cX9_tear 25 = .ok (.getfield 57, 3) := by decide +kernel
theorem dX9_tear_28 : decode cX9_tear 28 = .ok (.iconst 0, 1) := by decide +kernel
theorem dX9_tear_29 : decode cX9_tear 29 = .ok (.putfield 94, 3) := by decide +kernel
theorem dX9_tear_32 : decode cX9_tear 32 = .ok (.iload_n 1, 1) := by decide +kernel
theorem dX9_tear_33 : decode cX9_tear 33 = .ok (.ireturn, 1) := by decide +kernel
theorem dX9_seed_0 : decode cX9_seed 0 = .ok (.iload_n 1, 1) := by decide +kernel
theorem dX9_seed_1 : decode cX9_seed 1 = .ok (.ifCond .ge 6, 3) := by decide +kernel
theorem dX9_seed_4 : decode cX9_seed 4 = .ok (.ldc 75, 2) := by decide +kernel
theorem dX9_seed_6 : decode cX9_seed 6 = .ok (.ireturn, 1) := by decide +kernel
theorem dX9_seed_7 : decode cX9_seed 7 = .ok (.aload_n 0, 1) := by decide +kernel
theorem dX9_seed_8 : decode cX9_seed 8 = .ok (.getfield 71, 3) := by decide +kernel
theorem dX9_seed_11 : decode cX9_seed 11 = .ok (.getfield 295, 3) := by decide +kernel
theorem dX9_seed_14 : decode cX9_seed 14 = .ok (.istore_n 2, 1) := by decide +kernel
theorem dX9_seed_15 : decode cX9_seed 15 = .ok (.aload_n 0, 1) := by decide +kernel
theorem dX9_seed_16 : decode cX9_seed 16 = .ok (.getfield 71, 3) := by decide +kernel
theorem dX9_seed_19 : decode cX9_seed 19 = .ok (.iload_n 1, 1) := by decide +kernel
theorem dX9_seed_20 : decode cX9_seed 20 = .ok (.putfield 295, 3) := by decide +kernel
theorem dX9_seed_23 : decode cX9_seed 23 = .ok (.iload_n 2, 1) := by decide +kernel
theorem dX9_seed_24 : decode cX9_seed 24 = .ok (.ireturn, 1) := by decide +kernel
theorem dX9_keep_0 : decode cX9_keep 0 = .ok (.iload_n 1, 1) := by decide +kernel
theorem dX9_keep_1 : decode cX9_keep 1 = .ok (.ifCond .lt 8, 3) := by decide +kernel
theorem dX9_keep_4 : decode cX9_keep 4 = .ok (.iload_n 1, 1) := by decide +kernel
theorem dX9_keep_5 : decode cX9_keep 5 = .ok (.iconst 2, 1) := by decide +kernel
theorem dX9_keep_6 : decode cX9_keep 6 = .ok (.if_icmp .lt 6, 3) := by decide +kernel
theorem dX9_keep_9 : decode cX9_keep 9 = .ok (.ldc 172, 2) := by decide +kernel
theorem dX9_keep_11 : decode cX9_keep 11 = .ok (.ireturn, 1) := by decide +kernel
theorem dX9_keep_12 : decode cX9_keep 12 = .ok (.aload_n 0, 1) := by decide +kernel
theorem dX9_keep_13 : decode cX9_keep 13 = .ok (.getfield 42, 3) := by decide +kernel
theorem dX9_keep_16 : decode cX9_keep 16 = .ok (.iload_n 1, 1) := by decide +kernel
theorem dX9_keep_17 : decode cX9_keep 17 = .ok (.aaload, 1) := by decide +kernel
theorem dX9_keep_18 : decode cX9_keep 18 = .ok (.iconst 1, 1) := by decide +kernel
theorem dX9_keep_19 : decode cX9_keep 19 = .ok (.putfield 98, 3) := by decide +kernel
theorem dX9_keep_22 : decode cX9_keep 22 = .ok (.aload_n 0, 1) := by decide +kernel
theorem dX9_keep_23 : decode cX9_keep 23 = .ok (.getfield 42, 3) := by decide +kernel
theorem dX9_keep_26 : decode cX9_keep 26 = .ok (.iload_n 1, 1) := by decide +kernel
theorem dX9_keep_27 : decode cX9_keep 27 = .ok (.aaload, 1) := by decide +kernel
theorem dX9_keep_28 : decode cX9_keep 28 = .ok (.getfield 298, 3) := by decide +kernel
theorem dX9_keep_31 : decode cX9_keep 31 = .ok (.aload_n 0, 1) := by decide +kernel
theorem dX9_keep_32 : decode cX9_keep 32 = .ok (.getfield 29, 3) := by decide +kernel
theorem dX9_keep_35 : decode cX9_keep 35 = .ok (.invokevirtual 299, 3) := by decide +kernel
theorem dX9_keep_38 : decode cX9_keep 38 = .ok (.aload_n 0, 1) := by decide +kernel
theorem dX9_keep_39 : decode cX9_keep 39 = .ok (.getfield 42, 3) := by decide +kernel
theorem dX9_keep_42 : decode cX9_keep 42 = .ok (.iload_n 1, 1) := by decide +kernel
theorem dX9_keep_43 : decode cX9_keep 43 = .ok (.aaload, 1) := by decide +kernel
theorem dX9_keep_44 : decode cX9_keep 44 = .ok (.aload_n 0, 1) := by decide +kernel
theorem dX9_keep_45 : decode cX9_keep 45 = .ok (.getfield 71, 3) := by decide +kernel
theorem dX9_keep_48 : decode cX9_keep 48 = .ok (.getfield 295, 3) := by decide +kernel
theorem dX9_keep_51 : decode cX9_keep 51 = .ok (.putfield 302, 3) := by decide +kernel
theorem dX9_keep_54 : decode cX9_keep 54 = .ok (.aload_n 0, 1) := by decide +kernel
theorem dX9_keep_55 : decode cX9_keep 55 = .ok (.getfield 36, 3) := by decide +kernel
theorem dX9_keep_58 : decode cX9_keep 58 = .ok (.invokevirtual 95, 3) := by decide +kernel
theorem dX9_keep_61 : decode cX9_keep 61 = .ok (.iconst 1, 1) := by decide +kernel
theorem dX9_keep_62 : decode cX9_keep 62 = .ok (.ireturn, 1) := by decide +kernel
theorem dX9_goBack_0 : decode cX9_goBack 0 = .ok (.iload_n 1, 1) := by decide +kernel
theorem dX9_goBack_1 : decode cX9_goBack 1 = .ok (.ifCond .lt 8, 3) := by decide +kernel
theorem dX9_goBack_4 : decode cX9_goBack 4 = .ok (.iload_n 1, 1) := by decide +kernel
theorem dX9_goBack_5 : decode cX9_goBack 5 = .ok (.iconst 2, 1) := by decide +kernel
theorem dX9_goBack_6 : decode cX9_goBack 6 = .ok (.if_icmp .lt 6, 3) := by decide +kernel
theorem dX9_goBack_9 : decode cX9_goBack 9 = .ok (.ldc 172, 2) := by decide +kernel
theorem dX9_goBack_11 : decode cX9_goBack 11 = .ok (.ireturn, 1) := by decide +kernel
theorem dX9_goBack_12 : decode cX9_goBack 12 = .ok (.aload_n 0, 1) := by decide +kernel
theorem dX9_goBack_13 : decode cX9_goBack 13 = .ok (.getfield 42, 3) := by decide +kernel
theorem dX9_goBack_16 : decode cX9_goBack 16 = .ok (.iload_n 1, 1) := by decide +kernel
theorem dX9_goBack_17 : decode cX9_goBack 17 = .ok (.aaload, 1) := by decide +kernel
theorem dX9_goBack_18 : decode cX9_goBack 18 = .ok (.getfield 98, 3) := by decide +kernel
theorem dX9_goBack_21 : decode cX9_goBack 21 = .ok (.ifCond .ne 6, 3) := by decide +kernel
theorem dX9_goBack_24 : decode cX9_goBack 24 = .ok (.ldc 211, 2) := by decide +kernel
theorem dX9_goBack_26 : decode cX9_goBack 26 = .ok (.ireturn, 1) := by decide +kernel
theorem dX9_goBack_27 : decode cX9_goBack 27 = .ok (.aload_n 0, 1) := by decide +kernel
theorem dX9_goBack_28 : decode cX9_goBack 28 = .ok (.getfield 29, 3) := by decide +kernel
theorem dX9_goBack_31 : decode cX9_goBack 31 = .ok (.aload_n 0, 1) := by decide +kernel
theorem dX9_goBack_32 : decode cX9_goBack 32 = .ok (.getfield 42, 3) := by decide +kernel
theorem dX9_goBack_35 : decode cX9_goBack 35 = .ok (.iload_n 1, 1) := by decide +kernel
theorem dX9_goBack_36 : decode cX9_goBack 36 = .ok (.aaload, 1) := by decide +kernel
theorem dX9_goBack_37 : decode cX9_goBack 37 = .ok (.getfield 298, 3) := by decide +kernel
theorem dX9_goBack_40 : decode cX9_goBack 40 = .ok (.invokevirtual 299, 3) := by decide +kernel
theorem dX9_goBack_43 : decode cX9_goBack 43 = .ok (.aload_n 0, 1) := by decide +kernel
theorem dX9_goBack_44 : decode cX9_goBack 44 = .ok (.getfield 71, 3) := by decide +kernel
theorem dX9_goBack_47 : decode cX9_goBack 47 = .ok (.aload_n 0, 1) := by decide +kernel
theorem dX9_goBack_48 : decode cX9_goBack 48 = .ok (.getfield 42, 3) := by decide +kernel
theorem dX9_goBack_51 : decode cX9_goBack 51 = .ok (.iload_n 1, 1) := by decide +kernel
theorem dX9_goBack_52 : decode cX9_goBack 52 = .ok (.aaload, 1) := by decide +kernel
theorem dX9_goBack_53 : decode cX9_goBack 53 = .ok (.getfield 302, 3) := by decide +kernel
theorem dX9_goBack_56 : decode cX9_goBack 56 = .ok (.putfield 295, 3) := by decide +kernel
theorem dX9_goBack_59 : decode cX9_goBack 59 = .ok (.aload_n 0, 1) := by decide +kernel
theorem dX9_goBack_60 : decode cX9_goBack 60 = .ok (.getfield 36, 3) := by decide +kernel
theorem dX9_goBack_63 : decode cX9_goBack 63 = .ok (.invokevirtual 95, 3) := by decide +kernel
theorem dX9_goBack_66 : decode cX9_goBack 66 = .ok (.iconst 1, 1) := by decide +kernel
theorem dX9_goBack_67 : decode cX9_goBack 67 = .ok (.ireturn, 1) := by decide +kernel
theorem dX9_refusalOfYears_0 : decode cX9_refusalOfYears 0 = .ok (.iload_n 1, 1) := by decide +kernel
theorem dX9_refusalOfYears_1 : decode cX9_refusalOfYears 1 = .ok (.iconst 1, 1) := by decide +kernel
theorem dX9_refusalOfYears_2 : decode cX9_refusalOfYears 2 = .ok (.if_icmp .lt 9, 3) := by decide +kernel
theorem dX9_refusalOfYears_5 : decode cX9_refusalOfYears 5 = .ok (.iload_n 1, 1) := by decide +kernel
theorem dX9_refusalOfYears_6 : decode cX9_refusalOfYears 6 = .ok (.bipush 30, 2) := by decide +kernel
theorem dX9_refusalOfYears_8 : decode cX9_refusalOfYears 8 = .ok (.if_icmp .le 6, 3) := by decide +kernel
theorem dX9_refusalOfYears_11 : decode cX9_refusalOfYears 11 = .ok (.ldc 75, 2) := by decide +kernel
theorem dX9_refusalOfYears_13 : decode cX9_refusalOfYears 13 = .ok (.ireturn, 1) := by decide +kernel
theorem dX9_refusalOfYears_14 : decode cX9_refusalOfYears 14 = .ok (.aload_n 0, 1) := by decide +kernel
theorem dX9_refusalOfYears_15 : decode cX9_refusalOfYears 15 = .ok (.getfield 19, 3) := by decide +kernel
theorem dX9_refusalOfYears_18 : decode cX9_refusalOfYears 18 = .ok (.getfield 108, 3) := by decide +kernel
theorem dX9_refusalOfYears_21 : decode cX9_refusalOfYears 21 = .ok (.ifCond .ne 6, 3) := by decide +kernel
theorem dX9_refusalOfYears_24 : decode cX9_refusalOfYears 24 = .ok (.ldc 211, 2) := by decide +kernel
theorem dX9_refusalOfYears_26 : decode cX9_refusalOfYears 26 = .ok (.ireturn, 1) := by decide +kernel
theorem dX9_refusalOfYears_27 : decode cX9_refusalOfYears 27 = .ok (.aload_n 0, 1) := by decide +kernel
theorem dX9_refusalOfYears_28 : decode cX9_refusalOfYears 28 = .ok (.getfield 29, 3) := by decide +kernel
theorem dX9_refusalOfYears_31 : decode cX9_refusalOfYears 31 = .ok (.getfield 120, 3) := by decide +kernel
theorem dX9_refusalOfYears_34 : decode cX9_refusalOfYears 34 = .ok (.sipush 9000, 3) := by decide +kernel
theorem dX9_refusalOfYears_37 : decode cX9_refusalOfYears 37 = .ok (.if_icmp .le 9, 3) := by decide +kernel
theorem dX9_refusalOfYears_40 : decode cX9_refusalOfYears 40 = .ok (.ldc_w 305, 3) := by decide +kernel
theorem dX9_refusalOfYears_43 : decode cX9_refusalOfYears 43 = .ok (.goto 4, 3) := by decide +kernel
theorem dX9_refusalOfYears_46 : decode cX9_refusalOfYears 46 = .ok (.iconst 0, 1) := by decide +kernel
theorem dX9_refusalOfYears_47 : decode cX9_refusalOfYears 47 = .ok (.ireturn, 1) := by decide +kernel
theorem dX9_doByDraw_0 : decode cX9_doByDraw 0 = .ok (.aload_n 0, 1) := by decide +kernel
theorem dX9_doByDraw_1 : decode cX9_doByDraw 1 = .ok (.getfield 71, 3) := by decide +kernel
theorem dX9_doByDraw_4 : decode cX9_doByDraw 4 = .ok (.bipush 6, 2) := by decide +kernel
theorem dX9_doByDraw_6 : decode cX9_doByDraw 6 = .ok (.invokevirtual 306, 3) := by decide +kernel
theorem dX9_doByDraw_9 : decode cX9_doByDraw 9 = .ok (.tableswitch 133 0 3 #[31, 31, 88, 108], 31) := by decide +kernel
theorem dX9_doByDraw_40 : decode cX9_doByDraw 40 = .ok (.aload_n 0, 1) := by decide +kernel
theorem dX9_doByDraw_41 : decode cX9_doByDraw 41 = .ok (.getfield 71, 3) := by decide +kernel
theorem dX9_doByDraw_44 : decode cX9_doByDraw 44 = .ok (.aload_n 0, 1) := by decide +kernel
theorem dX9_doByDraw_45 : decode cX9_doByDraw 45 = .ok (.getfield 19, 3) := by decide +kernel
theorem dX9_doByDraw_48 : decode cX9_doByDraw 48 = .ok (.getfield 111, 3) := by decide +kernel
theorem dX9_doByDraw_51 : decode cX9_doByDraw 51 = .ok (.invokevirtual 306, 3) := by decide +kernel
theorem dX9_doByDraw_54 : decode cX9_doByDraw 54 = .ok (.istore_n 1, 1) := by decide +kernel
theorem dX9_doByDraw_55 : decode cX9_doByDraw 55 = .ok (.aload_n 0, 1) := by decide +kernel
theorem dX9_doByDraw_56 : decode cX9_doByDraw 56 = .ok (.getfield 29, 3) := by decide +kernel
theorem dX9_doByDraw_59 : decode cX9_doByDraw 59 = .ok (.invokevirtual 207, 3) := by decide +kernel
theorem dX9_doByDraw_62 : decode cX9_doByDraw 62 = .ok (.ifCond .eq 80, 3) := by decide +kernel
theorem dX9_doByDraw_65 : decode cX9_doByDraw 65 = .ok (.aload_n 0, 1) := by decide +kernel
theorem dX9_doByDraw_66 : decode cX9_doByDraw 66 = .ok (.getfield 19, 3) := by decide +kernel
theorem dX9_doByDraw_69 : decode cX9_doByDraw 69 = .ok (.iload_n 1, 1) := by decide +kernel
theorem dX9_doByDraw_70 : decode cX9_doByDraw 70 = .ok (.invokevirtual 185, 3) := by decide +kernel
theorem dX9_doByDraw_73 : decode cX9_doByDraw 73 = .ok (.ifCond .eq 69, 3) := by decide +kernel
theorem dX9_doByDraw_76 : decode cX9_doByDraw 76 = .ok (.aload_n 0, 1) := by decide +kernel
theorem dX9_doByDraw_77 : decode cX9_doByDraw 77 = .ok (.getfield 29, 3) := by decide +kernel
theorem dX9_doByDraw_80 : decode cX9_doByDraw 80 = .ok (.iload_n 1, 1) := by decide +kernel
theorem dX9_doByDraw_81 : decode cX9_doByDraw 81 = .ok (.aload_n 0, 1) := by decide +kernel
theorem dX9_doByDraw_82 : decode cX9_doByDraw 82 = .ok (.getfield 19, 3) := by decide +kernel
theorem dX9_doByDraw_85 : decode cX9_doByDraw 85 = .ok (.getfield 188, 3) := by decide +kernel
theorem dX9_doByDraw_88 : decode cX9_doByDraw 88 = .ok (.iload_n 1, 1) := by decide +kernel
theorem dX9_doByDraw_89 : decode cX9_doByDraw 89 = .ok (.iaload, 1) := by decide +kernel
theorem dX9_doByDraw_90 : decode cX9_doByDraw 90 = .ok (.invokevirtual 216, 3) := by decide +kernel
theorem dX9_doByDraw_93 : decode cX9_doByDraw 93 = .ok (.pop, 1) := by decide +kernel
theorem dX9_doByDraw_94 : decode cX9_doByDraw 94 = .ok (.goto 48, 3) := by decide +kernel
theorem dX9_doByDraw_97 : decode cX9_doByDraw 97 = .ok (.aload_n 0, 1) := by decide +kernel
theorem dX9_doByDraw_98 : decode cX9_doByDraw 98 = .ok (.getfield 29, 3) := by decide +kernel
theorem dX9_doByDraw_101 : decode cX9_doByDraw 101 = .ok (.getfield 102, 3) := by decide +kernel
theorem dX9_doByDraw_104 : decode cX9_doByDraw 104 = .ok (.ifCond .le 38, 3) := by decide +kernel
theorem dX9_doByDraw_107 : decode cX9_doByDraw 107 = .ok (.aload_n 0, 1) := by decide +kernel
theorem dX9_doByDraw_108 : decode cX9_doByDraw 108 = .ok (.getfield 29, 3) := by decide +kernel
theorem dX9_doByDraw_111 : decode cX9_doByDraw 111 = .ok (.invokevirtual 219, 3) := by decide +kernel
theorem dX9_doByDraw_114 : decode cX9_doByDraw 114 = .ok (.goto 28, 3) := by decide +kernel
theorem dX9_doByDraw_117 : decode cX9_doByDraw 117 = .ok (.aload_n 0, 1) := by decide +kernel
theorem dX9_doByDraw_118 : decode cX9_doByDraw 118 = .ok (.getfield 29, 3) := by decide +kernel
theorem dX9_doByDraw_121 : decode cX9_doByDraw 121 = .ok (.aload_n 0, 1) := by decide +kernel
theorem dX9_doByDraw_122 : decode cX9_doByDraw 122 = .ok (.getfield 29, 3) := by decide +kernel
theorem dX9_doByDraw_125 : decode cX9_doByDraw 125 = .ok (.getfield 123, 3) := by decide +kernel
theorem dX9_doByDraw_128 : decode cX9_doByDraw 128 = .ok (.ifCond .ne 7, 3) := by decide +kernel
theorem dX9_doByDraw_131 : decode cX9_doByDraw 131 = .ok (.iconst 1, 1) := by decide +kernel
theorem dX9_doByDraw_132 : decode cX9_doByDraw 132 = .ok (.goto 4, 3) := by decide +kernel
theorem dX9_doByDraw_135 : decode cX9_doByDraw 135 = .ok (.iconst 0, 1) := by decide +kernel
theorem dX9_doByDraw_136 : decode cX9_doByDraw 136 = .ok (.putfield 123, 3) := by decide +kernel
theorem dX9_doByDraw_139 : decode cX9_doByDraw 139 = .ok (.goto 3, 3) := by decide +kernel
theorem dX9_doByDraw_142 : decode cX9_doByDraw 142 = .ok (.return_, 1) := by decide +kernel
theorem dX9_spread_0 : decode cX9_spread 0 = .ok (.iload_n 1, 1) := by decide +kernel
theorem dX9_spread_1 : decode cX9_spread 1 = .ok (.iconst 1, 1) := by decide +kernel
theorem dX9_spread_2 : decode cX9_spread 2 = .ok (.if_icmp .lt 9, 3) := by decide +kernel
theorem dX9_spread_5 : decode cX9_spread 5 = .ok (.iload_n 1, 1) := by decide +kernel
theorem dX9_spread_6 : decode cX9_spread 6 = .ok (.aload_n 0, 1) := by decide +kernel
theorem dX9_spread_7 : decode cX9_spread 7 = .ok (.arraylength, 1) := by decide +kernel
theorem dX9_spread_8 : decode cX9_spread 8 = .ok (.if_icmp .le 5, 3) := by decide +kernel
theorem dX9_spread_11 : decode cX9_spread 11 = .ok (.iconst 0, 1) := by decide +kernel
theorem dX9_spread_12 : decode cX9_spread 12 = .ok (.ireturn, 1) := by decide +kernel
theorem dX9_spread_13 : decode cX9_spread 13 = .ok (.aload_n 0, 1) := by decide +kernel
theorem dX9_spread_14 : decode cX9_spread 14 = .ok (.iconst 0, 1) := by decide +kernel
theorem dX9_spread_15 : decode cX9_spread 15 = .ok (.iaload, 1) := by decide +kernel
theorem dX9_spread_16 : decode cX9_spread 16 = .ok (.istore_n 2, 1) := by decide +kernel
theorem dX9_spread_17 : decode cX9_spread 17 = .ok (.aload_n 0, 1) := by decide +kernel
theorem dX9_spread_18 : decode cX9_spread 18 = .ok (.iconst 0, 1) := by decide +kernel
theorem dX9_spread_19 : decode cX9_spread 19 = .ok (.iaload, 1) := by decide +kernel
theorem dX9_spread_20 : decode cX9_spread 20 = .ok (.istore_n 3, 1) := by decide +kernel
theorem dX9_spread_21 : decode cX9_spread 21 = .ok (.iconst 1, 1) := by decide +kernel
theorem dX9_spread_22 : decode cX9_spread 22 = .ok (.istore 4, 2) := by decide +kernel
theorem dX9_spread_24 : decode cX9_spread 24 = .ok (.iload 4, 2) := by decide +kernel
theorem dX9_spread_26 : decode cX9_spread 26 = .ok (.iload_n 1, 1) := by decide +kernel
theorem dX9_spread_27 : decode cX9_spread 27 = .ok (.if_icmp .ge 27, 3) := by decide +kernel
theorem dX9_spread_30 : decode cX9_spread 30 = .ok (.iload_n 2, 1) := by decide +kernel
theorem dX9_spread_31 : decode cX9_spread 31 = .ok (.aload_n 0, 1) := by decide +kernel
theorem dX9_spread_32 : decode cX9_spread 32 = .ok (.iload 4, 2) := by decide +kernel
theorem dX9_spread_34 : decode cX9_spread 34 = .ok (.iaload, 1) := by decide +kernel
theorem dX9_spread_35 : decode cX9_spread 35 = .ok (.invokestatic 309, 3) := by decide +kernel
theorem dX9_spread_38 : decode cX9_spread 38 = .ok (.istore_n 2, 1) := by decide +kernel
theorem dX9_spread_39 : decode cX9_spread 39 = .ok (.iload_n 3, 1) := by decide +kernel
theorem dX9_spread_40 : decode cX9_spread 40 = .ok (.aload_n 0, 1) := by decide +kernel
theorem dX9_spread_41 : decode cX9_spread 41 = .ok (.iload 4, 2) := by decide +kernel
theorem dX9_spread_43 : decode cX9_spread 43 = .ok (.iaload, 1) := by decide +kernel
theorem dX9_spread_44 : decode cX9_spread 44 = .ok (.invokestatic 314, 3) := by decide +kernel
theorem dX9_spread_47 : decode cX9_spread 47 = .ok (.istore_n 3, 1) := by decide +kernel
theorem dX9_spread_48 : decode cX9_spread 48 = .ok (.iinc 4 1, 3) := by decide +kernel
theorem dX9_spread_51 : decode cX9_spread 51 = .ok (.goto (-27), 3) := by decide +kernel
theorem dX9_spread_54 : decode cX9_spread 54 = .ok (.iload_n 3, 1) := by decide +kernel
theorem dX9_spread_55 : decode cX9_spread 55 = .ok (.iload_n 2, 1) := by decide +kernel
theorem dX9_spread_56 : decode cX9_spread 56 = .ok (.isub, 1) := by decide +kernel
theorem dX9_spread_57 : decode cX9_spread 57 = .ok (.ireturn, 1) := by decide +kernel
theorem dX9_pairBit_0 : decode cX9_pairBit 0 = .ok (.iconst 1, 1) := by decide +kernel
theorem dX9_pairBit_1 : decode cX9_pairBit 1 = .ok (.iconst 5, 1) := by decide +kernel
theorem dX9_pairBit_2 : decode cX9_pairBit 2 = .ok (.iload_n 0, 1) := by decide +kernel
theorem dX9_pairBit_3 : decode cX9_pairBit 3 = .ok (.imul, 1) := by decide +kernel
theorem dX9_pairBit_4 : decode cX9_pairBit 4 = .ok (.iload_n 1, 1) := by decide +kernel
theorem dX9_pairBit_5 : decode cX9_pairBit 5 = .ok (.iadd, 1) := by decide +kernel
theorem dX9_pairBit_6 : decode cX9_pairBit 6 = .ok (.ishl, 1) := by decide +kernel
theorem dX9_pairBit_7 : decode cX9_pairBit 7 = .ok (.ireturn, 1) := by decide +kernel
end
section
theorem dX10_init_0 : decode cX10_init 0 = .ok (.aload_n 0, 1) := by decide +kernel
theorem dX10_init_1 : decode cX10_init 1 = .ok (.invokespecial 1, 3) := by decide +kernel
theorem dX10_init_4 : decode cX10_init 4 = .ok (.aload_n 0, 1) := by decide +kernel
theorem dX10_init_5 : decode cX10_init 5 = .ok (.iconst 5, 1) := by decide +kernel
theorem dX10_init_6 : decode cX10_init 6 = .ok (.newarray .int, 2) := by decide +kernel
theorem dX10_init_8 : decode cX10_init 8 = .ok (.putfield 7, 3) := by decide +kernel
theorem dX10_init_11 : decode cX10_init 11 = .ok (.aload_n 0, 1) := by decide +kernel
theorem dX10_init_12 : decode cX10_init 12 = .ok (.iconst 5, 1) := by decide +kernel
theorem dX10_init_13 : decode cX10_init 13 = .ok (.newarray .int, 2) := by decide +kernel
theorem dX10_init_15 : decode cX10_init 15 = .ok (.putfield 13, 3) := by decide +kernel
theorem dX10_init_18 : decode cX10_init 18 = .ok (.aload_n 0, 1) := by decide +kernel
theorem dX10_init_19 : decode cX10_init 19 = .ok (.bipush 6, 2) := by decide +kernel
theorem dX10_init_21 : decode cX10_init 21 = .ok (.newarray .int, 2) := by decide +kernel
theorem dX10_init_23 : decode cX10_init 23 = .ok (.putfield 16, 3) := by decide +kernel
theorem dX10_init_26 : decode cX10_init 26 = .ok (.aload_n 0, 1) := by decide +kernel
theorem dX10_init_27 : decode cX10_init 27 = .ok (.bipush 48, 2) := by decide +kernel
theorem dX10_init_29 : decode cX10_init 29 = .ok (.newarray .int, 2) := by decide +kernel
theorem dX10_init_31 : decode cX10_init 31 = .ok (.putfield 19, 3) := by decide +kernel
theorem dX10_init_34 : decode cX10_init 34 = .ok (.aload_n 0, 1) := by decide +kernel
theorem dX10_init_35 : decode cX10_init 35 = .ok (.bipush 125, 2) := by decide +kernel
theorem dX10_init_37 : decode cX10_init 37 = .ok (.newarray .int, 2) := by decide +kernel
theorem dX10_init_39 : decode cX10_init 39 = .ok (.putfield 22, 3) := by decide +kernel
theorem dX10_init_42 : decode cX10_init 42 = .ok (.aload_n 0, 1) := by decide +kernel
theorem dX10_init_43 : decode cX10_init 43 = .ok (.bipush 20, 2) := by decide +kernel
theorem dX10_init_45 : decode cX10_init 45 = .ok (.newarray .int, 2) := by decide +kernel
theorem dX10_init_47 : decode cX10_init 47 = .ok (.putfield 25, 3) := by decide +kernel
theorem dX10_init_50 : decode cX10_init 50 = .ok (.aload_n 0, 1) := by decide +kernel
theorem dX10_init_51 : decode cX10_init 51 = .ok (.bipush 20, 2) := by decide +kernel
theorem dX10_init_53 : decode cX10_init 53 = .ok (.newarray .int, 2) := by decide +kernel
theorem dX10_init_55 : decode cX10_init 55 = .ok (.putfield 28, 3) := by decide +kernel
theorem dX10_init_58 : decode cX10_init 58 = .ok (.aload_n 0, 1) := by decide +kernel
theorem dX10_init_59 : decode cX10_init 59 = .ok (.bipush 6, 2) := by decide +kernel
theorem dX10_init_61 : decode cX10_init 61 = .ok (.newarray .int, 2) := by decide +kernel
theorem dX10_init_63 : decode cX10_init 63 = .ok (.putfield 31, 3) := by decide +kernel
theorem dX10_init_66 : decode cX10_init 66 = .ok (.aload_n 0, 1) := by decide +kernel
theorem dX10_init_67 : decode cX10_init 67 = .ok (.bipush 6, 2) := by decide +kernel
theorem dX10_init_69 : decode cX10_init 69 = .ok (.newarray .int, 2) := by decide +kernel
theorem dX10_init_71 : decode cX10_init 71 = .ok (.putfield 34, 3) := by decide +kernel
theorem dX10_init_74 : decode cX10_init 74 = .ok (.aload_n 0, 1) := by decide +kernel
theorem dX10_init_75 : decode cX10_init 75 = .ok (.bipush 6, 2) := by decide +kernel
theorem dX10_init_77 : decode cX10_init 77 = .ok (.newarray .int, 2) := by decide +kernel
theorem dX10_init_79 : decode cX10_init 79 = .ok (.putfield 37, 3) := by decide +kernel
theorem dX10_init_82 : decode cX10_init 82 = .ok (.aload_n 0, 1) := by decide +kernel
theorem dX10_init_83 : decode cX10_init 83 = .ok (.sipush 240, 3) := by decide +kernel
theorem dX10_init_86 : decode cX10_init 86 = .ok (.newarray .int, 2) := by decide +kernel
theorem dX10_init_88 : decode cX10_init 88 = .ok (.putfield 40, 3) := by decide +kernel
theorem dX10_init_91 : decode cX10_init 91 = .ok (.aload_n 0, 1) := by decide +kernel
theorem dX10_init_92 : decode cX10_init 92 = .ok (.iconst (-1), 1) := by decide +kernel
theorem dX10_init_93 : decode cX10_init 93 = .ok (.putfield 43, 3) := by decide +kernel
theorem dX10_init_96 : decode cX10_init 96 = .ok (.aload_n 0, 1) := by decide +kernel
theorem dX10_init_97 : decode cX10_init 97 = .ok (.bipush 12, 2) := by decide +kernel
theorem dX10_init_99 : decode cX10_init 99 = .ok (.newarray .int, 2) := by decide +kernel
theorem dX10_init_101 : decode cX10_init 101 = .ok (.putfield 47, 3) := by decide +kernel
theorem dX10_init_104 : decode cX10_init 104 = .ok (.aload_n 0, 1) := by decide +kernel
theorem dX10_init_105 : decode cX10_init 105 = .ok (.bipush 12, 2) := by decide +kernel
theorem dX10_init_107 : decode cX10_init 107 = .ok (.newarray .int, 2) := by decide +kernel
theorem dX10_init_109 : decode cX10_init 109 = .ok (.putfield 50, 3) := by decide +kernel
theorem dX10_init_112 : decode cX10_init 112 = .ok (.aload_n 0, 1) := by decide +kernel
theorem dX10_init_113 : decode cX10_init 113 = .ok (.iconst 5, 1) := by decide +kernel
theorem dX10_init_114 : decode cX10_init 114 = .ok (.newarray .int, 2) := by decide +kernel
theorem dX10_init_116 : decode cX10_init 116 = .ok (.putfield 53, 3) := by decide +kernel
theorem dX10_init_119 : decode cX10_init 119 = .ok (.aload_n 0, 1) := by decide +kernel
theorem dX10_init_120 : decode cX10_init 120 = .ok (.iconst 5, 1) := by decide +kernel
theorem dX10_init_121 : decode cX10_init 121 = .ok (.newarray .int, 2) := by decide +kernel
theorem dX10_init_123 : decode cX10_init 123 = .ok (.putfield 56, 3) := by decide +kernel
theorem dX10_init_126 : decode cX10_init 126 = .ok (.aload_n 0, 1) := by decide +kernel
theorem dX10_init_127 : decode cX10_init 127 = .ok (.bipush 6, 2) := by decide +kernel
theorem dX10_init_129 : decode cX10_init 129 = .ok (.newarray .int, 2) := by decide +kernel
theorem dX10_init_131 : decode cX10_init 131 = .ok (.putfield 59, 3) := by decide +kernel
theorem dX10_init_134 : decode cX10_init 134 = .ok (.aload_n 0, 1) := by decide +kernel
theorem dX10_init_135 : decode cX10_init 135 = .ok (.bipush 48, 2) := by decide +kernel
theorem dX10_init_137 : decode cX10_init 137 = .ok (.newarray .int, 2) := by decide +kernel
theorem dX10_init_139 : decode cX10_init 139 = .ok (.putfield 62, 3) := by decide +kernel
theorem dX10_init_142 : decode cX10_init 142 = .ok (.aload_n 0, 1) := by decide +kernel
theorem dX10_init_143 : decode cX10_init 143 = .ok (.sipush 3750, 3) := by decide +kernel
theorem dX10_init_146 : decode cX10_init 146 = .ok (.newarray .int, 2) := by decide +kernel
theorem dX10_init_148 : decode cX10_init 148 = .ok (.putfield 65, 3) := by decide +kernel
theorem dX10_init_151 : decode cX10_init 151 = .ok (.aload_n 0, 1) := by decide +kernel
theorem dX10_init_152 : decode cX10_init 152 = .ok (.bipush 78, 2) := by decide +kernel
theorem dX10_init_154 : decode cX10_init 154 = .ok (.newarray .int, 2) := by decide +kernel
theorem dX10_init_156 : decode cX10_init 156 = .ok (.putfield 68, 3) := by decide +kernel
theorem dX10_init_159 : decode cX10_init 159 = .ok (.aload_n 0, 1) := by decide +kernel
theorem dX10_init_160 : decode cX10_init 160 = .ok (.bipush 14, 2) := by decide +kernel
theorem dX10_init_162 : decode cX10_init 162 = .ok (.newarray .int, 2) := by decide +kernel
theorem dX10_init_164 : decode cX10_init 164 = .ok (.putfield 71, 3) := by decide +kernel
theorem dX10_init_167 : decode cX10_init 167 = .ok (.aload_n 0, 1) := by decide +kernel
theorem dX10_init_168 : decode cX10_init 168 = .ok (.iconst 5, 1) := by decide +kernel
theorem dX10_init_169 : decode cX10_init 169 = .ok (.newarray .int, 2) := by decide +kernel
theorem dX10_init_171 : decode cX10_init 171 = .ok (.putfield 74, 3) := by decide +kernel
theorem dX10_init_174 : decode cX10_init 174 = .ok (.aload_n 0, 1) := by decide +kernel
theorem dX10_init_175 : decode cX10_init 175 = .ok (.sipush 252, 3) := by decide +kernel
theorem dX10_init_178 : decode cX10_init 178 = .ok (.newarray .int, 2) := by decide +kernel
theorem dX10_init_180 : decode cX10_init 180 = .ok (.putfield 77, 3) := by decide +kernel
theorem dX10_init_183 : decode cX10_init 183 = .ok (.aload_n 0, 1) := by decide +kernel
theorem dX10_init_184 : decode cX10_init 184 = .ok (.iconst 2, 1) := by decide +kernel
theorem dX10_init_185 : decode cX10_init 185 = .ok (.newarray .boolean, 2) := by decide +kernel
theorem dX10_init_187 : decode cX10_init 187 = .ok (.putfield 80, 3) := by decide +kernel
theorem dX10_init_190 : decode cX10_init 190 = .ok (.aload_n 0, 1) := by decide +kernel
theorem dX10_init_191 : decode cX10_init 191 = .ok (.invokevirtual 84, 3) := by decide +kernel
theorem dX10_init_194 : decode cX10_init 194 = .ok (.return_, 1) := by decide +kernel
theorem dX10_in_0 : decode cX10_in 0 = .ok (.lload_n 0, 1) := by decide +kernel
theorem dX10_in_1 : decode cX10_in 1 = .ok (.lload_n 2, 1) := by decide +kernel
theorem dX10_in_2 : decode cX10_in 2 = .ok (.lcmp, 1) := by decide +kernel
theorem dX10_in_3 : decode cX10_in 3 = .ok (.ifCond .lt 14, 3) := by decide +kernel
theorem dX10_in_6 : decode cX10_in 6 = .ok (.lload_n 0, 1) := by decide +kernel
theorem dX10_in_7 : decode cX10_in 7 = .ok (.lload 4, 2) := by decide +kernel
theorem dX10_in_9 : decode cX10_in 9 = .ok (.lcmp, 1) := by decide +kernel
theorem dX10_in_10 : decode cX10_in 10 = .ok (.ifCond .gt 7, 3) := by decide +kernel
theorem dX10_in_13 : decode cX10_in 13 = .ok (.iconst 1, 1) := by decide +kernel
theorem dX10_in_14 : decode cX10_in 14 = .ok (.goto 4, 3) := by decide +kernel
theorem dX10_in_17 : decode cX10_in 17 = .ok (.iconst 0, 1) := by decide +kernel
theorem dX10_in_18 : decode cX10_in 18 = .ok (.ireturn, 1) := by decide +kernel
theorem dX10_has_0 : decode cX10_has 0 = .ok (.iload_n 0, 1) := by decide +kernel
theorem dX10_has_1 : decode cX10_has 1 = .ok (.iload_n 1, 1) := by decide +kernel
theorem dX10_has_2 : decode cX10_has 2 = .ok (.ishr, 1) := by decide +kernel
theorem dX10_has_3 : decode cX10_has 3 = .ok (.iconst 1, 1) := by decide +kernel
theorem dX10_has_4 : decode cX10_has 4 = .ok (.iand, 1) := by decide +kernel
theorem dX10_has_5 : decode cX10_has 5 = .ok (.iconst 1, 1) := by decide +kernel
theorem dX10_has_6 : decode cX10_has 6 = .ok (.if_icmp .ne 7, 3) := by decide +kernel
theorem dX10_has_9 : decode cX10_has 9 = .ok (.iconst 1, 1) := by decide +kernel
theorem dX10_has_10 : decode cX10_has 10 = .ok (.goto 4, 3) := by decide +kernel
theorem dX10_has_13 : decode cX10_has 13 = .ok (.iconst 0, 1) := by decide +kernel
theorem dX10_has_14 : decode cX10_has 14 = .ok (.ireturn, 1) := by decide +kernel
theorem dX10_isLayer_0 : decode cX10_isLayer 0 = .ok (.iload_n 1, 1) := by decide +kernel
theorem dX10_isLayer_1 : decode cX10_isLayer 1 = .ok (.i2l, 1) := by decide +kernel
theorem dX10_isLayer_2 : decode cX10_isLayer 2 = .ok (.lconst 0, 1) := by decide +kernel
theorem dX10_isLayer_3 : decode cX10_isLayer 3 = .ok (.aload_n 0, 1) := by decide +kernel
theorem dX10_isLayer_4 : decode cX10_isLayer 4 = .ok (.getfield 22, 3) := by decide +kernel
theorem dX10_isLayer_7 : decode cX10_isLayer 7 = .ok (.iconst 0, 1) := by decide +kernel
theorem dX10_isLayer_8 : decode cX10_isLayer 8 = .ok (.iaload, 1) := by decide +kernel
theorem dX10_isLayer_9 : decode cX10_isLayer 9 = .ok (.iconst 1, 1) := by decide +kernel
theorem dX10_isLayer_10 : decode cX10_isLayer 10 = .ok (.isub, 1) := by decide +kernel
theorem dX10_isLayer_11 : decode cX10_isLayer 11 = .ok (.i2l, 1) := by decide +kernel
theorem dX10_isLayer_12 : decode cX10_isLayer 12 = .ok (.invokestatic 87, 3) := by decide +kernel
theorem dX10_isLayer_15 : decode cX10_isLayer 15 = .ok (.ireturn, 1) := by decide +kernel
theorem dX10_isExecutor_0 : decode cX10_isExecutor 0 = .ok (.iload_n 1, 1) := by decide +kernel
theorem dX10_isExecutor_1 : decode cX10_isExecutor 1 = .ok (.i2l, 1) := by decide +kernel
theorem dX10_isExecutor_2 : decode cX10_isExecutor 2 = .ok (.lconst 0, 1) := by decide +kernel
theorem dX10_isExecutor_3 : decode cX10_isExecutor 3 = .ok (.aload_n 0, 1) := by decide +kernel
theorem dX10_isExecutor_4 : decode cX10_isExecutor 4 = .ok (.getfield 91, 3) := by decide +kernel
theorem dX10_isExecutor_7 : decode cX10_isExecutor 7 = .ok (.iconst 1, 1) := by decide +kernel
theorem dX10_isExecutor_8 : decode cX10_isExecutor 8 = .ok (.isub, 1) := by decide +kernel
theorem dX10_isExecutor_9 : decode cX10_isExecutor 9 = .ok (.i2l, 1) := by decide +kernel
theorem dX10_isExecutor_10 : decode cX10_isExecutor 10 = .ok (.invokestatic 87, 3) := by decide +kernel
theorem dX10_isExecutor_13 : decode cX10_isExecutor 13 = .ok (.ireturn, 1) := by decide +kernel
theorem dX10_empties_0 : decode cX10_empties 0 = .ok (.iconst 0, 1) := by decide +kernel
theorem dX10_empties_1 : decode cX10_empties 1 = .ok (.istore_n 1, 1) := by decide +kernel
theorem dX10_empties_2 : decode cX10_empties 2 = .ok (.iload_n 1, 1) := by decide +kernel
theorem dX10_empties_3 : decode cX10_empties 3 = .ok (.bipush 125, 2) := by decide +kernel
theorem dX10_empties_5 : decode cX10_empties 5 = .ok (.if_icmp .ge 16, 3) := by decide +kernel
theorem dX10_empties_8 : decode cX10_empties 8 = .ok (.aload_n 0, 1) := by decide +kernel
theorem dX10_empties_9 : decode cX10_empties 9 = .ok (.getfield 22, 3) := by decide +kernel
theorem dX10_empties_12 : decode cX10_empties 12 = .ok (.iload_n 1, 1) := by decide +kernel
theorem dX10_empties_13 : decode cX10_empties 13 = .ok (.iconst 0, 1) := by decide +kernel
theorem dX10_empties_14 : decode cX10_empties 14 = .ok (.iastore, 1) := by decide +kernel
theorem dX10_empties_15 : decode cX10_empties 15 = .ok (.iinc 1 1, 3) := by decide +kernel
theorem dX10_empties_18 : decode cX10_empties 18 = .ok (.goto (-16), 3) := by decide +kernel
theorem dX10_empties_21 : decode cX10_empties 21 = .ok (.aload_n 0, 1) := by decide +kernel
theorem dX10_empties_22 : decode cX10_empties 22 = .ok (.getfield 22, 3) := by decide +kernel
theorem dX10_empties_25 : decode cX10_empties 25 = .ok (.bipush 28, 2) := by decide +kernel
theorem dX10_empties_27 : decode cX10_empties 27 = .ok (.iconst (-1), 1) := by decide +kernel
theorem dX10_empties_28 : decode cX10_empties 28 = .ok (.iastore, 1) := by decide +kernel
theorem dX10_empties_29 : decode cX10_empties 29 = .ok (.return_, 1) := by decide +kernel
theorem dX10_feed_0 : decode cX10_feed 0 = .ok (.iload_n 1, 1) := by decide +kernel
theorem dX10_feed_1 : decode cX10_feed 1 = .ok (.i2l, 1) := by decide +kernel
theorem dX10_feed_2 : decode cX10_feed 2 = .ok (.lconst 0, 1) := by decide +kernel
theorem dX10_feed_3 : decode cX10_feed 3 = .ok (.ldc2_w 94, 3) := by decide +kernel
theorem dX10_feed_6 : decode cX10_feed 6 = .ok (.invokestatic 87, 3) := by decide +kernel
theorem dX10_feed_9 : decode cX10_feed 9 = .ok (.ifCond .ne 6, 3) := by decide +kernel
theorem dX10_feed_12 : decode cX10_feed 12 = .ok (.ldc 96, 2) := by decide +kernel
theorem dX10_feed_14 : decode cX10_feed 14 = .ok (.ireturn, 1) := by decide +kernel
theorem dX10_feed_15 : decode cX10_feed 15 = .ok (.aload_n 0, 1) := by decide +kernel
theorem dX10_feed_16 : decode cX10_feed 16 = .ok (.getfield 97, 3) := by decide +kernel
theorem dX10_feed_19 : decode cX10_feed 19 = .ok (.sipush 240, 3) := by decide +kernel
theorem dX10_feed_22 : decode cX10_feed 22 = .ok (.if_icmp .ne 6, 3) := by decide +kernel
theorem dX10_feed_25 : decode cX10_feed 25 = .ok (.ldc 100, 2) := by decide +kernel
theorem dX10_feed_27 : decode cX10_feed 27 = .ok (.ireturn, 1) := by decide +kernel
theorem dX10_feed_28 : decode cX10_feed 28 = .ok (.aload_n 0, 1) := by decide +kernel
theorem dX10_feed_29 : decode cX10_feed 29 = .ok (.getfield 40, 3) := by decide +kernel
theorem dX10_feed_32 : decode cX10_feed 32 = .ok (.aload_n 0, 1) := by decide +kernel
theorem dX10_feed_33 : decode cX10_feed 33 = .ok (.getfield 97, 3) := by decide +kernel
theorem dX10_feed_36 : decode cX10_feed 36 = .ok (.iload_n 1, 1) := by decide +kernel
theorem dX10_feed_37 : decode cX10_feed 37 = .ok (.iastore, 1) := by decide +kernel
theorem dX10_feed_38 : decode cX10_feed 38 = .ok (.aload_n 0, 1) := by decide +kernel
theorem dX10_feed_39 : decode cX10_feed 39 = .ok (.dup, 1) := by decide +kernel
theorem dX10_feed_40 : decode cX10_feed 40 = .ok (.getfield 97, 3) := by decide +kernel
theorem dX10_feed_43 : decode cX10_feed 43 = .ok (.iconst 1, 1) := by decide +kernel
theorem dX10_feed_44 : decode cX10_feed 44 = .ok (.iadd, 1) := by decide +kernel
theorem dX10_feed_45 : decode cX10_feed 45 = .ok (.putfield 97, 3) := by decide +kernel
theorem dX10_feed_48 : decode cX10_feed 48 = .ok (.aload_n 0, 1) := by decide +kernel
theorem dX10_feed_49 : decode cX10_feed 49 = .ok (.getfield 97, 3) := by decide +kernel
theorem dX10_feed_52 : decode cX10_feed 52 = .ok (.ireturn, 1) := by decide +kernel
theorem dX10_here_0 : decode cX10_here 0 = .ok (.aload_n 0, 1) := by decide +kernel
theorem dX10_here_1 : decode cX10_here 1 = .ok (.getfield 101, 3) := by decide +kernel
theorem dX10_here_4 : decode cX10_here 4 = .ok (.aload_n 0, 1) := by decide +kernel
theorem dX10_here_5 : decode cX10_here 5 = .ok (.getfield 97, 3) := by decide +kernel
theorem dX10_here_8 : decode cX10_here 8 = .ok (.if_icmp .ge 30, 3) := by decide +kernel
theorem dX10_here_11 : decode cX10_here 11 = .ok (.aload_n 0, 1) := by decide +kernel
theorem dX10_here_12 : decode cX10_here 12 = .ok (.getfield 40, 3) := by decide +kernel
theorem dX10_here_15 : decode cX10_here 15 = .ok (.aload_n 0, 1) := by decide +kernel
theorem dX10_here_16 : decode cX10_here 16 = .ok (.getfield 101, 3) := by decide +kernel
theorem dX10_here_19 : decode cX10_here 19 = .ok (.iaload, 1) := by decide +kernel
theorem dX10_here_20 : decode cX10_here 20 = .ok (.bipush 32, 2) := by decide +kernel
theorem dX10_here_22 : decode cX10_here 22 = .ok (.if_icmp .ne 16, 3) := by decide +kernel
theorem dX10_here_25 : decode cX10_here 25 = .ok (.aload_n 0, 1) := by decide +kernel
theorem dX10_here_26 : decode cX10_here 26 = .ok (.dup, 1) := by decide +kernel
theorem dX10_here_27 : decode cX10_here 27 = .ok (.getfield 101, 3) := by decide +kernel
theorem dX10_here_30 : decode cX10_here 30 = .ok (.iconst 1, 1) := by decide +kernel
theorem dX10_here_31 : decode cX10_here 31 = .ok (.iadd, 1) := by decide +kernel
theorem dX10_here_32 : decode cX10_here 32 = .ok (.putfield 101, 3) := by decide +kernel
theorem dX10_here_35 : decode cX10_here 35 = .ok (.goto (-35), 3) := by decide +kernel
theorem dX10_here_38 : decode cX10_here 38 = .ok (.aload_n 0, 1) := by decide +kernel
theorem dX10_here_39 : decode cX10_here 39 = .ok (.getfield 101, 3) := by decide +kernel
theorem dX10_here_42 : decode cX10_here 42 = .ok (.aload_n 0, 1) := by decide +kernel
theorem dX10_here_43 : decode cX10_here 43 = .ok (.getfield 97, 3) := by decide +kernel
theorem dX10_here_46 : decode cX10_here 46 = .ok (.if_icmp .ge 15, 3) := by decide +kernel
theorem dX10_here_49 : decode cX10_here 49 = .ok (.aload_n 0, 1) := by decide +kernel
theorem dX10_here_50 : decode cX10_here 50 = .ok (.getfield 40, 3) := by decide +kernel
theorem dX10_here_53 : decode cX10_here 53 = .ok (.aload_n 0, 1) := by decide +kernel
theorem dX10_here_54 : decode cX10_here 54 = .ok (.getfield 101, 3) := by decide +kernel
theorem dX10_here_57 : decode cX10_here 57 = .ok (.iaload, 1) := by decide +kernel
theorem dX10_here_58 : decode cX10_here 58 = .ok (.goto 4, 3) := by decide +kernel
theorem dX10_here_61 : decode cX10_here 61 = .ok (.iconst (-1), 1) := by decide +kernel
theorem dX10_here_62 : decode cX10_here 62 = .ok (.ireturn, 1) := by decide +kernel
theorem dX10_fails_0 : decode cX10_fails 0 = .ok (.aload_n 0, 1) := by decide +kernel
theorem dX10_fails_1 : decode cX10_fails 1 = .ok (.iload_n 2, 1) := by decide +kernel
theorem dX10_fails_2 : decode cX10_fails 2 = .ok (.putfield 43, 3) := by decide +kernel
theorem dX10_fails_5 : decode cX10_fails 5 = .ok (.iload_n 1, 1) := by decide +kernel
theorem dX10_fails_6 : decode cX10_fails 6 = .ok (.ireturn, 1) := by decide +kernel
theorem dX10_takeNumber_0 : decode cX10_takeNumber 0 = .ok (.aload_n 0, 1) := by decide +kernel
theorem dX10_takeNumber_1 : decode cX10_takeNumber 1 = .ok (.invokevirtual 104, 3) := by decide +kernel
theorem dX10_takeNumber_4 : decode cX10_takeNumber 4 = .ok (.istore_n 3, 1) := by decide +kernel
theorem dX10_takeNumber_5 : decode cX10_takeNumber 5 = .ok (.iload_n 3, 1) := by decide +kernel
theorem dX10_takeNumber_6 : decode cX10_takeNumber 6 = .ok (.i2l, 1) := by decide +kernel
theorem dX10_takeNumber_7 : decode cX10_takeNumber 7 = .ok (.ldc2_w 108, 3) := by decide +kernel
theorem dX10_takeNumber_10 : decode cX10_takeNumber 10 = .ok (.ldc2_w 110, 3) := by decide +kernel
theorem dX10_takeNumber_13 : decode cX10_takeNumber 13 = .ok (.invokestatic 87, 3) := by decide +kernel
theorem dX10_takeNumber_16 : decode cX10_takeNumber 16 = .ok (.ifCond .ne 13, 3) := by decide +kernel
theorem dX10_takeNumber_19 : decode cX10_takeNumber 19 = .ok (.aload_n 0, 1) := by decide +kernel
theorem dX10_takeNumber_20 : decode cX10_takeNumber 20 = .ok (.iconst 1, 1) := by decide +kernel
theorem dX10_takeNumber_21 : decode cX10_takeNumber 21 = .ok (.aload_n 0, 1) := by decide +kernel
theorem dX10_takeNumber_22 : decode cX10_takeNumber 22 = .ok (.getfield 101, 3) := by decide +kernel
theorem dX10_takeNumber_25 : decode cX10_takeNumber 25 = .ok (.invokevirtual 112, 3) := by decide +kernel
theorem dX10_takeNumber_28 : decode cX10_takeNumber 28 = .ok (.ireturn, 1) := by decide +kernel
theorem dX10_takeNumber_29 : decode cX10_takeNumber 29 = .ok (.aload_n 0, 1) := by decide +kernel
theorem dX10_takeNumber_30 : decode cX10_takeNumber 30 = .ok (.aload_n 0, 1) := by decide +kernel
theorem dX10_takeNumber_31 : decode cX10_takeNumber 31 = .ok (.getfield 101, 3) := by decide +kernel
theorem dX10_takeNumber_34 : decode cX10_takeNumber 34 = .ok (.putfield 116, 3) := by decide +kernel
theorem dX10_takeNumber_37 : decode cX10_takeNumber 37 = .ok (.aload_n 0, 1) := by decide +kernel
theorem dX10_takeNumber_38 : decode cX10_takeNumber 38 = .ok (.iconst 0, 1) := by decide +kernel
theorem dX10_takeNumber_39 : decode cX10_takeNumber 39 = .ok (.putfield 119, 3) := by decide +kernel
theorem dX10_takeNumber_42 : decode cX10_takeNumber 42 = .ok (.aload_n 0, 1) := by decide +kernel
theorem dX10_takeNumber_43 : decode cX10_takeNumber 43 = .ok (.getfield 101, 3) := by decide +kernel
theorem dX10_takeNumber_46 : decode cX10_takeNumber 46 = .ok (.aload_n 0, 1) := by decide +kernel
theorem dX10_takeNumber_47 : decode cX10_takeNumber 47 = .ok (.getfield 97, 3) := by decide +kernel
theorem dX10_takeNumber_50 : decode cX10_takeNumber 50 = .ok (.if_icmp .ge 79, 3) := by decide +kernel
theorem dX10_takeNumber_53 : decode cX10_takeNumber 53 = .ok (.aload_n 0, 1) := by decide +kernel
theorem dX10_takeNumber_54 : decode cX10_takeNumber 54 = .ok (.getfield 40, 3) := by decide +kernel
theorem dX10_takeNumber_57 : decode cX10_takeNumber 57 = .ok (.aload_n 0, 1) := by decide +kernel
theorem dX10_takeNumber_58 : decode cX10_takeNumber 58 = .ok (.getfield 101, 3) := by decide +kernel
theorem dX10_takeNumber_61 : decode cX10_takeNumber 61 = .ok (.iaload, 1) := by decide +kernel
theorem dX10_takeNumber_62 : decode cX10_takeNumber 62 = .ok (.i2l, 1) := by decide +kernel
theorem dX10_takeNumber_63 : decode cX10_takeNumber 63 = .ok (.ldc2_w 108, 3) := by decide +kernel
theorem dX10_takeNumber_66 : decode cX10_takeNumber 66 = .ok (.ldc2_w 110, 3) := by decide +kernel
theorem dX10_takeNumber_69 : decode cX10_takeNumber 69 = .ok (.invokestatic 87, 3) := by decide +kernel
theorem dX10_takeNumber_72 : decode cX10_takeNumber 72 = .ok (.ifCond .eq 57, 3) := by decide +kernel
theorem dX10_takeNumber_75 : decode cX10_takeNumber 75 = .ok (.aload_n 0, 1) := by decide +kernel
theorem dX10_takeNumber_76 : decode cX10_takeNumber 76 = .ok (.aload_n 0, 1) := by decide +kernel
theorem dX10_takeNumber_77 : decode cX10_takeNumber 77 = .ok (.getfield 119, 3) := by decide +kernel
theorem dX10_takeNumber_80 : decode cX10_takeNumber 80 = .ok (.sipush 10000, 3) := by decide +kernel
theorem dX10_takeNumber_83 : decode cX10_takeNumber 83 = .ok (.if_icmp .le 10, 3) := by decide +kernel
theorem dX10_takeNumber_86 : decode cX10_takeNumber 86 = .ok (.aload_n 0, 1) := by decide +kernel
theorem dX10_takeNumber_87 : decode cX10_takeNumber 87 = .ok (.getfield 119, 3) := by decide +kernel
theorem dX10_takeNumber_90 : decode cX10_takeNumber 90 = .ok (.goto 23, 3) := by decide +kernel
theorem dX10_takeNumber_93 : decode cX10_takeNumber 93 = .ok (.bipush 10, 2) := by decide +kernel
theorem dX10_takeNumber_95 : decode cX10_takeNumber 95 = .ok (.aload_n 0, 1) := by decide +kernel
theorem dX10_takeNumber_96 : decode cX10_takeNumber 96 = .ok (.getfield 119, 3) := by decide +kernel
theorem dX10_takeNumber_99 : decode cX10_takeNumber 99 = .ok (.imul, 1) := by decide +kernel
theorem dX10_takeNumber_100 : decode cX10_takeNumber 100 = .ok (.aload_n 0, 1) := by decide +kernel
theorem dX10_takeNumber_101 : decode cX10_takeNumber 101 = .ok (.getfield 40, 3) := by decide +kernel
theorem dX10_takeNumber_104 : decode cX10_takeNumber 104 = .ok (.aload_n 0, 1) := by decide +kernel
theorem dX10_takeNumber_105 : decode cX10_takeNumber 105 = .ok (.getfield 101, 3) := by decide +kernel
theorem dX10_takeNumber_108 : decode cX10_takeNumber 108 = .ok (.iaload, 1) := by decide +kernel
theorem dX10_takeNumber_109 : decode cX10_takeNumber 109 = .ok (.iadd, 1) := by decide +kernel
theorem dX10_takeNumber_110 : decode cX10_takeNumber 110 = .ok (.bipush 48, 2) := by decide +kernel
theorem dX10_takeNumber_112 : decode cX10_takeNumber 112 = .ok (.isub, 1) := by decide +kernel
theorem dX10_takeNumber_113 : decode cX10_takeNumber 113 = .ok (.putfield 119, 3) := by decide +kernel
theorem dX10_takeNumber_116 : decode cX10_takeNumber 116 = .ok (.aload_n 0, 1) := by decide +kernel
theorem dX10_takeNumber_117 : decode cX10_takeNumber 117 = .ok (.dup, 1) := by decide +kernel
theorem dX10_takeNumber_118 : decode cX10_takeNumber 118 = .ok (.getfield 101, 3) := by decide +kernel
theorem dX10_takeNumber_121 : decode cX10_takeNumber 121 = .ok (.iconst 1, 1) := by decide +kernel
theorem dX10_takeNumber_122 : decode cX10_takeNumber 122 = .ok (.iadd, 1) := by decide +kernel
theorem dX10_takeNumber_123 : decode cX10_takeNumber 123 = .ok (.putfield 101, 3) := by decide +kernel
theorem dX10_takeNumber_126 : decode cX10_takeNumber 126 = .ok (.goto (-84), 3) := by decide +kernel
theorem dX10_takeNumber_129 : decode cX10_takeNumber 129 = .ok (.aload_n 0, 1) := by decide +kernel
theorem dX10_takeNumber_130 : decode cX10_takeNumber 130 = .ok (.getfield 101, 3) := by decide +kernel
theorem dX10_takeNumber_133 : decode cX10_takeNumber 133 = .ok (.aload_n 0, 1) := by decide +kernel
theorem dX10_takeNumber_134 : decode cX10_takeNumber 134 = .ok (.getfield 116, 3) := by decide +kernel
theorem dX10_takeNumber_137 : decode cX10_takeNumber 137 = .ok (.isub, 1) := by decide +kernel
theorem dX10_takeNumber_138 : decode cX10_takeNumber 138 = .ok (.iconst 3, 1) := by decide +kernel
theorem dX10_takeNumber_139 : decode cX10_takeNumber 139 = .ok (.if_icmp .gt 18, 3) := by decide +kernel
theorem dX10_takeNumber_142 : decode cX10_takeNumber 142 = .ok (.aload_n 0, 1) := by decide +kernel
theorem dX10_takeNumber_143 : decode cX10_takeNumber 143 = .ok (.getfield 119, 3) := by decide +kernel
theorem dX10_takeNumber_146 : decode cX10_takeNumber 146 = .ok (.i2l, 1) := by decide +kernel
theorem dX10_takeNumber_147 : decode cX10_takeNumber 147 = .ok (.iload_n 1, 1) := by decide +kernel
theorem dX10_takeNumber_148 : decode cX10_takeNumber 148 = .ok (.i2l, 1) := by decide +kernel
theorem dX10_takeNumber_149 : decode cX10_takeNumber 149 = .ok (.iload_n 2, 1) := by decide +kernel
theorem dX10_takeNumber_150 : decode cX10_takeNumber 150 = .ok (.i2l, 1) := by decide +kernel
theorem dX10_takeNumber_151 : decode cX10_takeNumber 151 = .ok (.invokestatic 87, 3) := by decide +kernel
theorem dX10_takeNumber_154 : decode cX10_takeNumber 154 = .ok (.ifCond .ne 15, 3) := by decide +kernel
theorem dX10_takeNumber_157 : decode cX10_takeNumber 157 = .ok (.aload_n 0, 1) := by decide +kernel
theorem dX10_takeNumber_158 : decode cX10_takeNumber 158 = .ok (.iconst 2, 1) := by decide +kernel
theorem dX10_takeNumber_159 : decode cX10_takeNumber 159 = .ok (.aload_n 0, 1) := by decide +kernel
theorem dX10_takeNumber_160 : decode cX10_takeNumber 160 = .ok (.getfield 116, 3) := by decide +kernel
theorem dX10_takeNumber_163 : decode cX10_takeNumber 163 = .ok (.invokevirtual 112, 3) := by decide +kernel
theorem dX10_takeNumber_166 : decode cX10_takeNumber 166 = .ok (.goto 4, 3) := by decide +kernel
theorem dX10_takeNumber_169 : decode cX10_takeNumber 169 = .ok (.iconst 0, 1) := by decide +kernel
theorem dX10_takeNumber_170 : decode cX10_takeNumber 170 = .ok (.ireturn, 1) := by decide +kernel
theorem dX10_takeMiddle_0 : decode cX10_takeMiddle 0 = .ok (.aload_n 0, 1) := by decide +kernel
theorem dX10_takeMiddle_1 : decode cX10_takeMiddle 1 = .ok (.iconst 0, 1) := by decide +kernel
theorem dX10_takeMiddle_2 : decode cX10_takeMiddle 2 = .ok (.bipush 99, 2) := by decide +kernel
theorem dX10_takeMiddle_4 : decode cX10_takeMiddle 4 = .ok (.invokevirtual 122, 3) := by decide +kernel
theorem dX10_takeMiddle_7 : decode cX10_takeMiddle 7 = .ok (.istore_n 1, 1) := by decide +kernel
theorem dX10_takeMiddle_8 : decode cX10_takeMiddle 8 = .ok (.aload_n 0, 1) := by decide +kernel
theorem dX10_takeMiddle_9 : decode cX10_takeMiddle 9 = .ok (.aload_n 0, 1) := by decide +kernel
theorem dX10_takeMiddle_10 : decode cX10_takeMiddle 10 = .ok (.getfield 119, 3) := by decide +kernel
theorem dX10_takeMiddle_13 : decode cX10_takeMiddle 13 = .ok (.putfield 125, 3) := by decide +kernel
theorem dX10_takeMiddle_16 : decode cX10_takeMiddle 16 = .ok (.iload_n 1, 1) := by decide +kernel
theorem dX10_takeMiddle_17 : decode cX10_takeMiddle 17 = .ok (.ireturn, 1) := by decide +kernel
theorem dX10_takeLayer_0 : decode cX10_takeLayer 0 = .ok (.aload_n 0, 1) := by decide +kernel
theorem dX10_takeLayer_1 : decode cX10_takeLayer 1 = .ok (.iconst 0, 1) := by decide +kernel
theorem dX10_takeLayer_2 : decode cX10_takeLayer 2 = .ok (.iconst 4, 1) := by decide +kernel
theorem dX10_takeLayer_3 : decode cX10_takeLayer 3 = .ok (.invokevirtual 122, 3) := by decide +kernel
theorem dX10_takeLayer_6 : decode cX10_takeLayer 6 = .ok (.istore_n 1, 1) := by decide +kernel
theorem dX10_takeLayer_7 : decode cX10_takeLayer 7 = .ok (.iload_n 1, 1) := by decide +kernel
theorem dX10_takeLayer_8 : decode cX10_takeLayer 8 = .ok (.ifCond .le 5, 3) := by decide +kernel
theorem dX10_takeLayer_11 : decode cX10_takeLayer 11 = .ok (.iload_n 1, 1) := by decide +kernel
theorem dX10_takeLayer_12 : decode cX10_takeLayer 12 = .ok (.ireturn, 1) := by decide +kernel
theorem dX10_takeLayer_13 : decode cX10_takeLayer 13 = .ok (.aload_n 0, 1) := by decide +kernel
theorem dX10_takeLayer_14 : decode cX10_takeLayer 14 = .ok (.getfield 47, 3) := by decide +kernel
theorem dX10_takeLayer_17 : decode cX10_takeLayer 17 = .ok (.aload_n 0, 1) := by decide +kernel
theorem dX10_takeLayer_18 : decode cX10_takeLayer 18 = .ok (.getfield 128, 3) := by decide +kernel
theorem dX10_takeLayer_21 : decode cX10_takeLayer 21 = .ok (.aload_n 0, 1) := by decide +kernel
theorem dX10_takeLayer_22 : decode cX10_takeLayer 22 = .ok (.getfield 119, 3) := by decide +kernel
theorem dX10_takeLayer_25 : decode cX10_takeLayer 25 = .ok (.iastore, 1) := by decide +kernel
theorem dX10_takeLayer_26 : decode cX10_takeLayer 26 = .ok (.aload_n 0, 1) := by decide +kernel
theorem dX10_takeLayer_27 : decode cX10_takeLayer 27 = .ok (.iconst 1, 1) := by decide +kernel
theorem dX10_takeLayer_28 : decode cX10_takeLayer 28 = .ok (.bipush 20, 2) := by decide +kernel
theorem dX10_takeLayer_30 : decode cX10_takeLayer 30 = .ok (.invokevirtual 122, 3) := by decide +kernel
theorem dX10_takeLayer_33 : decode cX10_takeLayer 33 = .ok (.istore_n 1, 1) := by decide +kernel
theorem dX10_takeLayer_34 : decode cX10_takeLayer 34 = .ok (.aload_n 0, 1) := by decide +kernel
theorem dX10_takeLayer_35 : decode cX10_takeLayer 35 = .ok (.getfield 50, 3) := by decide +kernel
theorem dX10_takeLayer_38 : decode cX10_takeLayer 38 = .ok (.aload_n 0, 1) := by decide +kernel
theorem dX10_takeLayer_39 : decode cX10_takeLayer 39 = .ok (.getfield 128, 3) := by decide +kernel
theorem dX10_takeLayer_42 : decode cX10_takeLayer 42 = .ok (.aload_n 0, 1) := by decide +kernel
theorem dX10_takeLayer_43 : decode cX10_takeLayer 43 = .ok (.getfield 119, 3) := by decide +kernel
theorem dX10_takeLayer_46 : decode cX10_takeLayer 46 = .ok (.iastore, 1) := by decide +kernel
theorem dX10_takeLayer_47 : decode cX10_takeLayer 47 = .ok (.aload_n 0, 1) := by decide +kernel
theorem dX10_takeLayer_48 : decode cX10_takeLayer 48 = .ok (.dup, 1) := by decide +kernel
theorem dX10_takeLayer_49 : decode cX10_takeLayer 49 = .ok (.getfield 128, 3) := by decide +kernel
theorem dX10_takeLayer_52 : decode cX10_takeLayer 52 = .ok (.iconst 1, 1) := by decide +kernel
theorem dX10_takeLayer_53 : decode cX10_takeLayer 53 = .ok (.iadd, 1) := by decide +kernel
theorem dX10_takeLayer_54 : decode cX10_takeLayer 54 = .ok (.putfield 128, 3) := by decide +kernel
theorem dX10_takeLayer_57 : decode cX10_takeLayer 57 = .ok (.iload_n 1, 1) := by decide +kernel
theorem dX10_takeLayer_58 : decode cX10_takeLayer 58 = .ok (.ireturn, 1) := by decide +kernel
theorem dX10_takeExecutor_0 : decode cX10_takeExecutor 0 = .ok (.aload_n 0, 1) := by decide +kernel
theorem dX10_takeExecutor_1 : decode cX10_takeExecutor 1 = .ok (.iconst 0, 1) := by decide +kernel
theorem dX10_takeExecutor_2 : decode cX10_takeExecutor 2 = .ok (.bipush 9, 2) := by decide +kernel
theorem dX10_takeExecutor_4 : decode cX10_takeExecutor 4 = .ok (.invokevirtual 122, 3) := by decide +kernel
theorem dX10_takeExecutor_7 : decode cX10_takeExecutor 7 = .ok (.istore_n 1, 1) := by decide +kernel
theorem dX10_takeExecutor_8 : decode cX10_takeExecutor 8 = .ok (.iload_n 1, 1) := by decide +kernel
theorem dX10_takeExecutor_9 : decode cX10_takeExecutor 9 = .ok (.ifCond .le 5, 3) := by decide +kernel
theorem dX10_takeExecutor_12 : decode cX10_takeExecutor 12 = .ok (.iload_n 1, 1) := by decide +kernel
theorem dX10_takeExecutor_13 : decode cX10_takeExecutor 13 = .ok (.ireturn, 1) := by decide +kernel
theorem dX10_takeExecutor_14 : decode cX10_takeExecutor 14 = .ok (.aload_n 0, 1) := by decide +kernel
theorem dX10_takeExecutor_15 : decode cX10_takeExecutor 15 = .ok (.getfield 53, 3) := by decide +kernel
theorem dX10_takeExecutor_18 : decode cX10_takeExecutor 18 = .ok (.aload_n 0, 1) := by decide +kernel
theorem dX10_takeExecutor_19 : decode cX10_takeExecutor 19 = .ok (.getfield 131, 3) := by decide +kernel
theorem dX10_takeExecutor_22 : decode cX10_takeExecutor 22 = .ok (.aload_n 0, 1) := by decide +kernel
theorem dX10_takeExecutor_23 : decode cX10_takeExecutor 23 = .ok (.getfield 119, 3) := by decide +kernel
theorem dX10_takeExecutor_26 : decode cX10_takeExecutor 26 = .ok (.iastore, 1) := by decide +kernel
theorem dX10_takeExecutor_27 : decode cX10_takeExecutor 27 = .ok (.aload_n 0, 1) := by decide +kernel
theorem dX10_takeExecutor_28 : decode cX10_takeExecutor 28 = .ok (.iconst 1, 1) := by decide +kernel
theorem dX10_takeExecutor_29 : decode cX10_takeExecutor 29 = .ok (.bipush 9, 2) := by decide +kernel
theorem dX10_takeExecutor_31 : decode cX10_takeExecutor 31 = .ok (.invokevirtual 122, 3) := by decide +kernel
theorem dX10_takeExecutor_34 : decode cX10_takeExecutor 34 = .ok (.istore_n 1, 1) := by decide +kernel
theorem dX10_takeExecutor_35 : decode cX10_takeExecutor 35 = .ok (.aload_n 0, 1) := by decide +kernel
theorem dX10_takeExecutor_36 : decode cX10_takeExecutor 36 = .ok (.getfield 56, 3) := by decide +kernel
theorem dX10_takeExecutor_39 : decode cX10_takeExecutor 39 = .ok (.aload_n 0, 1) := by decide +kernel
theorem dX10_takeExecutor_40 : decode cX10_takeExecutor 40 = .ok (.getfield 131, 3) := by decide +kernel
theorem dX10_takeExecutor_43 : decode cX10_takeExecutor 43 = .ok (.aload_n 0, 1) := by decide +kernel
theorem dX10_takeExecutor_44 : decode cX10_takeExecutor 44 = .ok (.getfield 119, 3) := by decide +kernel
theorem dX10_takeExecutor_47 : decode cX10_takeExecutor 47 = .ok (.iastore, 1) := by decide +kernel
theorem dX10_takeExecutor_48 : decode cX10_takeExecutor 48 = .ok (.aload_n 0, 1) := by decide +kernel
theorem dX10_takeExecutor_49 : decode cX10_takeExecutor 49 = .ok (.dup, 1) := by decide +kernel
theorem dX10_takeExecutor_50 : decode cX10_takeExecutor 50 = .ok (.getfield 131, 3) := by decide +kernel
theorem dX10_takeExecutor_53 : decode cX10_takeExecutor 53 = .ok (.iconst 1, 1) := by decide +kernel
theorem dX10_takeExecutor_54 : decode cX10_takeExecutor 54 = .ok (.iadd, 1) := by decide +kernel
theorem dX10_takeExecutor_55 : decode cX10_takeExecutor 55 = .ok (.putfield 131, 3) := by decide +kernel
theorem dX10_takeExecutor_58 : decode cX10_takeExecutor 58 = .ok (.iload_n 1, 1) := by decide +kernel
theorem dX10_takeExecutor_59 : decode cX10_takeExecutor 59 = .ok (.ireturn, 1) := by decide +kernel
theorem dX10_takeType_0 : decode cX10_takeType 0 = .ok (.iconst 0, 1) := by decide +kernel
theorem dX10_takeType_1 : decode cX10_takeType 1 = .ok (.istore_n 1, 1) := by decide +kernel
theorem dX10_takeType_2 : decode cX10_takeType 2 = .ok (.iconst 0, 1) := by decide +kernel
theorem dX10_takeType_3 : decode cX10_takeType 3 = .ok (.istore_n 2, 1) := by decide +kernel
theorem dX10_takeType_4 : decode cX10_takeType 4 = .ok (.iconst 1, 1) := by decide +kernel
theorem dX10_takeType_5 : decode cX10_takeType 5 = .ok (.istore_n 3, 1) := by decide +kernel
theorem dX10_takeType_6 : decode cX10_takeType 6 = .ok (.iload_n 3, 1) := by decide +kernel
theorem dX10_takeType_7 : decode cX10_takeType 7 = .ok (.ifCond .eq 81, 3) := by decide +kernel
theorem dX10_takeType_10 : decode cX10_takeType 10 = .ok (.iload_n 2, 1) := by decide +kernel
theorem dX10_takeType_11 : decode cX10_takeType 11 = .ok (.ifCond .ne 77, 3) := by decide +kernel
theorem dX10_takeType_14 : decode cX10_takeType 14 = .ok (.aload_n 0, 1) := by decide +kernel
theorem dX10_takeType_15 : decode cX10_takeType 15 = .ok (.iconst 0, 1) := by decide +kernel
theorem dX10_takeType_16 : decode cX10_takeType 16 = .ok (.iconst 4, 1) := by decide +kernel
theorem dX10_takeType_17 : decode cX10_takeType 17 = .ok (.invokevirtual 122, 3) := by decide +kernel
theorem dX10_takeType_20 : decode cX10_takeType 20 = .ok (.istore_n 2, 1) := by decide +kernel
theorem dX10_takeType_21 : decode cX10_takeType 21 = .ok (.aload_n 0, 1) := by decide +kernel
theorem dX10_takeType_22 : decode cX10_takeType 22 = .ok (.getfield 62, 3) := by decide +kernel
theorem dX10_takeType_25 : decode cX10_takeType 25 = .ok (.bipush 8, 2) := by decide +kernel
theorem dX10_takeType_27 : decode cX10_takeType 27 = .ok (.aload_n 0, 1) := by decide +kernel
theorem dX10_takeType_28 : decode cX10_takeType 28 = .ok (.getfield 134, 3) := by decide +kernel
theorem dX10_takeType_31 : decode cX10_takeType 31 = .ok (.imul, 1) := by decide +kernel
theorem dX10_takeType_32 : decode cX10_takeType 32 = .ok (.iload_n 1, 1) := by decide +kernel
theorem dX10_takeType_33 : decode cX10_takeType 33 = .ok (.iadd, 1) := by decide +kernel
theorem dX10_takeType_34 : decode cX10_takeType 34 = .ok (.aload_n 0, 1) := by decide +kernel
theorem dX10_takeType_35 : decode cX10_takeType 35 = .ok (.getfield 119, 3) := by decide +kernel
theorem dX10_takeType_38 : decode cX10_takeType 38 = .ok (.iastore, 1) := by decide +kernel
theorem dX10_takeType_39 : decode cX10_takeType 39 = .ok (.iinc 1 1, 3) := by decide +kernel
theorem dX10_takeType_42 : decode cX10_takeType 42 = .ok (.iload_n 2, 1) := by decide +kernel
theorem dX10_takeType_43 : decode cX10_takeType 43 = .ok (.ifCond .ne 22, 3) := by decide +kernel
theorem dX10_takeType_46 : decode cX10_takeType 46 = .ok (.iload_n 1, 1) := by decide +kernel
theorem dX10_takeType_47 : decode cX10_takeType 47 = .ok (.bipush 8, 2) := by decide +kernel
theorem dX10_takeType_49 : decode cX10_takeType 49 = .ok (.if_icmp .ge 16, 3) := by decide +kernel
theorem dX10_takeType_52 : decode cX10_takeType 52 = .ok (.aload_n 0, 1) := by decide +kernel
theorem dX10_takeType_53 : decode cX10_takeType 53 = .ok (.invokevirtual 104, 3) := by decide +kernel
theorem dX10_takeType_56 : decode cX10_takeType 56 = .ok (.bipush 44, 2) := by decide +kernel
theorem dX10_takeType_58 : decode cX10_takeType 58 = .ok (.if_icmp .ne 7, 3) := by decide +kernel
theorem dX10_takeType_61 : decode cX10_takeType 61 = .ok (.iconst 1, 1) := by decide +kernel
theorem dX10_takeType_62 : decode cX10_takeType 62 = .ok (.goto 4, 3) := by decide +kernel
theorem dX10_takeType_65 : decode cX10_takeType 65 = .ok (.iconst 0, 1) := by decide +kernel
theorem dX10_takeType_66 : decode cX10_takeType 66 = .ok (.istore_n 3, 1) := by decide +kernel
theorem dX10_takeType_67 : decode cX10_takeType 67 = .ok (.aload_n 0, 1) := by decide +kernel
theorem dX10_takeType_68 : decode cX10_takeType 68 = .ok (.dup, 1) := by decide +kernel
theorem dX10_takeType_69 : decode cX10_takeType 69 = .ok (.getfield 101, 3) := by decide +kernel
theorem dX10_takeType_72 : decode cX10_takeType 72 = .ok (.iload_n 3, 1) := by decide +kernel
theorem dX10_takeType_73 : decode cX10_takeType 73 = .ok (.ifCond .eq 7, 3) := by decide +kernel
theorem dX10_takeType_76 : decode cX10_takeType 76 = .ok (.iconst 1, 1) := by decide +kernel
theorem dX10_takeType_77 : decode cX10_takeType 77 = .ok (.goto 4, 3) := by decide +kernel
theorem dX10_takeType_80 : decode cX10_takeType 80 = .ok (.iconst 0, 1) := by decide +kernel
theorem dX10_takeType_81 : decode cX10_takeType 81 = .ok (.iadd, 1) := by decide +kernel
theorem dX10_takeType_82 : decode cX10_takeType 82 = .ok (.putfield 101, 3) := by decide +kernel
theorem dX10_takeType_85 : decode cX10_takeType 85 = .ok (.goto (-79), 3) := by decide +kernel
theorem dX10_takeType_88 : decode cX10_takeType 88 = .ok (.aload_n 0, 1) := by decide +kernel
theorem dX10_takeType_89 : decode cX10_takeType 89 = .ok (.getfield 59, 3) := by decide +kernel
theorem dX10_takeType_92 : decode cX10_takeType 92 = .ok (.aload_n 0, 1) := by decide +kernel
theorem dX10_takeType_93 : decode cX10_takeType 93 = .ok (.getfield 134, 3) := by decide +kernel
theorem dX10_takeType_96 : decode cX10_takeType 96 = .ok (.iload_n 1, 1) := by decide +kernel
theorem dX10_takeType_97 : decode cX10_takeType 97 = .ok (.iastore, 1) := by decide +kernel
theorem dX10_takeType_98 : decode cX10_takeType 98 = .ok (.aload_n 0, 1) := by decide +kernel
theorem dX10_takeType_99 : decode cX10_takeType 99 = .ok (.dup, 1) := by decide +kernel
theorem dX10_takeType_100 : decode cX10_takeType 100 = .ok (.getfield 134, 3) := by decide +kernel
theorem dX10_takeType_103 : decode cX10_takeType 103 = .ok (.iconst 1, 1) := by decide +kernel
theorem dX10_takeType_104 : decode cX10_takeType 104 = .ok (.iadd, 1) := by decide +kernel
theorem dX10_takeType_105 : decode cX10_takeType 105 = .ok (.putfield 134, 3) := by decide +kernel
theorem dX10_takeType_108 : decode cX10_takeType 108 = .ok (.iload_n 2, 1) := by decide +kernel
theorem dX10_takeType_109 : decode cX10_takeType 109 = .ok (.ireturn, 1) := by decide +kernel
theorem dX10_isFull_0 : decode cX10_isFull 0 = .ok (.iload_n 1, 1) := by decide +kernel
theorem dX10_isFull_1 : decode cX10_isFull 1 = .ok (.ifCond .ne 18, 3) := by decide +kernel
theorem dX10_isFull_4 : decode cX10_isFull 4 = .ok (.aload_n 0, 1) := by decide +kernel
theorem dX10_isFull_5 : decode cX10_isFull 5 = .ok (.getfield 125, 3) := by decide +kernel
theorem dX10_isFull_8 : decode cX10_isFull 8 = .ok (.ifCond .lt 7, 3) := by decide +kernel
theorem dX10_isFull_11 : decode cX10_isFull 11 = .ok (.iconst 1, 1) := by decide +kernel
theorem dX10_isFull_12 : decode cX10_isFull 12 = .ok (.goto 64, 3) := by decide +kernel
theorem dX10_isFull_15 : decode cX10_isFull 15 = .ok (.iconst 0, 1) := by decide +kernel
theorem dX10_isFull_16 : decode cX10_isFull 16 = .ok (.goto 60, 3) := by decide +kernel
theorem dX10_isFull_19 : decode cX10_isFull 19 = .ok (.iload_n 1, 1) := by decide +kernel
theorem dX10_isFull_20 : decode cX10_isFull 20 = .ok (.iconst 1, 1) := by decide +kernel
theorem dX10_isFull_21 : decode cX10_isFull 21 = .ok (.if_icmp .ne 20, 3) := by decide +kernel
theorem dX10_isFull_24 : decode cX10_isFull 24 = .ok (.aload_n 0, 1) := by decide +kernel
theorem dX10_isFull_25 : decode cX10_isFull 25 = .ok (.getfield 128, 3) := by decide +kernel
theorem dX10_isFull_28 : decode cX10_isFull 28 = .ok (.bipush 12, 2) := by decide +kernel
theorem dX10_isFull_30 : decode cX10_isFull 30 = .ok (.if_icmp .ne 7, 3) := by decide +kernel
theorem dX10_isFull_33 : decode cX10_isFull 33 = .ok (.iconst 1, 1) := by decide +kernel
theorem dX10_isFull_34 : decode cX10_isFull 34 = .ok (.goto 42, 3) := by decide +kernel
theorem dX10_isFull_37 : decode cX10_isFull 37 = .ok (.iconst 0, 1) := by decide +kernel
theorem dX10_isFull_38 : decode cX10_isFull 38 = .ok (.goto 38, 3) := by decide +kernel
theorem dX10_isFull_41 : decode cX10_isFull 41 = .ok (.iload_n 1, 1) := by decide +kernel
theorem dX10_isFull_42 : decode cX10_isFull 42 = .ok (.iconst 2, 1) := by decide +kernel
theorem dX10_isFull_43 : decode cX10_isFull 43 = .ok (.if_icmp .ne 19, 3) := by decide +kernel
theorem dX10_isFull_46 : decode cX10_isFull 46 = .ok (.aload_n 0, 1) := by decide +kernel
theorem dX10_isFull_47 : decode cX10_isFull 47 = .ok (.getfield 131, 3) := by decide +kernel
theorem dX10_isFull_50 : decode cX10_isFull 50 = .ok (.iconst 5, 1) := by decide +kernel
theorem dX10_isFull_51 : decode cX10_isFull 51 = .ok (.if_icmp .ne 7, 3) := by decide +kernel
theorem dX10_isFull_54 : decode cX10_isFull 54 = .ok (.iconst 1, 1) := by decide +kernel
theorem dX10_isFull_55 : decode cX10_isFull 55 = .ok (.goto 21, 3) := by decide +kernel
theorem dX10_isFull_58 : decode cX10_isFull 58 = .ok (.iconst 0, 1) := by decide +kernel
theorem dX10_isFull_59 : decode cX10_isFull 59 = .ok (.goto 17, 3) := by decide +kernel
theorem dX10_isFull_62 : decode cX10_isFull 62 = .ok (.aload_n 0, 1) := by decide +kernel
theorem dX10_isFull_63 : decode cX10_isFull 63 = .ok (.getfield 134, 3) := by decide +kernel
theorem dX10_isFull_66 : decode cX10_isFull 66 = .ok (.bipush 6, 2) := by decide +kernel
theorem dX10_isFull_68 : decode cX10_isFull 68 = .ok (.if_icmp .ne 7, 3) := by decide +kernel
theorem dX10_isFull_71 : decode cX10_isFull 71 = .ok (.iconst 1, 1) := by decide +kernel
theorem dX10_isFull_72 : decode cX10_isFull 72 = .ok (.goto 4, 3) := by decide +kernel
theorem dX10_isFull_75 : decode cX10_isFull 75 = .ok (.iconst 0, 1) := by decide +kernel
theorem dX10_isFull_76 : decode cX10_isFull 76 = .ok (.ireturn, 1) := by decide +kernel
theorem dX10_takeBody_0 : decode cX10_takeBody 0 = .ok (.iload_n 1, 1) := by decide +kernel
theorem dX10_takeBody_1 : decode cX10_takeBody 1 = .ok (.ifCond .ne 10, 3) := by decide +kernel
theorem dX10_takeBody_4 : decode cX10_takeBody 4 = .ok (.aload_n 0, 1) := by decide +kernel
theorem dX10_takeBody_5 : decode cX10_takeBody 5 = .ok (.invokevirtual 137, 3) := by decide +kernel
theorem dX10_takeBody_8 : decode cX10_takeBody 8 = .ok (.goto 31, 3) := by decide +kernel
theorem dX10_takeBody_11 : decode cX10_takeBody 11 = .ok (.iload_n 1, 1) := by decide +kernel
theorem dX10_takeBody_12 : decode cX10_takeBody 12 = .ok (.iconst 1, 1) := by decide +kernel
theorem dX10_takeBody_13 : decode cX10_takeBody 13 = .ok (.if_icmp .ne 10, 3) := by decide +kernel
theorem dX10_takeBody_16 : decode cX10_takeBody 16 = .ok (.aload_n 0, 1) := by decide +kernel
theorem dX10_takeBody_17 : decode cX10_takeBody 17 = .ok (.invokevirtual 140, 3) := by decide +kernel
theorem dX10_takeBody_20 : decode cX10_takeBody 20 = .ok (.goto 19, 3) := by decide +kernel
theorem dX10_takeBody_23 : decode cX10_takeBody 23 = .ok (.iload_n 1, 1) := by decide +kernel
theorem dX10_takeBody_24 : decode cX10_takeBody 24 = .ok (.iconst 2, 1) := by decide +kernel
theorem dX10_takeBody_25 : decode cX10_takeBody 25 = .ok (.if_icmp .ne 10, 3) := by decide +kernel
theorem dX10_takeBody_28 : decode cX10_takeBody 28 = .ok (.aload_n 0, 1) := by decide +kernel
theorem dX10_takeBody_29 : decode cX10_takeBody 29 = .ok (.invokevirtual 143, 3) := by decide +kernel
theorem dX10_takeBody_32 : decode cX10_takeBody 32 = .ok (.goto 7, 3) := by decide +kernel
theorem dX10_takeBody_35 : decode cX10_takeBody 35 = .ok (.aload_n 0, 1) := by decide +kernel
theorem dX10_takeBody_36 : decode cX10_takeBody 36 = .ok (.invokevirtual 146, 3) := by decide +kernel
theorem dX10_takeBody_39 : decode cX10_takeBody 39 = .ok (.ireturn, 1) := by decide +kernel
theorem dX10_takeClause_0 : decode cX10_takeClause 0 = .ok (.aload_n 0, 1) := by decide +kernel
theorem dX10_takeClause_1 : decode cX10_takeClause 1 = .ok (.invokevirtual 104, 3) := by decide +kernel
theorem dX10_takeClause_4 : decode cX10_takeClause 4 = .ok (.istore_n 1, 1) := by decide +kernel
theorem dX10_takeClause_5 : decode cX10_takeClause 5 = .ok (.iload_n 1, 1) := by decide +kernel
theorem dX10_takeClause_6 : decode cX10_takeClause 6 = .ok (.bipush 109, 2) := by decide +kernel
theorem dX10_takeClause_8 : decode cX10_takeClause 8 = .ok (.if_icmp .ne 7, 3) := by decide +kernel
theorem dX10_takeClause_11 : decode cX10_takeClause 11 = .ok (.iconst 0, 1) := by decide +kernel
theorem dX10_takeClause_12 : decode cX10_takeClause 12 = .ok (.goto 34, 3) := by decide +kernel
theorem dX10_takeClause_15 : decode cX10_takeClause 15 = .ok (.iload_n 1, 1) := by decide +kernel
theorem dX10_takeClause_16 : decode cX10_takeClause 16 = .ok (.bipush 108, 2) := by decide +kernel
theorem dX10_takeClause_18 : decode cX10_takeClause 18 = .ok (.if_icmp .ne 7, 3) := by decide +kernel
theorem dX10_takeClause_21 : decode cX10_takeClause 21 = .ok (.iconst 1, 1) := by decide +kernel
theorem dX10_takeClause_22 : decode cX10_takeClause 22 = .ok (.goto 24, 3) := by decide +kernel
theorem dX10_takeClause_25 : decode cX10_takeClause 25 = .ok (.iload_n 1, 1) := by decide +kernel
theorem dX10_takeClause_26 : decode cX10_takeClause 26 = .ok (.bipush 101, 2) := by decide +kernel
theorem dX10_takeClause_28 : decode cX10_takeClause 28 = .ok (.if_icmp .ne 7, 3) := by decide +kernel
theorem dX10_takeClause_31 : decode cX10_takeClause 31 = .ok (.iconst 2, 1) := by decide +kernel
theorem dX10_takeClause_32 : decode cX10_takeClause 32 = .ok (.goto 14, 3) := by decide +kernel
theorem dX10_takeClause_35 : decode cX10_takeClause 35 = .ok (.iload_n 1, 1) := by decide +kernel
theorem dX10_takeClause_36 : decode cX10_takeClause 36 = .ok (.bipush 116, 2) := by decide +kernel
theorem dX10_takeClause_38 : decode cX10_takeClause 38 = .ok (.if_icmp .ne 7, 3) := by decide +kernel
theorem dX10_takeClause_41 : decode cX10_takeClause 41 = .ok (.iconst 3, 1) := by decide +kernel
theorem dX10_takeClause_42 : decode cX10_takeClause 42 = .ok (.goto 4, 3) := by decide +kernel
theorem dX10_takeClause_45 : decode cX10_takeClause 45 = .ok (.iconst (-1), 1) := by decide +kernel
theorem dX10_takeClause_46 : decode cX10_takeClause 46 = .ok (.istore_n 2, 1) := by decide +kernel
theorem dX10_takeClause_47 : decode cX10_takeClause 47 = .ok (.iload_n 2, 1) := by decide +kernel
theorem dX10_takeClause_48 : decode cX10_takeClause 48 = .ok (.ifCond .lt 14, 3) := by decide +kernel
theorem dX10_takeClause_51 : decode cX10_takeClause 51 = .ok (.iload_n 2, 1) := by decide +kernel
theorem dX10_takeClause_52 : decode cX10_takeClause 52 = .ok (.ifCond .le 20, 3) := by decide +kernel
theorem dX10_takeClause_55 : decode cX10_takeClause 55 = .ok (.aload_n 0, 1) := by decide +kernel
theorem dX10_takeClause_56 : decode cX10_takeClause 56 = .ok (.getfield 125, 3) := by decide +kernel
theorem dX10_takeClause_59 : decode cX10_takeClause 59 = .ok (.ifCond .ge 13, 3) := by decide +kernel
theorem dX10_takeClause_62 : decode cX10_takeClause 62 = .ok (.aload_n 0, 1) := by decide +kernel
theorem dX10_takeClause_63 : decode cX10_takeClause 63 = .ok (.iconst 1, 1) := by decide +kernel
theorem dX10_takeClause_64 : decode cX10_takeClause 64 = .ok (.aload_n 0, 1) := by decide +kernel
theorem dX10_takeClause_65 : decode cX10_takeClause 65 = .ok (.getfield 101, 3) := by decide +kernel
theorem dX10_takeClause_68 : decode cX10_takeClause 68 = .ok (.invokevirtual 112, 3) := by decide +kernel
theorem dX10_takeClause_71 : decode cX10_takeClause 71 = .ok (.ireturn, 1) := by decide +kernel
theorem dX10_takeClause_72 : decode cX10_takeClause 72 = .ok (.aload_n 0, 1) := by decide +kernel
theorem dX10_takeClause_73 : decode cX10_takeClause 73 = .ok (.iload_n 2, 1) := by decide +kernel
theorem dX10_takeClause_74 : decode cX10_takeClause 74 = .ok (.invokevirtual 149, 3) := by decide +kernel
theorem dX10_takeClause_77 : decode cX10_takeClause 77 = .ok (.ifCond .eq 13, 3) := by decide +kernel
theorem dX10_takeClause_80 : decode cX10_takeClause 80 = .ok (.aload_n 0, 1) := by decide +kernel
theorem dX10_takeClause_81 : decode cX10_takeClause 81 = .ok (.iconst 3, 1) := by decide +kernel
theorem dX10_takeClause_82 : decode cX10_takeClause 82 = .ok (.aload_n 0, 1) := by decide +kernel
theorem dX10_takeClause_83 : decode cX10_takeClause 83 = .ok (.getfield 101, 3) := by decide +kernel
theorem dX10_takeClause_86 : decode cX10_takeClause 86 = .ok (.invokevirtual 112, 3) := by decide +kernel
theorem dX10_takeClause_89 : decode cX10_takeClause 89 = .ok (.ireturn, 1) := by decide +kernel
theorem dX10_takeClause_90 : decode cX10_takeClause 90 = .ok (.aload_n 0, 1) := by decide +kernel
theorem dX10_takeClause_91 : decode cX10_takeClause 91 = .ok (.dup, 1) := by decide +kernel
theorem dX10_takeClause_92 : decode cX10_takeClause 92 = .ok (.getfield 101, 3) := by decide +kernel
theorem dX10_takeClause_95 : decode cX10_takeClause 95 = .ok (.iconst 1, 1) := by decide +kernel
theorem dX10_takeClause_96 : decode cX10_takeClause 96 = .ok (.iadd, 1) := by decide +kernel
theorem dX10_takeClause_97 : decode cX10_takeClause 97 = .ok (.putfield 101, 3) := by decide +kernel
theorem dX10_takeClause_100 : decode cX10_takeClause 100 = .ok (.aload_n 0, 1) := by decide +kernel
theorem dX10_takeClause_101 : decode cX10_takeClause 101 = .ok (.iload_n 2, 1) := by decide +kernel
theorem dX10_takeClause_102 : decode cX10_takeClause 102 = .ok (.invokevirtual 153, 3) := by decide +kernel
theorem dX10_takeClause_105 : decode cX10_takeClause 105 = .ok (.istore_n 3, 1) := by decide +kernel
theorem dX10_takeClause_106 : decode cX10_takeClause 106 = .ok (.iload_n 3, 1) := by decide +kernel
theorem dX10_takeClause_107 : decode cX10_takeClause 107 = .ok (.ifCond .le 5, 3) := by decide +kernel
theorem dX10_takeClause_110 : decode cX10_takeClause 110 = .ok (.iload_n 3, 1) := by decide +kernel
theorem dX10_takeClause_111 : decode cX10_takeClause 111 = .ok (.ireturn, 1) := by decide +kernel
theorem dX10_takeClause_112 : decode cX10_takeClause 112 = .ok (.aload_n 0, 1) := by decide +kernel
theorem dX10_takeClause_113 : decode cX10_takeClause 113 = .ok (.invokevirtual 104, 3) := by decide +kernel
theorem dX10_takeClause_116 : decode cX10_takeClause 116 = .ok (.bipush 59, 2) := by decide +kernel
theorem dX10_takeClause_118 : decode cX10_takeClause 118 = .ok (.if_icmp .eq 13, 3) := by decide +kernel
theorem dX10_takeClause_121 : decode cX10_takeClause 121 = .ok (.aload_n 0, 1) := by decide +kernel
theorem dX10_takeClause_122 : decode cX10_takeClause 122 = .ok (.iconst 1, 1) := by decide +kernel
theorem dX10_takeClause_123 : decode cX10_takeClause 123 = .ok (.aload_n 0, 1) := by decide +kernel
theorem dX10_takeClause_124 : decode cX10_takeClause 124 = .ok (.getfield 101, 3) := by decide +kernel
theorem dX10_takeClause_127 : decode cX10_takeClause 127 = .ok (.invokevirtual 112, 3) := by decide +kernel
theorem dX10_takeClause_130 : decode cX10_takeClause 130 = .ok (.ireturn, 1) := by decide +kernel
theorem dX10_takeClause_131 : decode cX10_takeClause 131 = .ok (.aload_n 0, 1) := by decide +kernel
theorem dX10_takeClause_132 : decode cX10_takeClause 132 = .ok (.dup, 1) := by decide +kernel
theorem dX10_takeClause_133 : decode cX10_takeClause 133 = .ok (.getfield 101, 3) := by decide +kernel
theorem dX10_takeClause_136 : decode cX10_takeClause 136 = .ok (.iconst 1, 1) := by decide +kernel
theorem dX10_takeClause_137 : decode cX10_takeClause 137 = .ok (.iadd, 1) := by decide +kernel
theorem dX10_takeClause_138 : decode cX10_takeClause 138 = .ok (.putfield 101, 3) := by decide +kernel
theorem dX10_takeClause_141 : decode cX10_takeClause 141 = .ok (.iconst 0, 1) := by decide +kernel
theorem dX10_takeClause_142 : decode cX10_takeClause 142 = .ok (.ireturn, 1) := by decide +kernel
theorem dX10_takeRead_0 : decode cX10_takeRead 0 = .ok (.aload_n 0, 1) := by decide +kernel
theorem dX10_takeRead_1 : decode cX10_takeRead 1 = .ok (.aload_n 0, 1) := by decide +kernel
theorem dX10_takeRead_2 : decode cX10_takeRead 2 = .ok (.getfield 125, 3) := by decide +kernel
theorem dX10_takeRead_5 : decode cX10_takeRead 5 = .ok (.ifCond .lt 7, 3) := by decide +kernel
theorem dX10_takeRead_8 : decode cX10_takeRead 8 = .ok (.iconst 1, 1) := by decide +kernel
theorem dX10_takeRead_9 : decode cX10_takeRead 9 = .ok (.goto 4, 3) := by decide +kernel
theorem dX10_takeRead_12 : decode cX10_takeRead 12 = .ok (.iconst 0, 1) := by decide +kernel
theorem dX10_takeRead_13 : decode cX10_takeRead 13 = .ok (.putfield 157, 3) := by decide +kernel
theorem dX10_takeRead_16 : decode cX10_takeRead 16 = .ok (.aload_n 0, 1) := by decide +kernel
theorem dX10_takeRead_17 : decode cX10_takeRead 17 = .ok (.aload_n 0, 1) := by decide +kernel
theorem dX10_takeRead_18 : decode cX10_takeRead 18 = .ok (.getfield 157, 3) := by decide +kernel
theorem dX10_takeRead_21 : decode cX10_takeRead 21 = .ok (.ifCond .eq 10, 3) := by decide +kernel
theorem dX10_takeRead_24 : decode cX10_takeRead 24 = .ok (.aload_n 0, 1) := by decide +kernel
theorem dX10_takeRead_25 : decode cX10_takeRead 25 = .ok (.getfield 125, 3) := by decide +kernel
theorem dX10_takeRead_28 : decode cX10_takeRead 28 = .ok (.goto 4, 3) := by decide +kernel
theorem dX10_takeRead_31 : decode cX10_takeRead 31 = .ok (.iconst 0, 1) := by decide +kernel
theorem dX10_takeRead_32 : decode cX10_takeRead 32 = .ok (.putfield 161, 3) := by decide +kernel
theorem dX10_takeRead_35 : decode cX10_takeRead 35 = .ok (.aload_n 0, 1) := by decide +kernel
theorem dX10_takeRead_36 : decode cX10_takeRead 36 = .ok (.aload_n 0, 1) := by decide +kernel
theorem dX10_takeRead_37 : decode cX10_takeRead 37 = .ok (.getfield 131, 3) := by decide +kernel
theorem dX10_takeRead_40 : decode cX10_takeRead 40 = .ok (.putfield 91, 3) := by decide +kernel
theorem dX10_takeRead_43 : decode cX10_takeRead 43 = .ok (.aload_n 0, 1) := by decide +kernel
theorem dX10_takeRead_44 : decode cX10_takeRead 44 = .ok (.aload_n 0, 1) := by decide +kernel
theorem dX10_takeRead_45 : decode cX10_takeRead 45 = .ok (.getfield 134, 3) := by decide +kernel
theorem dX10_takeRead_48 : decode cX10_takeRead 48 = .ok (.putfield 164, 3) := by decide +kernel
theorem dX10_takeRead_51 : decode cX10_takeRead 51 = .ok (.iconst 0, 1) := by decide +kernel
theorem dX10_takeRead_52 : decode cX10_takeRead 52 = .ok (.istore_n 1, 1) := by decide +kernel
theorem dX10_takeRead_53 : decode cX10_takeRead 53 = .ok (.iload_n 1, 1) := by decide +kernel
theorem dX10_takeRead_54 : decode cX10_takeRead 54 = .ok (.iconst 5, 1) := by decide +kernel
theorem dX10_takeRead_55 : decode cX10_takeRead 55 = .ok (.if_icmp .ge 33, 3) := by decide +kernel
theorem dX10_takeRead_58 : decode cX10_takeRead 58 = .ok (.aload_n 0, 1) := by decide +kernel
theorem dX10_takeRead_59 : decode cX10_takeRead 59 = .ok (.getfield 7, 3) := by decide +kernel
theorem dX10_takeRead_62 : decode cX10_takeRead 62 = .ok (.iload_n 1, 1) := by decide +kernel
theorem dX10_takeRead_63 : decode cX10_takeRead 63 = .ok (.aload_n 0, 1) := by decide +kernel
theorem dX10_takeRead_64 : decode cX10_takeRead 64 = .ok (.getfield 53, 3) := by decide +kernel
theorem dX10_takeRead_67 : decode cX10_takeRead 67 = .ok (.iload_n 1, 1) := by decide +kernel
theorem dX10_takeRead_68 : decode cX10_takeRead 68 = .ok (.iaload, 1) := by decide +kernel
theorem dX10_takeRead_69 : decode cX10_takeRead 69 = .ok (.iastore, 1) := by decide +kernel
theorem dX10_takeRead_70 : decode cX10_takeRead 70 = .ok (.aload_n 0, 1) := by decide +kernel
theorem dX10_takeRead_71 : decode cX10_takeRead 71 = .ok (.getfield 13, 3) := by decide +kernel
theorem dX10_takeRead_74 : decode cX10_takeRead 74 = .ok (.iload_n 1, 1) := by decide +kernel
theorem dX10_takeRead_75 : decode cX10_takeRead 75 = .ok (.aload_n 0, 1) := by decide +kernel
theorem dX10_takeRead_76 : decode cX10_takeRead 76 = .ok (.getfield 56, 3) := by decide +kernel
theorem dX10_takeRead_79 : decode cX10_takeRead 79 = .ok (.iload_n 1, 1) := by decide +kernel
theorem dX10_takeRead_80 : decode cX10_takeRead 80 = .ok (.iaload, 1) := by decide +kernel
theorem dX10_takeRead_81 : decode cX10_takeRead 81 = .ok (.iastore, 1) := by decide +kernel
theorem dX10_takeRead_82 : decode cX10_takeRead 82 = .ok (.iinc 1 1, 3) := by decide +kernel
theorem dX10_takeRead_85 : decode cX10_takeRead 85 = .ok (.goto (-32), 3) := by decide +kernel
theorem dX10_takeRead_88 : decode cX10_takeRead 88 = .ok (.iconst 0, 1) := by decide +kernel
theorem dX10_takeRead_89 : decode cX10_takeRead 89 = .ok (.istore_n 1, 1) := by decide +kernel
theorem dX10_takeRead_90 : decode cX10_takeRead 90 = .ok (.iload_n 1, 1) := by decide +kernel
theorem dX10_takeRead_91 : decode cX10_takeRead 91 = .ok (.bipush 6, 2) := by decide +kernel
theorem dX10_takeRead_93 : decode cX10_takeRead 93 = .ok (.if_icmp .ge 21, 3) := by decide +kernel
theorem dX10_takeRead_96 : decode cX10_takeRead 96 = .ok (.aload_n 0, 1) := by decide +kernel
theorem dX10_takeRead_97 : decode cX10_takeRead 97 = .ok (.getfield 16, 3) := by decide +kernel
theorem dX10_takeRead_100 : decode cX10_takeRead 100 = .ok (.iload_n 1, 1) := by decide +kernel
theorem dX10_takeRead_101 : decode cX10_takeRead 101 = .ok (.aload_n 0, 1) := by decide +kernel
theorem dX10_takeRead_102 : decode cX10_takeRead 102 = .ok (.getfield 59, 3) := by decide +kernel
theorem dX10_takeRead_105 : decode cX10_takeRead 105 = .ok (.iload_n 1, 1) := by decide +kernel
theorem dX10_takeRead_106 : decode cX10_takeRead 106 = .ok (.iaload, 1) := by decide +kernel
theorem dX10_takeRead_107 : decode cX10_takeRead 107 = .ok (.iastore, 1) := by decide +kernel
theorem dX10_takeRead_108 : decode cX10_takeRead 108 = .ok (.iinc 1 1, 3) := by decide +kernel
theorem dX10_takeRead_111 : decode cX10_takeRead 111 = .ok (.goto (-21), 3) := by decide +kernel
theorem dX10_takeRead_114 : decode cX10_takeRead 114 = .ok (.iconst 0, 1) := by decide +kernel
theorem dX10_takeRead_115 : decode cX10_takeRead 115 = .ok (.istore_n 1, 1) := by decide +kernel
theorem dX10_takeRead_116 : decode cX10_takeRead 116 = .ok (.iload_n 1, 1) := by decide +kernel
theorem dX10_takeRead_117 : decode cX10_takeRead 117 = .ok (.bipush 48, 2) := by decide +kernel
theorem dX10_takeRead_119 : decode cX10_takeRead 119 = .ok (.if_icmp .ge 21, 3) := by decide +kernel
theorem dX10_takeRead_122 : decode cX10_takeRead 122 = .ok (.aload_n 0, 1) := by decide +kernel
theorem dX10_takeRead_123 : decode cX10_takeRead 123 = .ok (.getfield 19, 3) := by decide +kernel
theorem dX10_takeRead_126 : decode cX10_takeRead 126 = .ok (.iload_n 1, 1) := by decide +kernel
theorem dX10_takeRead_127 : decode cX10_takeRead 127 = .ok (.aload_n 0, 1) := by decide +kernel
theorem dX10_takeRead_128 : decode cX10_takeRead 128 = .ok (.getfield 62, 3) := by decide +kernel
theorem dX10_takeRead_131 : decode cX10_takeRead 131 = .ok (.iload_n 1, 1) := by decide +kernel
theorem dX10_takeRead_132 : decode cX10_takeRead 132 = .ok (.iaload, 1) := by decide +kernel
theorem dX10_takeRead_133 : decode cX10_takeRead 133 = .ok (.iastore, 1) := by decide +kernel
theorem dX10_takeRead_134 : decode cX10_takeRead 134 = .ok (.iinc 1 1, 3) := by decide +kernel
theorem dX10_takeRead_137 : decode cX10_takeRead 137 = .ok (.goto (-21), 3) := by decide +kernel
theorem dX10_takeRead_140 : decode cX10_takeRead 140 = .ok (.aload_n 0, 1) := by decide +kernel
theorem dX10_takeRead_141 : decode cX10_takeRead 141 = .ok (.invokevirtual 84, 3) := by decide +kernel
theorem dX10_takeRead_144 : decode cX10_takeRead 144 = .ok (.aload_n 0, 1) := by decide +kernel
theorem dX10_takeRead_145 : decode cX10_takeRead 145 = .ok (.getfield 22, 3) := by decide +kernel
theorem dX10_takeRead_148 : decode cX10_takeRead 148 = .ok (.iconst 0, 1) := by decide +kernel
theorem dX10_takeRead_149 : decode cX10_takeRead 149 = .ok (.aload_n 0, 1) := by decide +kernel
theorem dX10_takeRead_150 : decode cX10_takeRead 150 = .ok (.getfield 128, 3) := by decide +kernel
theorem dX10_takeRead_153 : decode cX10_takeRead 153 = .ok (.iastore, 1) := by decide +kernel
theorem dX10_takeRead_154 : decode cX10_takeRead 154 = .ok (.iconst 0, 1) := by decide +kernel
theorem dX10_takeRead_155 : decode cX10_takeRead 155 = .ok (.istore_n 1, 1) := by decide +kernel
theorem dX10_takeRead_156 : decode cX10_takeRead 156 = .ok (.iload_n 1, 1) := by decide +kernel
theorem dX10_takeRead_157 : decode cX10_takeRead 157 = .ok (.aload_n 0, 1) := by decide +kernel
theorem dX10_takeRead_158 : decode cX10_takeRead 158 = .ok (.getfield 128, 3) := by decide +kernel
theorem dX10_takeRead_161 : decode cX10_takeRead 161 = .ok (.if_icmp .ge 38, 3) := by decide +kernel
theorem dX10_takeRead_164 : decode cX10_takeRead 164 = .ok (.aload_n 0, 1) := by decide +kernel
theorem dX10_takeRead_165 : decode cX10_takeRead 165 = .ok (.getfield 22, 3) := by decide +kernel
theorem dX10_takeRead_168 : decode cX10_takeRead 168 = .ok (.iconst 1, 1) := by decide +kernel
theorem dX10_takeRead_169 : decode cX10_takeRead 169 = .ok (.iload_n 1, 1) := by decide +kernel
theorem dX10_takeRead_170 : decode cX10_takeRead 170 = .ok (.iadd, 1) := by decide +kernel
theorem dX10_takeRead_171 : decode cX10_takeRead 171 = .ok (.aload_n 0, 1) := by decide +kernel
theorem dX10_takeRead_172 : decode cX10_takeRead 172 = .ok (.getfield 47, 3) := by decide +kernel
theorem dX10_takeRead_175 : decode cX10_takeRead 175 = .ok (.iload_n 1, 1) := by decide +kernel
theorem dX10_takeRead_176 : decode cX10_takeRead 176 = .ok (.iaload, 1) := by decide +kernel
theorem dX10_takeRead_177 : decode cX10_takeRead 177 = .ok (.iastore, 1) := by decide +kernel
theorem dX10_takeRead_178 : decode cX10_takeRead 178 = .ok (.aload_n 0, 1) := by decide +kernel
theorem dX10_takeRead_179 : decode cX10_takeRead 179 = .ok (.getfield 22, 3) := by decide +kernel
theorem dX10_takeRead_182 : decode cX10_takeRead 182 = .ok (.bipush 13, 2) := by decide +kernel
theorem dX10_takeRead_184 : decode cX10_takeRead 184 = .ok (.iload_n 1, 1) := by decide +kernel
theorem dX10_takeRead_185 : decode cX10_takeRead 185 = .ok (.iadd, 1) := by decide +kernel
theorem dX10_takeRead_186 : decode cX10_takeRead 186 = .ok (.aload_n 0, 1) := by decide +kernel
theorem dX10_takeRead_187 : decode cX10_takeRead 187 = .ok (.getfield 50, 3) := by decide +kernel
theorem dX10_takeRead_190 : decode cX10_takeRead 190 = .ok (.iload_n 1, 1) := by decide +kernel
theorem dX10_takeRead_191 : decode cX10_takeRead 191 = .ok (.iaload, 1) := by decide +kernel
theorem dX10_takeRead_192 : decode cX10_takeRead 192 = .ok (.iastore, 1) := by decide +kernel
theorem dX10_takeRead_193 : decode cX10_takeRead 193 = .ok (.iinc 1 1, 3) := by decide +kernel
theorem dX10_takeRead_196 : decode cX10_takeRead 196 = .ok (.goto (-40), 3) := by decide +kernel
theorem dX10_takeRead_199 : decode cX10_takeRead 199 = .ok (.aload_n 0, 1) := by decide +kernel
theorem dX10_takeRead_200 : decode cX10_takeRead 200 = .ok (.getfield 22, 3) := by decide +kernel
theorem dX10_takeRead_203 : decode cX10_takeRead 203 = .ok (.bipush 27, 2) := by decide +kernel
theorem dX10_takeRead_205 : decode cX10_takeRead 205 = .ok (.aload_n 0, 1) := by decide +kernel
theorem dX10_takeRead_206 : decode cX10_takeRead 206 = .ok (.getfield 128, 3) := by decide +kernel
theorem dX10_takeRead_209 : decode cX10_takeRead 209 = .ok (.ifCond .ne 10, 3) := by decide +kernel
theorem dX10_takeRead_212 : decode cX10_takeRead 212 = .ok (.aload_n 0, 1) := by decide +kernel
theorem dX10_takeRead_213 : decode cX10_takeRead 213 = .ok (.getfield 161, 3) := by decide +kernel
theorem dX10_takeRead_216 : decode cX10_takeRead 216 = .ok (.goto 4, 3) := by decide +kernel
theorem dX10_takeRead_219 : decode cX10_takeRead 219 = .ok (.iconst 0, 1) := by decide +kernel
theorem dX10_takeRead_220 : decode cX10_takeRead 220 = .ok (.iastore, 1) := by decide +kernel
theorem dX10_takeRead_221 : decode cX10_takeRead 221 = .ok (.return_, 1) := by decide +kernel
theorem dX10_probate_0 : decode cX10_probate 0 = .ok (.aload_n 0, 1) := by decide +kernel
theorem dX10_probate_1 : decode cX10_probate 1 = .ok (.iconst (-1), 1) := by decide +kernel
theorem dX10_probate_2 : decode cX10_probate 2 = .ok (.putfield 43, 3) := by decide +kernel
theorem dX10_probate_5 : decode cX10_probate 5 = .ok (.aload_n 0, 1) := by decide +kernel
theorem dX10_probate_6 : decode cX10_probate 6 = .ok (.iconst 0, 1) := by decide +kernel
theorem dX10_probate_7 : decode cX10_probate 7 = .ok (.putfield 101, 3) := by decide +kernel
theorem dX10_probate_10 : decode cX10_probate 10 = .ok (.aload_n 0, 1) := by decide +kernel
theorem dX10_probate_11 : decode cX10_probate 11 = .ok (.iconst (-1), 1) := by decide +kernel
theorem dX10_probate_12 : decode cX10_probate 12 = .ok (.putfield 125, 3) := by decide +kernel
theorem dX10_probate_15 : decode cX10_probate 15 = .ok (.aload_n 0, 1) := by decide +kernel
theorem dX10_probate_16 : decode cX10_probate 16 = .ok (.iconst 0, 1) := by decide +kernel
theorem dX10_probate_17 : decode cX10_probate 17 = .ok (.putfield 128, 3) := by decide +kernel
theorem dX10_probate_20 : decode cX10_probate 20 = .ok (.aload_n 0, 1) := by decide +kernel
theorem dX10_probate_21 : decode cX10_probate 21 = .ok (.iconst 0, 1) := by decide +kernel
theorem dX10_probate_22 : decode cX10_probate 22 = .ok (.putfield 131, 3) := by decide +kernel
theorem dX10_probate_25 : decode cX10_probate 25 = .ok (.aload_n 0, 1) := by decide +kernel
theorem dX10_probate_26 : decode cX10_probate 26 = .ok (.iconst 0, 1) := by decide +kernel
theorem dX10_probate_27 : decode cX10_probate 27 = .ok (.putfield 134, 3) := by decide +kernel
theorem dX10_probate_30 : decode cX10_probate 30 = .ok (.iconst 0, 1) := by decide +kernel
theorem dX10_probate_31 : decode cX10_probate 31 = .ok (.istore_n 1, 1) := by decide +kernel
theorem dX10_probate_32 : decode cX10_probate 32 = .ok (.iload_n 1, 1) := by decide +kernel
theorem dX10_probate_33 : decode cX10_probate 33 = .ok (.ifCond .ne 18, 3) := by decide +kernel
theorem dX10_probate_36 : decode cX10_probate 36 = .ok (.aload_n 0, 1) := by decide +kernel
theorem dX10_probate_37 : decode cX10_probate 37 = .ok (.invokevirtual 104, 3) := by decide +kernel
theorem dX10_probate_40 : decode cX10_probate 40 = .ok (.ifCond .lt 11, 3) := by decide +kernel
theorem dX10_probate_43 : decode cX10_probate 43 = .ok (.aload_n 0, 1) := by decide +kernel
theorem dX10_probate_44 : decode cX10_probate 44 = .ok (.invokevirtual 167, 3) := by decide +kernel
theorem dX10_probate_47 : decode cX10_probate 47 = .ok (.istore_n 1, 1) := by decide +kernel
theorem dX10_probate_48 : decode cX10_probate 48 = .ok (.goto (-16), 3) := by decide +kernel
theorem dX10_probate_51 : decode cX10_probate 51 = .ok (.aload_n 0, 1) := by decide +kernel
theorem dX10_probate_52 : decode cX10_probate 52 = .ok (.iconst 0, 1) := by decide +kernel
theorem dX10_probate_53 : decode cX10_probate 53 = .ok (.putfield 97, 3) := by decide +kernel
theorem dX10_probate_56 : decode cX10_probate 56 = .ok (.iload_n 1, 1) := by decide +kernel
theorem dX10_probate_57 : decode cX10_probate 57 = .ok (.ifCond .le 8, 3) := by decide +kernel
theorem dX10_probate_60 : decode cX10_probate 60 = .ok (.bipush (-10), 2) := by decide +kernel
theorem dX10_probate_62 : decode cX10_probate 62 = .ok (.iload_n 1, 1) := by decide +kernel
theorem dX10_probate_63 : decode cX10_probate 63 = .ok (.isub, 1) := by decide +kernel
theorem dX10_probate_64 : decode cX10_probate 64 = .ok (.ireturn, 1) := by decide +kernel
theorem dX10_probate_65 : decode cX10_probate 65 = .ok (.aload_n 0, 1) := by decide +kernel
theorem dX10_probate_66 : decode cX10_probate 66 = .ok (.invokevirtual 170, 3) := by decide +kernel
theorem dX10_probate_69 : decode cX10_probate 69 = .ok (.aload_n 0, 1) := by decide +kernel
theorem dX10_probate_70 : decode cX10_probate 70 = .ok (.iconst 0, 1) := by decide +kernel
theorem dX10_probate_71 : decode cX10_probate 71 = .ok (.putfield 173, 3) := by decide +kernel
theorem dX10_probate_74 : decode cX10_probate 74 = .ok (.aload_n 0, 1) := by decide +kernel
theorem dX10_probate_75 : decode cX10_probate 75 = .ok (.iconst 0, 1) := by decide +kernel
theorem dX10_probate_76 : decode cX10_probate 76 = .ok (.putfield 176, 3) := by decide +kernel
theorem dX10_probate_79 : decode cX10_probate 79 = .ok (.aload_n 0, 1) := by decide +kernel
theorem dX10_probate_80 : decode cX10_probate 80 = .ok (.iconst 0, 1) := by decide +kernel
theorem dX10_probate_81 : decode cX10_probate 81 = .ok (.putfield 179, 3) := by decide +kernel
theorem dX10_probate_84 : decode cX10_probate 84 = .ok (.aload_n 0, 1) := by decide +kernel
theorem dX10_probate_85 : decode cX10_probate 85 = .ok (.getfield 80, 3) := by decide +kernel
theorem dX10_probate_88 : decode cX10_probate 88 = .ok (.iconst 0, 1) := by decide +kernel
theorem dX10_probate_89 : decode cX10_probate 89 = .ok (.iconst 0, 1) := by decide +kernel
theorem dX10_probate_90 : decode cX10_probate 90 = .ok (.bastore, 1) := by decide +kernel
theorem dX10_probate_91 : decode cX10_probate 91 = .ok (.aload_n 0, 1) := by decide +kernel
theorem dX10_probate_92 : decode cX10_probate 92 = .ok (.getfield 80, 3) := by decide +kernel
theorem dX10_probate_95 : decode cX10_probate 95 = .ok (.iconst 1, 1) := by decide +kernel
theorem dX10_probate_96 : decode cX10_probate 96 = .ok (.iconst 0, 1) := by decide +kernel
theorem dX10_probate_97 : decode cX10_probate 97 = .ok (.bastore, 1) := by decide +kernel
theorem dX10_probate_98 : decode cX10_probate 98 = .ok (.aload_n 0, 1) := by decide +kernel
theorem dX10_probate_99 : decode cX10_probate 99 = .ok (.getfield 22, 3) := by decide +kernel
theorem dX10_probate_102 : decode cX10_probate 102 = .ok (.iconst 0, 1) := by decide +kernel
theorem dX10_probate_103 : decode cX10_probate 103 = .ok (.iaload, 1) := by decide +kernel
theorem dX10_probate_104 : decode cX10_probate 104 = .ok (.ireturn, 1) := by decide +kernel
theorem dX10_fault_0 : decode cX10_fault 0 = .ok (.aload_n 0, 1) := by decide +kernel
theorem dX10_fault_1 : decode cX10_fault 1 = .ok (.getfield 43, 3) := by decide +kernel
theorem dX10_fault_4 : decode cX10_fault 4 = .ok (.ireturn, 1) := by decide +kernel
theorem dX10_worthBy_0 : decode cX10_worthBy 0 = .ok (.iload_n 0, 1) := by decide +kernel
theorem dX10_worthBy_1 : decode cX10_worthBy 1 = .ok (.iconst 1, 1) := by decide +kernel
theorem dX10_worthBy_2 : decode cX10_worthBy 2 = .ok (.if_icmp .ne 9, 3) := by decide +kernel
theorem dX10_worthBy_5 : decode cX10_worthBy 5 = .ok (.iload_n 1, 1) := by decide +kernel
theorem dX10_worthBy_6 : decode cX10_worthBy 6 = .ok (.iconst 2, 1) := by decide +kernel
theorem dX10_worthBy_7 : decode cX10_worthBy 7 = .ok (.idiv, 1) := by decide +kernel
theorem dX10_worthBy_8 : decode cX10_worthBy 8 = .ok (.goto 24, 3) := by decide +kernel
theorem dX10_worthBy_11 : decode cX10_worthBy 11 = .ok (.iload_n 0, 1) := by decide +kernel
theorem dX10_worthBy_12 : decode cX10_worthBy 12 = .ok (.iconst 2, 1) := by decide +kernel
theorem dX10_worthBy_13 : decode cX10_worthBy 13 = .ok (.if_icmp .ne 9, 3) := by decide +kernel
theorem dX10_worthBy_16 : decode cX10_worthBy 16 = .ok (.iconst 2, 1) := by decide +kernel
theorem dX10_worthBy_17 : decode cX10_worthBy 17 = .ok (.iload_n 1, 1) := by decide +kernel
theorem dX10_worthBy_18 : decode cX10_worthBy 18 = .ok (.imul, 1) := by decide +kernel
theorem dX10_worthBy_19 : decode cX10_worthBy 19 = .ok (.goto 13, 3) := by decide +kernel
theorem dX10_worthBy_22 : decode cX10_worthBy 22 = .ok (.iload_n 0, 1) := by decide +kernel
theorem dX10_worthBy_23 : decode cX10_worthBy 23 = .ok (.iconst 4, 1) := by decide +kernel
theorem dX10_worthBy_24 : decode cX10_worthBy 24 = .ok (.if_icmp .ne 7, 3) := by decide +kernel
theorem dX10_worthBy_27 : decode cX10_worthBy 27 = .ok (.iconst 0, 1) := by decide +kernel
theorem dX10_worthBy_28 : decode cX10_worthBy 28 = .ok (.goto 4, 3) := by decide +kernel
theorem dX10_worthBy_31 : decode cX10_worthBy 31 = .ok (.iload_n 1, 1) := by decide +kernel
theorem dX10_worthBy_32 : decode cX10_worthBy 32 = .ok (.ireturn, 1) := by decide +kernel
theorem dX10_stingBy_0 : decode cX10_stingBy 0 = .ok (.iload_n 0, 1) := by decide +kernel
theorem dX10_stingBy_1 : decode cX10_stingBy 1 = .ok (.iconst 2, 1) := by decide +kernel
theorem dX10_stingBy_2 : decode cX10_stingBy 2 = .ok (.if_icmp .ne 9, 3) := by decide +kernel
theorem dX10_stingBy_5 : decode cX10_stingBy 5 = .ok (.iconst 2, 1) := by decide +kernel
theorem dX10_stingBy_6 : decode cX10_stingBy 6 = .ok (.iload_n 1, 1) := by decide +kernel
theorem dX10_stingBy_7 : decode cX10_stingBy 7 = .ok (.imul, 1) := by decide +kernel
theorem dX10_stingBy_8 : decode cX10_stingBy 8 = .ok (.goto 13, 3) := by decide +kernel
theorem dX10_stingBy_11 : decode cX10_stingBy 11 = .ok (.iload_n 0, 1) := by decide +kernel
theorem dX10_stingBy_12 : decode cX10_stingBy 12 = .ok (.iconst 4, 1) := by decide +kernel
theorem dX10_stingBy_13 : decode cX10_stingBy 13 = .ok (.if_icmp .ne 7, 3) := by decide +kernel
theorem dX10_stingBy_16 : decode cX10_stingBy 16 = .ok (.iconst 0, 1) := by decide +kernel
theorem dX10_stingBy_17 : decode cX10_stingBy 17 = .ok (.goto 4, 3) := by decide +kernel
theorem dX10_stingBy_20 : decode cX10_stingBy 20 = .ok (.iload_n 1, 1) := by decide +kernel
theorem dX10_stingBy_21 : decode cX10_stingBy 21 = .ok (.ireturn, 1) := by decide +kernel
theorem dX10_worthOf_0 : decode cX10_worthOf 0 = .ok (.aload_n 0, 1) := by decide +kernel
theorem dX10_worthOf_1 : decode cX10_worthOf 1 = .ok (.getfield 22, 3) := by decide +kernel
theorem dX10_worthOf_4 : decode cX10_worthOf 4 = .ok (.iconst 1, 1) := by decide +kernel
theorem dX10_worthOf_5 : decode cX10_worthOf 5 = .ok (.iload_n 1, 1) := by decide +kernel
theorem dX10_worthOf_6 : decode cX10_worthOf 6 = .ok (.iadd, 1) := by decide +kernel
theorem dX10_worthOf_7 : decode cX10_worthOf 7 = .ok (.iaload, 1) := by decide +kernel
theorem dX10_worthOf_8 : decode cX10_worthOf 8 = .ok (.aload_n 0, 1) := by decide +kernel
theorem dX10_worthOf_9 : decode cX10_worthOf 9 = .ok (.getfield 22, 3) := by decide +kernel
theorem dX10_worthOf_12 : decode cX10_worthOf 12 = .ok (.bipush 13, 2) := by decide +kernel
theorem dX10_worthOf_14 : decode cX10_worthOf 14 = .ok (.iload_n 1, 1) := by decide +kernel
theorem dX10_worthOf_15 : decode cX10_worthOf 15 = .ok (.iadd, 1) := by decide +kernel
theorem dX10_worthOf_16 : decode cX10_worthOf 16 = .ok (.iaload, 1) := by decide +kernel
theorem dX10_worthOf_17 : decode cX10_worthOf 17 = .ok (.invokestatic 182, 3) := by decide +kernel
theorem dX10_worthOf_20 : decode cX10_worthOf 20 = .ok (.ireturn, 1) := by decide +kernel
theorem dX10_stingOf_0 : decode cX10_stingOf 0 = .ok (.aload_n 0, 1) := by decide +kernel
theorem dX10_stingOf_1 : decode cX10_stingOf 1 = .ok (.getfield 22, 3) := by decide +kernel
theorem dX10_stingOf_4 : decode cX10_stingOf 4 = .ok (.iconst 1, 1) := by decide +kernel
theorem dX10_stingOf_5 : decode cX10_stingOf 5 = .ok (.iload_n 1, 1) := by decide +kernel
theorem dX10_stingOf_6 : decode cX10_stingOf 6 = .ok (.iadd, 1) := by decide +kernel
theorem dX10_stingOf_7 : decode cX10_stingOf 7 = .ok (.iaload, 1) := by decide +kernel
theorem dX10_stingOf_8 : decode cX10_stingOf 8 = .ok (.aload_n 0, 1) := by decide +kernel
theorem dX10_stingOf_9 : decode cX10_stingOf 9 = .ok (.getfield 22, 3) := by decide +kernel
theorem dX10_stingOf_12 : decode cX10_stingOf 12 = .ok (.bipush 13, 2) := by decide +kernel
theorem dX10_stingOf_14 : decode cX10_stingOf 14 = .ok (.iload_n 1, 1) := by decide +kernel
theorem dX10_stingOf_15 : decode cX10_stingOf 15 = .ok (.iadd, 1) := by decide +kernel
theorem dX10_stingOf_16 : decode cX10_stingOf 16 = .ok (.iaload, 1) := by decide +kernel
theorem dX10_stingOf_17 : decode cX10_stingOf 17 = .ok (.invokestatic 185, 3) := by decide +kernel
theorem dX10_stingOf_20 : decode cX10_stingOf 20 = .ok (.ireturn, 1) := by decide +kernel
theorem dX10_allThick_0 : decode cX10_allThick 0 = .ok (.iconst 0, 1) := by decide +kernel
theorem dX10_allThick_1 : decode cX10_allThick 1 = .ok (.istore_n 1, 1) := by decide +kernel
theorem dX10_allThick_2 : decode cX10_allThick 2 = .ok (.iconst 0, 1) := by decide +kernel
theorem dX10_allThick_3 : decode cX10_allThick 3 = .ok (.istore_n 2, 1) := by decide +kernel
theorem dX10_allThick_4 : decode cX10_allThick 4 = .ok (.iload_n 2, 1) := by decide +kernel
theorem dX10_allThick_5 : decode cX10_allThick 5 = .ok (.aload_n 0, 1) := by decide +kernel
theorem dX10_allThick_6 : decode cX10_allThick 6 = .ok (.getfield 22, 3) := by decide +kernel
theorem dX10_allThick_9 : decode cX10_allThick 9 = .ok (.iconst 0, 1) := by decide +kernel
theorem dX10_allThick_10 : decode cX10_allThick 10 = .ok (.iaload, 1) := by decide +kernel
theorem dX10_allThick_11 : decode cX10_allThick 11 = .ok (.if_icmp .ge 21, 3) := by decide +kernel
theorem dX10_allThick_14 : decode cX10_allThick 14 = .ok (.iload_n 1, 1) := by decide +kernel
theorem dX10_allThick_15 : decode cX10_allThick 15 = .ok (.aload_n 0, 1) := by decide +kernel
theorem dX10_allThick_16 : decode cX10_allThick 16 = .ok (.getfield 22, 3) := by decide +kernel
theorem dX10_allThick_19 : decode cX10_allThick 19 = .ok (.bipush 13, 2) := by decide +kernel
theorem dX10_allThick_21 : decode cX10_allThick 21 = .ok (.iload_n 2, 1) := by decide +kernel
theorem dX10_allThick_22 : decode cX10_allThick 22 = .ok (.iadd, 1) := by decide +kernel
theorem dX10_allThick_23 : decode cX10_allThick 23 = .ok (.iaload, 1) := by decide +kernel
theorem dX10_allThick_24 : decode cX10_allThick 24 = .ok (.iadd, 1) := by decide +kernel
theorem dX10_allThick_25 : decode cX10_allThick 25 = .ok (.istore_n 1, 1) := by decide +kernel
theorem dX10_allThick_26 : decode cX10_allThick 26 = .ok (.iinc 2 1, 3) := by decide +kernel
theorem dX10_allThick_29 : decode cX10_allThick 29 = .ok (.goto (-25), 3) := by decide +kernel
theorem dX10_allThick_32 : decode cX10_allThick 32 = .ok (.iload_n 1, 1) := by decide +kernel
theorem dX10_allThick_33 : decode cX10_allThick 33 = .ok (.ireturn, 1) := by decide +kernel
theorem dX10_cut_0 : decode cX10_cut 0 = .ok (.aload_n 0, 1) := by decide +kernel
theorem dX10_cut_1 : decode cX10_cut 1 = .ok (.invokevirtual 188, 3) := by decide +kernel
theorem dX10_cut_4 : decode cX10_cut 4 = .ok (.iconst 2, 1) := by decide +kernel
theorem dX10_cut_5 : decode cX10_cut 5 = .ok (.idiv, 1) := by decide +kernel
theorem dX10_cut_6 : decode cX10_cut 6 = .ok (.istore_n 1, 1) := by decide +kernel
theorem dX10_cut_7 : decode cX10_cut 7 = .ok (.iconst 0, 1) := by decide +kernel
theorem dX10_cut_8 : decode cX10_cut 8 = .ok (.istore_n 2, 1) := by decide +kernel
theorem dX10_cut_9 : decode cX10_cut 9 = .ok (.iconst 0, 1) := by decide +kernel
theorem dX10_cut_10 : decode cX10_cut 10 = .ok (.istore_n 3, 1) := by decide +kernel
theorem dX10_cut_11 : decode cX10_cut 11 = .ok (.iload_n 3, 1) := by decide +kernel
theorem dX10_cut_12 : decode cX10_cut 12 = .ok (.aload_n 0, 1) := by decide +kernel
theorem dX10_cut_13 : decode cX10_cut 13 = .ok (.getfield 22, 3) := by decide +kernel
theorem dX10_cut_16 : decode cX10_cut 16 = .ok (.iconst 0, 1) := by decide +kernel
theorem dX10_cut_17 : decode cX10_cut 17 = .ok (.iaload, 1) := by decide +kernel
theorem dX10_cut_18 : decode cX10_cut 18 = .ok (.if_icmp .ge 28, 3) := by decide +kernel
theorem dX10_cut_21 : decode cX10_cut 21 = .ok (.iload_n 2, 1) := by decide +kernel
theorem dX10_cut_22 : decode cX10_cut 22 = .ok (.aload_n 0, 1) := by decide +kernel
theorem dX10_cut_23 : decode cX10_cut 23 = .ok (.getfield 22, 3) := by decide +kernel
theorem dX10_cut_26 : decode cX10_cut 26 = .ok (.bipush 13, 2) := by decide +kernel
theorem dX10_cut_28 : decode cX10_cut 28 = .ok (.iload_n 3, 1) := by decide +kernel
theorem dX10_cut_29 : decode cX10_cut 29 = .ok (.iadd, 1) := by decide +kernel
theorem dX10_cut_30 : decode cX10_cut 30 = .ok (.iaload, 1) := by decide +kernel
theorem dX10_cut_31 : decode cX10_cut 31 = .ok (.iadd, 1) := by decide +kernel
theorem dX10_cut_32 : decode cX10_cut 32 = .ok (.istore_n 2, 1) := by decide +kernel
theorem dX10_cut_33 : decode cX10_cut 33 = .ok (.iload_n 2, 1) := by decide +kernel
theorem dX10_cut_34 : decode cX10_cut 34 = .ok (.iload_n 1, 1) := by decide +kernel
theorem dX10_cut_35 : decode cX10_cut 35 = .ok (.if_icmp .le 5, 3) := by decide +kernel
theorem dX10_cut_38 : decode cX10_cut 38 = .ok (.iload_n 3, 1) := by decide +kernel
theorem dX10_cut_39 : decode cX10_cut 39 = .ok (.ireturn, 1) := by decide +kernel
theorem dX10_cut_40 : decode cX10_cut 40 = .ok (.iinc 3 1, 3) := by decide +kernel
theorem dX10_cut_43 : decode cX10_cut 43 = .ok (.goto (-32), 3) := by decide +kernel
theorem dX10_cut_46 : decode cX10_cut 46 = .ok (.iconst (-1), 1) := by decide +kernel
theorem dX10_cut_47 : decode cX10_cut 47 = .ok (.ireturn, 1) := by decide +kernel
theorem dX10_canBe_0 : decode cX10_canBe 0 = .ok (.iconst 1, 1) := by decide +kernel
theorem dX10_canBe_1 : decode cX10_canBe 1 = .ok (.istore_n 2, 1) := by decide +kernel
theorem dX10_canBe_2 : decode cX10_canBe 2 = .ok (.iconst 0, 1) := by decide +kernel
theorem dX10_canBe_3 : decode cX10_canBe 3 = .ok (.istore_n 3, 1) := by decide +kernel
theorem dX10_canBe_4 : decode cX10_canBe 4 = .ok (.iload_n 3, 1) := by decide +kernel
theorem dX10_canBe_5 : decode cX10_canBe 5 = .ok (.aload_n 0, 1) := by decide +kernel
theorem dX10_canBe_6 : decode cX10_canBe 6 = .ok (.getfield 22, 3) := by decide +kernel
theorem dX10_canBe_9 : decode cX10_canBe 9 = .ok (.iconst 0, 1) := by decide +kernel
theorem dX10_canBe_10 : decode cX10_canBe 10 = .ok (.iaload, 1) := by decide +kernel
theorem dX10_canBe_11 : decode cX10_canBe 11 = .ok (.if_icmp .ge 51, 3) := by decide +kernel
theorem dX10_canBe_14 : decode cX10_canBe 14 = .ok (.iload_n 3, 1) := by decide +kernel
theorem dX10_canBe_15 : decode cX10_canBe 15 = .ok (.aload_n 0, 1) := by decide +kernel
theorem dX10_canBe_16 : decode cX10_canBe 16 = .ok (.getfield 16, 3) := by decide +kernel
theorem dX10_canBe_19 : decode cX10_canBe 19 = .ok (.iload_n 1, 1) := by decide +kernel
theorem dX10_canBe_20 : decode cX10_canBe 20 = .ok (.iaload, 1) := by decide +kernel
theorem dX10_canBe_21 : decode cX10_canBe 21 = .ok (.if_icmp .ge 41, 3) := by decide +kernel
theorem dX10_canBe_24 : decode cX10_canBe 24 = .ok (.iload_n 2, 1) := by decide +kernel
theorem dX10_canBe_25 : decode cX10_canBe 25 = .ok (.ifCond .eq 29, 3) := by decide +kernel
theorem dX10_canBe_28 : decode cX10_canBe 28 = .ok (.aload_n 0, 1) := by decide +kernel
theorem dX10_canBe_29 : decode cX10_canBe 29 = .ok (.getfield 19, 3) := by decide +kernel
theorem dX10_canBe_32 : decode cX10_canBe 32 = .ok (.bipush 8, 2) := by decide +kernel
theorem dX10_canBe_34 : decode cX10_canBe 34 = .ok (.iload_n 1, 1) := by decide +kernel
theorem dX10_canBe_35 : decode cX10_canBe 35 = .ok (.imul, 1) := by decide +kernel
theorem dX10_canBe_36 : decode cX10_canBe 36 = .ok (.iload_n 3, 1) := by decide +kernel
theorem dX10_canBe_37 : decode cX10_canBe 37 = .ok (.iadd, 1) := by decide +kernel
theorem dX10_canBe_38 : decode cX10_canBe 38 = .ok (.iaload, 1) := by decide +kernel
theorem dX10_canBe_39 : decode cX10_canBe 39 = .ok (.aload_n 0, 1) := by decide +kernel
theorem dX10_canBe_40 : decode cX10_canBe 40 = .ok (.getfield 22, 3) := by decide +kernel
theorem dX10_canBe_43 : decode cX10_canBe 43 = .ok (.iconst 1, 1) := by decide +kernel
theorem dX10_canBe_44 : decode cX10_canBe 44 = .ok (.iload_n 3, 1) := by decide +kernel
theorem dX10_canBe_45 : decode cX10_canBe 45 = .ok (.iadd, 1) := by decide +kernel
theorem dX10_canBe_46 : decode cX10_canBe 46 = .ok (.iaload, 1) := by decide +kernel
theorem dX10_canBe_47 : decode cX10_canBe 47 = .ok (.if_icmp .ne 7, 3) := by decide +kernel
theorem dX10_canBe_50 : decode cX10_canBe 50 = .ok (.iconst 1, 1) := by decide +kernel
theorem dX10_canBe_51 : decode cX10_canBe 51 = .ok (.goto 4, 3) := by decide +kernel
theorem dX10_canBe_54 : decode cX10_canBe 54 = .ok (.iconst 0, 1) := by decide +kernel
theorem dX10_canBe_55 : decode cX10_canBe 55 = .ok (.istore_n 2, 1) := by decide +kernel
theorem dX10_canBe_56 : decode cX10_canBe 56 = .ok (.iinc 3 1, 3) := by decide +kernel
theorem dX10_canBe_59 : decode cX10_canBe 59 = .ok (.goto (-55), 3) := by decide +kernel
theorem dX10_canBe_62 : decode cX10_canBe 62 = .ok (.iload_n 2, 1) := by decide +kernel
theorem dX10_canBe_63 : decode cX10_canBe 63 = .ok (.ireturn, 1) := by decide +kernel
theorem dX10_canBeOnes_0 : decode cX10_canBeOnes 0 = .ok (.iconst 0, 1) := by decide +kernel
theorem dX10_canBeOnes_1 : decode cX10_canBeOnes 1 = .ok (.istore_n 1, 1) := by decide +kernel
theorem dX10_canBeOnes_2 : decode cX10_canBeOnes 2 = .ok (.iconst 0, 1) := by decide +kernel
theorem dX10_canBeOnes_3 : decode cX10_canBeOnes 3 = .ok (.istore_n 2, 1) := by decide +kernel
theorem dX10_canBeOnes_4 : decode cX10_canBeOnes 4 = .ok (.iload_n 2, 1) := by decide +kernel
theorem dX10_canBeOnes_5 : decode cX10_canBeOnes 5 = .ok (.aload_n 0, 1) := by decide +kernel
theorem dX10_canBeOnes_6 : decode cX10_canBeOnes 6 = .ok (.getfield 164, 3) := by decide +kernel
theorem dX10_canBeOnes_9 : decode cX10_canBeOnes 9 = .ok (.if_icmp .ge 27, 3) := by decide +kernel
theorem dX10_canBeOnes_12 : decode cX10_canBeOnes 12 = .ok (.iload_n 1, 1) := by decide +kernel
theorem dX10_canBeOnes_13 : decode cX10_canBeOnes 13 = .ok (.aload_n 0, 1) := by decide +kernel
theorem dX10_canBeOnes_14 : decode cX10_canBeOnes 14 = .ok (.iload_n 2, 1) := by decide +kernel
theorem dX10_canBeOnes_15 : decode cX10_canBeOnes 15 = .ok (.invokevirtual 191, 3) := by decide +kernel
theorem dX10_canBeOnes_18 : decode cX10_canBeOnes 18 = .ok (.ifCond .eq 9, 3) := by decide +kernel
theorem dX10_canBeOnes_21 : decode cX10_canBeOnes 21 = .ok (.iconst 1, 1) := by decide +kernel
theorem dX10_canBeOnes_22 : decode cX10_canBeOnes 22 = .ok (.iload_n 2, 1) := by decide +kernel
theorem dX10_canBeOnes_23 : decode cX10_canBeOnes 23 = .ok (.ishl, 1) := by decide +kernel
theorem dX10_canBeOnes_24 : decode cX10_canBeOnes 24 = .ok (.goto 4, 3) := by decide +kernel
theorem dX10_canBeOnes_27 : decode cX10_canBeOnes 27 = .ok (.iconst 0, 1) := by decide +kernel
theorem dX10_canBeOnes_28 : decode cX10_canBeOnes 28 = .ok (.ior, 1) := by decide +kernel
theorem dX10_canBeOnes_29 : decode cX10_canBeOnes 29 = .ok (.istore_n 1, 1) := by decide +kernel
theorem dX10_canBeOnes_30 : decode cX10_canBeOnes 30 = .ok (.iinc 2 1, 3) := by decide +kernel
theorem dX10_canBeOnes_33 : decode cX10_canBeOnes 33 = .ok (.goto (-29), 3) := by decide +kernel
theorem dX10_canBeOnes_36 : decode cX10_canBeOnes 36 = .ok (.iload_n 1, 1) := by decide +kernel
theorem dX10_canBeOnes_37 : decode cX10_canBeOnes 37 = .ok (.ireturn, 1) := by decide +kernel
theorem dX10_nextOf_0 : decode cX10_nextOf 0 = .ok (.iconst 0, 1) := by decide +kernel
theorem dX10_nextOf_1 : decode cX10_nextOf 1 = .ok (.istore_n 2, 1) := by decide +kernel
theorem dX10_nextOf_2 : decode cX10_nextOf 2 = .ok (.iconst 0, 1) := by decide +kernel
theorem dX10_nextOf_3 : decode cX10_nextOf 3 = .ok (.istore_n 3, 1) := by decide +kernel
theorem dX10_nextOf_4 : decode cX10_nextOf 4 = .ok (.iload_n 3, 1) := by decide +kernel
theorem dX10_nextOf_5 : decode cX10_nextOf 5 = .ok (.aload_n 0, 1) := by decide +kernel
theorem dX10_nextOf_6 : decode cX10_nextOf 6 = .ok (.getfield 164, 3) := by decide +kernel
theorem dX10_nextOf_9 : decode cX10_nextOf 9 = .ok (.if_icmp .ge 60, 3) := by decide +kernel
theorem dX10_nextOf_12 : decode cX10_nextOf 12 = .ok (.iload_n 2, 1) := by decide +kernel
theorem dX10_nextOf_13 : decode cX10_nextOf 13 = .ok (.aload_n 0, 1) := by decide +kernel
theorem dX10_nextOf_14 : decode cX10_nextOf 14 = .ok (.iload_n 3, 1) := by decide +kernel
theorem dX10_nextOf_15 : decode cX10_nextOf 15 = .ok (.invokevirtual 191, 3) := by decide +kernel
theorem dX10_nextOf_18 : decode cX10_nextOf 18 = .ok (.ifCond .eq 42, 3) := by decide +kernel
theorem dX10_nextOf_21 : decode cX10_nextOf 21 = .ok (.aload_n 0, 1) := by decide +kernel
theorem dX10_nextOf_22 : decode cX10_nextOf 22 = .ok (.getfield 16, 3) := by decide +kernel
theorem dX10_nextOf_25 : decode cX10_nextOf 25 = .ok (.iload_n 3, 1) := by decide +kernel
theorem dX10_nextOf_26 : decode cX10_nextOf 26 = .ok (.iaload, 1) := by decide +kernel
theorem dX10_nextOf_27 : decode cX10_nextOf 27 = .ok (.aload_n 0, 1) := by decide +kernel
theorem dX10_nextOf_28 : decode cX10_nextOf 28 = .ok (.getfield 22, 3) := by decide +kernel
theorem dX10_nextOf_31 : decode cX10_nextOf 31 = .ok (.iconst 0, 1) := by decide +kernel
theorem dX10_nextOf_32 : decode cX10_nextOf 32 = .ok (.iaload, 1) := by decide +kernel
theorem dX10_nextOf_33 : decode cX10_nextOf 33 = .ok (.if_icmp .le 27, 3) := by decide +kernel
theorem dX10_nextOf_36 : decode cX10_nextOf 36 = .ok (.aload_n 0, 1) := by decide +kernel
theorem dX10_nextOf_37 : decode cX10_nextOf 37 = .ok (.getfield 19, 3) := by decide +kernel
theorem dX10_nextOf_40 : decode cX10_nextOf 40 = .ok (.bipush 8, 2) := by decide +kernel
theorem dX10_nextOf_42 : decode cX10_nextOf 42 = .ok (.iload_n 3, 1) := by decide +kernel
theorem dX10_nextOf_43 : decode cX10_nextOf 43 = .ok (.imul, 1) := by decide +kernel
theorem dX10_nextOf_44 : decode cX10_nextOf 44 = .ok (.aload_n 0, 1) := by decide +kernel
theorem dX10_nextOf_45 : decode cX10_nextOf 45 = .ok (.getfield 22, 3) := by decide +kernel
theorem dX10_nextOf_48 : decode cX10_nextOf 48 = .ok (.iconst 0, 1) := by decide +kernel
theorem dX10_nextOf_49 : decode cX10_nextOf 49 = .ok (.iaload, 1) := by decide +kernel
theorem dX10_nextOf_50 : decode cX10_nextOf 50 = .ok (.iadd, 1) := by decide +kernel
theorem dX10_nextOf_51 : decode cX10_nextOf 51 = .ok (.iaload, 1) := by decide +kernel
theorem dX10_nextOf_52 : decode cX10_nextOf 52 = .ok (.iload_n 1, 1) := by decide +kernel
theorem dX10_nextOf_53 : decode cX10_nextOf 53 = .ok (.if_icmp .ne 7, 3) := by decide +kernel
theorem dX10_nextOf_56 : decode cX10_nextOf 56 = .ok (.iconst 1, 1) := by decide +kernel
theorem dX10_nextOf_57 : decode cX10_nextOf 57 = .ok (.goto 4, 3) := by decide +kernel
theorem dX10_nextOf_60 : decode cX10_nextOf 60 = .ok (.iconst 0, 1) := by decide +kernel
theorem dX10_nextOf_61 : decode cX10_nextOf 61 = .ok (.iadd, 1) := by decide +kernel
theorem dX10_nextOf_62 : decode cX10_nextOf 62 = .ok (.istore_n 2, 1) := by decide +kernel
theorem dX10_nextOf_63 : decode cX10_nextOf 63 = .ok (.iinc 3 1, 3) := by decide +kernel
theorem dX10_nextOf_66 : decode cX10_nextOf 66 = .ok (.goto (-62), 3) := by decide +kernel
theorem dX10_nextOf_69 : decode cX10_nextOf 69 = .ok (.iload_n 2, 1) := by decide +kernel
theorem dX10_nextOf_70 : decode cX10_nextOf 70 = .ok (.ireturn, 1) := by decide +kernel
theorem dX10_sure_0 : decode cX10_sure 0 = .ok (.iconst (-1), 1) := by decide +kernel
theorem dX10_sure_1 : decode cX10_sure 1 = .ok (.istore_n 1, 1) := by decide +kernel
theorem dX10_sure_2 : decode cX10_sure 2 = .ok (.iconst 0, 1) := by decide +kernel
theorem dX10_sure_3 : decode cX10_sure 3 = .ok (.istore_n 2, 1) := by decide +kernel
theorem dX10_sure_4 : decode cX10_sure 4 = .ok (.iconst 0, 1) := by decide +kernel
theorem dX10_sure_5 : decode cX10_sure 5 = .ok (.istore_n 3, 1) := by decide +kernel
theorem dX10_sure_6 : decode cX10_sure 6 = .ok (.iload_n 3, 1) := by decide +kernel
theorem dX10_sure_7 : decode cX10_sure 7 = .ok (.iconst 4, 1) := by decide +kernel
theorem dX10_sure_8 : decode cX10_sure 8 = .ok (.if_icmp .gt 39, 3) := by decide +kernel
theorem dX10_sure_11 : decode cX10_sure 11 = .ok (.aload_n 0, 1) := by decide +kernel
theorem dX10_sure_12 : decode cX10_sure 12 = .ok (.iload_n 3, 1) := by decide +kernel
theorem dX10_sure_13 : decode cX10_sure 13 = .ok (.invokevirtual 194, 3) := by decide +kernel
theorem dX10_sure_16 : decode cX10_sure 16 = .ok (.ifCond .le 7, 3) := by decide +kernel
theorem dX10_sure_19 : decode cX10_sure 19 = .ok (.iload_n 3, 1) := by decide +kernel
theorem dX10_sure_20 : decode cX10_sure 20 = .ok (.goto 4, 3) := by decide +kernel
theorem dX10_sure_23 : decode cX10_sure 23 = .ok (.iload_n 1, 1) := by decide +kernel
theorem dX10_sure_24 : decode cX10_sure 24 = .ok (.istore_n 1, 1) := by decide +kernel
theorem dX10_sure_25 : decode cX10_sure 25 = .ok (.iload_n 2, 1) := by decide +kernel
theorem dX10_sure_26 : decode cX10_sure 26 = .ok (.aload_n 0, 1) := by decide +kernel
theorem dX10_sure_27 : decode cX10_sure 27 = .ok (.iload_n 3, 1) := by decide +kernel
theorem dX10_sure_28 : decode cX10_sure 28 = .ok (.invokevirtual 194, 3) := by decide +kernel
theorem dX10_sure_31 : decode cX10_sure 31 = .ok (.ifCond .le 7, 3) := by decide +kernel
theorem dX10_sure_34 : decode cX10_sure 34 = .ok (.iconst 1, 1) := by decide +kernel
theorem dX10_sure_35 : decode cX10_sure 35 = .ok (.goto 4, 3) := by decide +kernel
theorem dX10_sure_38 : decode cX10_sure 38 = .ok (.iconst 0, 1) := by decide +kernel
theorem dX10_sure_39 : decode cX10_sure 39 = .ok (.iadd, 1) := by decide +kernel
theorem dX10_sure_40 : decode cX10_sure 40 = .ok (.istore_n 2, 1) := by decide +kernel
theorem dX10_sure_41 : decode cX10_sure 41 = .ok (.iinc 3 1, 3) := by decide +kernel
theorem dX10_sure_44 : decode cX10_sure 44 = .ok (.goto (-38), 3) := by decide +kernel
theorem dX10_sure_47 : decode cX10_sure 47 = .ok (.iload_n 2, 1) := by decide +kernel
theorem dX10_sure_48 : decode cX10_sure 48 = .ok (.iconst 1, 1) := by decide +kernel
theorem dX10_sure_49 : decode cX10_sure 49 = .ok (.if_icmp .ne 7, 3) := by decide +kernel
theorem dX10_sure_52 : decode cX10_sure 52 = .ok (.iload_n 1, 1) := by decide +kernel
theorem dX10_sure_53 : decode cX10_sure 53 = .ok (.goto 4, 3) := by decide +kernel
theorem dX10_sure_56 : decode cX10_sure 56 = .ok (.iconst (-1), 1) := by decide +kernel
theorem dX10_sure_57 : decode cX10_sure 57 = .ok (.ireturn, 1) := by decide +kernel
theorem dX10_law_0 : decode cX10_law 0 = .ok (.iconst 0, 1) := by decide +kernel
theorem dX10_law_1 : decode cX10_law 1 = .ok (.istore_n 1, 1) := by decide +kernel
theorem dX10_law_2 : decode cX10_law 2 = .ok (.iconst 1, 1) := by decide +kernel
theorem dX10_law_3 : decode cX10_law 3 = .ok (.istore_n 2, 1) := by decide +kernel
theorem dX10_law_4 : decode cX10_law 4 = .ok (.iload_n 2, 1) := by decide +kernel
theorem dX10_law_5 : decode cX10_law 5 = .ok (.aload_n 0, 1) := by decide +kernel
theorem dX10_law_6 : decode cX10_law 6 = .ok (.getfield 22, 3) := by decide +kernel
theorem dX10_law_9 : decode cX10_law 9 = .ok (.iconst 0, 1) := by decide +kernel
theorem dX10_law_10 : decode cX10_law 10 = .ok (.iaload, 1) := by decide +kernel
theorem dX10_law_11 : decode cX10_law 11 = .ok (.if_icmp .ge 35, 3) := by decide +kernel
theorem dX10_law_14 : decode cX10_law 14 = .ok (.iload_n 1, 1) := by decide +kernel
theorem dX10_law_15 : decode cX10_law 15 = .ok (.iconst 1, 1) := by decide +kernel
theorem dX10_law_16 : decode cX10_law 16 = .ok (.iconst 5, 1) := by decide +kernel
theorem dX10_law_17 : decode cX10_law 17 = .ok (.aload_n 0, 1) := by decide +kernel
theorem dX10_law_18 : decode cX10_law 18 = .ok (.getfield 22, 3) := by decide +kernel
theorem dX10_law_21 : decode cX10_law 21 = .ok (.iconst 1, 1) := by decide +kernel
theorem dX10_law_22 : decode cX10_law 22 = .ok (.iload_n 2, 1) := by decide +kernel
theorem dX10_law_23 : decode cX10_law 23 = .ok (.iadd, 1) := by decide +kernel
theorem dX10_law_24 : decode cX10_law 24 = .ok (.iconst 1, 1) := by decide +kernel
theorem dX10_law_25 : decode cX10_law 25 = .ok (.isub, 1) := by decide +kernel
theorem dX10_law_26 : decode cX10_law 26 = .ok (.iaload, 1) := by decide +kernel
theorem dX10_law_27 : decode cX10_law 27 = .ok (.imul, 1) := by decide +kernel
theorem dX10_law_28 : decode cX10_law 28 = .ok (.aload_n 0, 1) := by decide +kernel
theorem dX10_law_29 : decode cX10_law 29 = .ok (.getfield 22, 3) := by decide +kernel
theorem dX10_law_32 : decode cX10_law 32 = .ok (.iconst 1, 1) := by decide +kernel
theorem dX10_law_33 : decode cX10_law 33 = .ok (.iload_n 2, 1) := by decide +kernel
theorem dX10_law_34 : decode cX10_law 34 = .ok (.iadd, 1) := by decide +kernel
theorem dX10_law_35 : decode cX10_law 35 = .ok (.iaload, 1) := by decide +kernel
theorem dX10_law_36 : decode cX10_law 36 = .ok (.iadd, 1) := by decide +kernel
theorem dX10_law_37 : decode cX10_law 37 = .ok (.ishl, 1) := by decide +kernel
theorem dX10_law_38 : decode cX10_law 38 = .ok (.ior, 1) := by decide +kernel
theorem dX10_law_39 : decode cX10_law 39 = .ok (.istore_n 1, 1) := by decide +kernel
theorem dX10_law_40 : decode cX10_law 40 = .ok (.iinc 2 1, 3) := by decide +kernel
theorem dX10_law_43 : decode cX10_law 43 = .ok (.goto (-39), 3) := by decide +kernel
theorem dX10_law_46 : decode cX10_law 46 = .ok (.iload_n 1, 1) := by decide +kernel
theorem dX10_law_47 : decode cX10_law 47 = .ok (.ireturn, 1) := by decide +kernel
theorem dX10_envyBy_0 : decode cX10_envyBy 0 = .ok (.iconst (-1), 1) := by decide +kernel
theorem dX10_envyBy_1 : decode cX10_envyBy 1 = .ok (.istore_n 3, 1) := by decide +kernel
theorem dX10_envyBy_2 : decode cX10_envyBy 2 = .ok (.ldc 197, 2) := by decide +kernel
theorem dX10_envyBy_4 : decode cX10_envyBy 4 = .ok (.istore 4, 2) := by decide +kernel
theorem dX10_envyBy_6 : decode cX10_envyBy 6 = .ok (.iconst 0, 1) := by decide +kernel
theorem dX10_envyBy_7 : decode cX10_envyBy 7 = .ok (.istore 5, 2) := by decide +kernel
theorem dX10_envyBy_9 : decode cX10_envyBy 9 = .ok (.iload 5, 2) := by decide +kernel
theorem dX10_envyBy_11 : decode cX10_envyBy 11 = .ok (.aload_n 0, 1) := by decide +kernel
theorem dX10_envyBy_12 : decode cX10_envyBy 12 = .ok (.getfield 91, 3) := by decide +kernel
theorem dX10_envyBy_15 : decode cX10_envyBy 15 = .ok (.if_icmp .ge 54, 3) := by decide +kernel
theorem dX10_envyBy_18 : decode cX10_envyBy 18 = .ok (.aload_n 1, 1) := by decide +kernel
theorem dX10_envyBy_19 : decode cX10_envyBy 19 = .ok (.iload_n 2, 1) := by decide +kernel
theorem dX10_envyBy_20 : decode cX10_envyBy 20 = .ok (.iload 5, 2) := by decide +kernel
theorem dX10_envyBy_22 : decode cX10_envyBy 22 = .ok (.iadd, 1) := by decide +kernel
theorem dX10_envyBy_23 : decode cX10_envyBy 23 = .ok (.iaload, 1) := by decide +kernel
theorem dX10_envyBy_24 : decode cX10_envyBy 24 = .ok (.iload_n 3, 1) := by decide +kernel
theorem dX10_envyBy_25 : decode cX10_envyBy 25 = .ok (.if_icmp .le 12, 3) := by decide +kernel
theorem dX10_envyBy_28 : decode cX10_envyBy 28 = .ok (.aload_n 1, 1) := by decide +kernel
theorem dX10_envyBy_29 : decode cX10_envyBy 29 = .ok (.iload_n 2, 1) := by decide +kernel
theorem dX10_envyBy_30 : decode cX10_envyBy 30 = .ok (.iload 5, 2) := by decide +kernel
theorem dX10_envyBy_32 : decode cX10_envyBy 32 = .ok (.iadd, 1) := by decide +kernel
theorem dX10_envyBy_33 : decode cX10_envyBy 33 = .ok (.iaload, 1) := by decide +kernel
theorem dX10_envyBy_34 : decode cX10_envyBy 34 = .ok (.goto 4, 3) := by decide +kernel
theorem dX10_envyBy_37 : decode cX10_envyBy 37 = .ok (.iload_n 3, 1) := by decide +kernel
theorem dX10_envyBy_38 : decode cX10_envyBy 38 = .ok (.istore_n 3, 1) := by decide +kernel
theorem dX10_envyBy_39 : decode cX10_envyBy 39 = .ok (.aload_n 1, 1) := by decide +kernel
theorem dX10_envyBy_40 : decode cX10_envyBy 40 = .ok (.iload_n 2, 1) := by decide +kernel
theorem dX10_envyBy_41 : decode cX10_envyBy 41 = .ok (.iload 5, 2) := by decide +kernel
theorem dX10_envyBy_43 : decode cX10_envyBy 43 = .ok (.iadd, 1) := by decide +kernel
theorem dX10_envyBy_44 : decode cX10_envyBy 44 = .ok (.iaload, 1) := by decide +kernel
theorem dX10_envyBy_45 : decode cX10_envyBy 45 = .ok (.iload 4, 2) := by decide +kernel
theorem dX10_envyBy_47 : decode cX10_envyBy 47 = .ok (.if_icmp .ge 12, 3) := by decide +kernel
theorem dX10_envyBy_50 : decode cX10_envyBy 50 = .ok (.aload_n 1, 1) := by decide +kernel
theorem dX10_envyBy_51 : decode cX10_envyBy 51 = .ok (.iload_n 2, 1) := by decide +kernel
theorem dX10_envyBy_52 : decode cX10_envyBy 52 = .ok (.iload 5, 2) := by decide +kernel
theorem dX10_envyBy_54 : decode cX10_envyBy 54 = .ok (.iadd, 1) := by decide +kernel
theorem dX10_envyBy_55 : decode cX10_envyBy 55 = .ok (.iaload, 1) := by decide +kernel
theorem dX10_envyBy_56 : decode cX10_envyBy 56 = .ok (.goto 5, 3) := by decide +kernel
theorem dX10_envyBy_59 : decode cX10_envyBy 59 = .ok (.iload 4, 2) := by decide +kernel
theorem dX10_envyBy_61 : decode cX10_envyBy 61 = .ok (.istore 4, 2) := by decide +kernel
theorem dX10_envyBy_63 : decode cX10_envyBy 63 = .ok (.iinc 5 1, 3) := by decide +kernel
theorem dX10_envyBy_66 : decode cX10_envyBy 66 = .ok (.goto (-57), 3) := by decide +kernel
theorem dX10_envyBy_69 : decode cX10_envyBy 69 = .ok (.aload_n 0, 1) := by decide +kernel
theorem dX10_envyBy_70 : decode cX10_envyBy 70 = .ok (.getfield 91, 3) := by decide +kernel
theorem dX10_envyBy_73 : decode cX10_envyBy 73 = .ok (.ifCond .ne 7, 3) := by decide +kernel
theorem dX10_envyBy_76 : decode cX10_envyBy 76 = .ok (.iconst 0, 1) := by decide +kernel
theorem dX10_envyBy_77 : decode cX10_envyBy 77 = .ok (.goto 7, 3) := by decide +kernel
theorem dX10_envyBy_80 : decode cX10_envyBy 80 = .ok (.iload_n 3, 1) := by decide +kernel
theorem dX10_envyBy_81 : decode cX10_envyBy 81 = .ok (.iload 4, 2) := by decide +kernel
theorem dX10_envyBy_83 : decode cX10_envyBy 83 = .ok (.isub, 1) := by decide +kernel
theorem dX10_envyBy_84 : decode cX10_envyBy 84 = .ok (.ireturn, 1) := by decide +kernel
theorem dX10_weeps_0 : decode cX10_weeps 0 = .ok (.iconst (-1), 1) := by decide +kernel
theorem dX10_weeps_1 : decode cX10_weeps 1 = .ok (.istore_n 1, 1) := by decide +kernel
theorem dX10_weeps_2 : decode cX10_weeps 2 = .ok (.iconst 0, 1) := by decide +kernel
theorem dX10_weeps_3 : decode cX10_weeps 3 = .ok (.istore_n 2, 1) := by decide +kernel
theorem dX10_weeps_4 : decode cX10_weeps 4 = .ok (.iload_n 2, 1) := by decide +kernel
theorem dX10_weeps_5 : decode cX10_weeps 5 = .ok (.aload_n 0, 1) := by decide +kernel
theorem dX10_weeps_6 : decode cX10_weeps 6 = .ok (.getfield 91, 3) := by decide +kernel
theorem dX10_weeps_9 : decode cX10_weeps 9 = .ok (.if_icmp .ge 40, 3) := by decide +kernel
theorem dX10_weeps_12 : decode cX10_weeps 12 = .ok (.iload_n 1, 1) := by decide +kernel
theorem dX10_weeps_13 : decode cX10_weeps 13 = .ok (.ifCond .lt 24, 3) := by decide +kernel
theorem dX10_weeps_16 : decode cX10_weeps 16 = .ok (.aload_n 0, 1) := by decide +kernel
theorem dX10_weeps_17 : decode cX10_weeps 17 = .ok (.getfield 22, 3) := by decide +kernel
theorem dX10_weeps_20 : decode cX10_weeps 20 = .ok (.bipush 34, 2) := by decide +kernel
theorem dX10_weeps_22 : decode cX10_weeps 22 = .ok (.iload_n 2, 1) := by decide +kernel
theorem dX10_weeps_23 : decode cX10_weeps 23 = .ok (.iadd, 1) := by decide +kernel
theorem dX10_weeps_24 : decode cX10_weeps 24 = .ok (.iaload, 1) := by decide +kernel
theorem dX10_weeps_25 : decode cX10_weeps 25 = .ok (.aload_n 0, 1) := by decide +kernel
theorem dX10_weeps_26 : decode cX10_weeps 26 = .ok (.getfield 22, 3) := by decide +kernel
theorem dX10_weeps_29 : decode cX10_weeps 29 = .ok (.bipush 34, 2) := by decide +kernel
theorem dX10_weeps_31 : decode cX10_weeps 31 = .ok (.iload_n 1, 1) := by decide +kernel
theorem dX10_weeps_32 : decode cX10_weeps 32 = .ok (.iadd, 1) := by decide +kernel
theorem dX10_weeps_33 : decode cX10_weeps 33 = .ok (.iaload, 1) := by decide +kernel
theorem dX10_weeps_34 : decode cX10_weeps 34 = .ok (.if_icmp .le 7, 3) := by decide +kernel
theorem dX10_weeps_37 : decode cX10_weeps 37 = .ok (.iload_n 2, 1) := by decide +kernel
theorem dX10_weeps_38 : decode cX10_weeps 38 = .ok (.goto 4, 3) := by decide +kernel
theorem dX10_weeps_41 : decode cX10_weeps 41 = .ok (.iload_n 1, 1) := by decide +kernel
theorem dX10_weeps_42 : decode cX10_weeps 42 = .ok (.istore_n 1, 1) := by decide +kernel
theorem dX10_weeps_43 : decode cX10_weeps 43 = .ok (.iinc 2 1, 3) := by decide +kernel
theorem dX10_weeps_46 : decode cX10_weeps 46 = .ok (.goto (-42), 3) := by decide +kernel
theorem dX10_weeps_49 : decode cX10_weeps 49 = .ok (.iload_n 1, 1) := by decide +kernel
theorem dX10_weeps_50 : decode cX10_weeps 50 = .ok (.ireturn, 1) := by decide +kernel
theorem dX10_dryIn_0 : decode cX10_dryIn 0 = .ok (.iconst 0, 1) := by decide +kernel
theorem dX10_dryIn_1 : decode cX10_dryIn 1 = .ok (.istore_n 1, 1) := by decide +kernel
theorem dX10_dryIn_2 : decode cX10_dryIn 2 = .ok (.iconst 0, 1) := by decide +kernel
theorem dX10_dryIn_3 : decode cX10_dryIn 3 = .ok (.istore_n 2, 1) := by decide +kernel
theorem dX10_dryIn_4 : decode cX10_dryIn 4 = .ok (.iload_n 2, 1) := by decide +kernel
theorem dX10_dryIn_5 : decode cX10_dryIn 5 = .ok (.aload_n 0, 1) := by decide +kernel
theorem dX10_dryIn_6 : decode cX10_dryIn 6 = .ok (.getfield 91, 3) := by decide +kernel
theorem dX10_dryIn_9 : decode cX10_dryIn 9 = .ok (.if_icmp .ge 46, 3) := by decide +kernel
theorem dX10_dryIn_12 : decode cX10_dryIn 12 = .ok (.aload_n 0, 1) := by decide +kernel
theorem dX10_dryIn_13 : decode cX10_dryIn 13 = .ok (.getfield 22, 3) := by decide +kernel
theorem dX10_dryIn_16 : decode cX10_dryIn 16 = .ok (.bipush 34, 2) := by decide +kernel
theorem dX10_dryIn_18 : decode cX10_dryIn 18 = .ok (.iload_n 2, 1) := by decide +kernel
theorem dX10_dryIn_19 : decode cX10_dryIn 19 = .ok (.iadd, 1) := by decide +kernel
theorem dX10_dryIn_20 : decode cX10_dryIn 20 = .ok (.iaload, 1) := by decide +kernel
theorem dX10_dryIn_21 : decode cX10_dryIn 21 = .ok (.aload_n 0, 1) := by decide +kernel
theorem dX10_dryIn_22 : decode cX10_dryIn 22 = .ok (.getfield 13, 3) := by decide +kernel
theorem dX10_dryIn_25 : decode cX10_dryIn 25 = .ok (.iload_n 2, 1) := by decide +kernel
theorem dX10_dryIn_26 : decode cX10_dryIn 26 = .ok (.iaload, 1) := by decide +kernel
theorem dX10_dryIn_27 : decode cX10_dryIn 27 = .ok (.iadd, 1) := by decide +kernel
theorem dX10_dryIn_28 : decode cX10_dryIn 28 = .ok (.iconst 1, 1) := by decide +kernel
end
section
theorem dX10_dryIn_29 : decode cX10_dryIn 29 = .ok (.isub, 1) := by decide +kernel
theorem dX10_dryIn_30 : decode cX10_dryIn 30 = .ok (.aload_n 0, 1) := by decide +kernel
theorem dX10_dryIn_31 : decode cX10_dryIn 31 = .ok (.getfield 13, 3) := by decide +kernel
theorem dX10_dryIn_34 : decode cX10_dryIn 34 = .ok (.iload_n 2, 1) := by decide +kernel
theorem dX10_dryIn_35 : decode cX10_dryIn 35 = .ok (.iaload, 1) := by decide +kernel
theorem dX10_dryIn_36 : decode cX10_dryIn 36 = .ok (.idiv, 1) := by decide +kernel
theorem dX10_dryIn_37 : decode cX10_dryIn 37 = .ok (.istore_n 3, 1) := by decide +kernel
theorem dX10_dryIn_38 : decode cX10_dryIn 38 = .ok (.iload_n 3, 1) := by decide +kernel
theorem dX10_dryIn_39 : decode cX10_dryIn 39 = .ok (.iload_n 1, 1) := by decide +kernel
theorem dX10_dryIn_40 : decode cX10_dryIn 40 = .ok (.if_icmp .le 7, 3) := by decide +kernel
theorem dX10_dryIn_43 : decode cX10_dryIn 43 = .ok (.iload_n 3, 1) := by decide +kernel
theorem dX10_dryIn_44 : decode cX10_dryIn 44 = .ok (.goto 4, 3) := by decide +kernel
theorem dX10_dryIn_47 : decode cX10_dryIn 47 = .ok (.iload_n 1, 1) := by decide +kernel
theorem dX10_dryIn_48 : decode cX10_dryIn 48 = .ok (.istore_n 1, 1) := by decide +kernel
theorem dX10_dryIn_49 : decode cX10_dryIn 49 = .ok (.iinc 2 1, 3) := by decide +kernel
theorem dX10_dryIn_52 : decode cX10_dryIn 52 = .ok (.goto (-48), 3) := by decide +kernel
theorem dX10_dryIn_55 : decode cX10_dryIn 55 = .ok (.iload_n 1, 1) := by decide +kernel
theorem dX10_dryIn_56 : decode cX10_dryIn 56 = .ok (.ireturn, 1) := by decide +kernel
theorem dX10_told_0 : decode cX10_told 0 = .ok (.iload_n 1, 1) := by decide +kernel
theorem dX10_told_1 : decode cX10_told 1 = .ok (.tableswitch 223 0 19 #[95, 108, 115, 120, 125, 130, 138, 146, 154, 159, 164, 169, 174, 179, 190, 195, 200, 208, 213, 218], 95) := by decide +kernel
theorem dX10_told_96 : decode cX10_told 96 = .ok (.aload_n 0, 1) := by decide +kernel
theorem dX10_told_97 : decode cX10_told 97 = .ok (.getfield 157, 3) := by decide +kernel
theorem dX10_told_100 : decode cX10_told 100 = .ok (.ifCond .eq 7, 3) := by decide +kernel
theorem dX10_told_103 : decode cX10_told 103 = .ok (.iconst 1, 1) := by decide +kernel
theorem dX10_told_104 : decode cX10_told 104 = .ok (.goto 4, 3) := by decide +kernel
theorem dX10_told_107 : decode cX10_told 107 = .ok (.iconst 0, 1) := by decide +kernel
theorem dX10_told_108 : decode cX10_told 108 = .ok (.ireturn, 1) := by decide +kernel
theorem dX10_told_109 : decode cX10_told 109 = .ok (.aload_n 0, 1) := by decide +kernel
theorem dX10_told_110 : decode cX10_told 110 = .ok (.getfield 22, 3) := by decide +kernel
theorem dX10_told_113 : decode cX10_told 113 = .ok (.iconst 0, 1) := by decide +kernel
theorem dX10_told_114 : decode cX10_told 114 = .ok (.iaload, 1) := by decide +kernel
theorem dX10_told_115 : decode cX10_told 115 = .ok (.ireturn, 1) := by decide +kernel
theorem dX10_told_116 : decode cX10_told 116 = .ok (.aload_n 0, 1) := by decide +kernel
theorem dX10_told_117 : decode cX10_told 117 = .ok (.getfield 91, 3) := by decide +kernel
theorem dX10_told_120 : decode cX10_told 120 = .ok (.ireturn, 1) := by decide +kernel
theorem dX10_told_121 : decode cX10_told 121 = .ok (.aload_n 0, 1) := by decide +kernel
theorem dX10_told_122 : decode cX10_told 122 = .ok (.getfield 164, 3) := by decide +kernel
theorem dX10_told_125 : decode cX10_told 125 = .ok (.ireturn, 1) := by decide +kernel
theorem dX10_told_126 : decode cX10_told 126 = .ok (.aload_n 0, 1) := by decide +kernel
theorem dX10_told_127 : decode cX10_told 127 = .ok (.getfield 97, 3) := by decide +kernel
theorem dX10_told_130 : decode cX10_told 130 = .ok (.ireturn, 1) := by decide +kernel
theorem dX10_told_131 : decode cX10_told 131 = .ok (.aload_n 0, 1) := by decide +kernel
theorem dX10_told_132 : decode cX10_told 132 = .ok (.getfield 22, 3) := by decide +kernel
theorem dX10_told_135 : decode cX10_told 135 = .ok (.bipush 25, 2) := by decide +kernel
theorem dX10_told_137 : decode cX10_told 137 = .ok (.iaload, 1) := by decide +kernel
theorem dX10_told_138 : decode cX10_told 138 = .ok (.ireturn, 1) := by decide +kernel
theorem dX10_told_139 : decode cX10_told 139 = .ok (.aload_n 0, 1) := by decide +kernel
theorem dX10_told_140 : decode cX10_told 140 = .ok (.getfield 22, 3) := by decide +kernel
theorem dX10_told_143 : decode cX10_told 143 = .ok (.bipush 26, 2) := by decide +kernel
theorem dX10_told_145 : decode cX10_told 145 = .ok (.iaload, 1) := by decide +kernel
theorem dX10_told_146 : decode cX10_told 146 = .ok (.ireturn, 1) := by decide +kernel
theorem dX10_told_147 : decode cX10_told 147 = .ok (.aload_n 0, 1) := by decide +kernel
theorem dX10_told_148 : decode cX10_told 148 = .ok (.getfield 22, 3) := by decide +kernel
theorem dX10_told_151 : decode cX10_told 151 = .ok (.bipush 27, 2) := by decide +kernel
theorem dX10_told_153 : decode cX10_told 153 = .ok (.iaload, 1) := by decide +kernel
theorem dX10_told_154 : decode cX10_told 154 = .ok (.ireturn, 1) := by decide +kernel
theorem dX10_told_155 : decode cX10_told 155 = .ok (.aload_n 0, 1) := by decide +kernel
theorem dX10_told_156 : decode cX10_told 156 = .ok (.invokevirtual 188, 3) := by decide +kernel
theorem dX10_told_159 : decode cX10_told 159 = .ok (.ireturn, 1) := by decide +kernel
theorem dX10_told_160 : decode cX10_told 160 = .ok (.aload_n 0, 1) := by decide +kernel
theorem dX10_told_161 : decode cX10_told 161 = .ok (.invokevirtual 198, 3) := by decide +kernel
theorem dX10_told_164 : decode cX10_told 164 = .ok (.ireturn, 1) := by decide +kernel
theorem dX10_told_165 : decode cX10_told 165 = .ok (.aload_n 0, 1) := by decide +kernel
theorem dX10_told_166 : decode cX10_told 166 = .ok (.invokevirtual 201, 3) := by decide +kernel
theorem dX10_told_169 : decode cX10_told 169 = .ok (.ireturn, 1) := by decide +kernel
theorem dX10_told_170 : decode cX10_told 170 = .ok (.aload_n 0, 1) := by decide +kernel
theorem dX10_told_171 : decode cX10_told 171 = .ok (.invokevirtual 204, 3) := by decide +kernel
theorem dX10_told_174 : decode cX10_told 174 = .ok (.ireturn, 1) := by decide +kernel
theorem dX10_told_175 : decode cX10_told 175 = .ok (.aload_n 0, 1) := by decide +kernel
theorem dX10_told_176 : decode cX10_told 176 = .ok (.invokevirtual 207, 3) := by decide +kernel
theorem dX10_told_179 : decode cX10_told 179 = .ok (.ireturn, 1) := by decide +kernel
theorem dX10_told_180 : decode cX10_told 180 = .ok (.aload_n 0, 1) := by decide +kernel
theorem dX10_told_181 : decode cX10_told 181 = .ok (.aload_n 0, 1) := by decide +kernel
theorem dX10_told_182 : decode cX10_told 182 = .ok (.getfield 22, 3) := by decide +kernel
theorem dX10_told_185 : decode cX10_told 185 = .ok (.bipush 29, 2) := by decide +kernel
theorem dX10_told_187 : decode cX10_told 187 = .ok (.invokevirtual 210, 3) := by decide +kernel
theorem dX10_told_190 : decode cX10_told 190 = .ok (.ireturn, 1) := by decide +kernel
theorem dX10_told_191 : decode cX10_told 191 = .ok (.aload_n 0, 1) := by decide +kernel
theorem dX10_told_192 : decode cX10_told 192 = .ok (.invokevirtual 214, 3) := by decide +kernel
theorem dX10_told_195 : decode cX10_told 195 = .ok (.ireturn, 1) := by decide +kernel
theorem dX10_told_196 : decode cX10_told 196 = .ok (.aload_n 0, 1) := by decide +kernel
theorem dX10_told_197 : decode cX10_told 197 = .ok (.invokevirtual 217, 3) := by decide +kernel
theorem dX10_told_200 : decode cX10_told 200 = .ok (.ireturn, 1) := by decide +kernel
theorem dX10_told_201 : decode cX10_told 201 = .ok (.aload_n 0, 1) := by decide +kernel
theorem dX10_told_202 : decode cX10_told 202 = .ok (.getfield 22, 3) := by decide +kernel
theorem dX10_told_205 : decode cX10_told 205 = .ok (.bipush 44, 2) := by decide +kernel
theorem dX10_told_207 : decode cX10_told 207 = .ok (.iaload, 1) := by decide +kernel
theorem dX10_told_208 : decode cX10_told 208 = .ok (.ireturn, 1) := by decide +kernel
theorem dX10_told_209 : decode cX10_told 209 = .ok (.aload_n 0, 1) := by decide +kernel
theorem dX10_told_210 : decode cX10_told 210 = .ok (.getfield 173, 3) := by decide +kernel
theorem dX10_told_213 : decode cX10_told 213 = .ok (.ireturn, 1) := by decide +kernel
theorem dX10_told_214 : decode cX10_told 214 = .ok (.aload_n 0, 1) := by decide +kernel
theorem dX10_told_215 : decode cX10_told 215 = .ok (.getfield 176, 3) := by decide +kernel
theorem dX10_told_218 : decode cX10_told 218 = .ok (.ireturn, 1) := by decide +kernel
theorem dX10_told_219 : decode cX10_told 219 = .ok (.aload_n 0, 1) := by decide +kernel
theorem dX10_told_220 : decode cX10_told 220 = .ok (.getfield 179, 3) := by decide +kernel
theorem dX10_told_223 : decode cX10_told 223 = .ok (.ireturn, 1) := by decide +kernel
theorem dX10_told_224 : decode cX10_told 224 = .ok (.ldc 96, 2) := by decide +kernel
theorem dX10_told_226 : decode cX10_told 226 = .ok (.ireturn, 1) := by decide +kernel
theorem dX10_layer_0 : decode cX10_layer 0 = .ok (.aload_n 0, 1) := by decide +kernel
theorem dX10_layer_1 : decode cX10_layer 1 = .ok (.iload_n 1, 1) := by decide +kernel
theorem dX10_layer_2 : decode cX10_layer 2 = .ok (.invokevirtual 220, 3) := by decide +kernel
theorem dX10_layer_5 : decode cX10_layer 5 = .ok (.ifCond .ne 6, 3) := by decide +kernel
theorem dX10_layer_8 : decode cX10_layer 8 = .ok (.ldc 223, 2) := by decide +kernel
theorem dX10_layer_10 : decode cX10_layer 10 = .ok (.ireturn, 1) := by decide +kernel
theorem dX10_layer_11 : decode cX10_layer 11 = .ok (.iload_n 2, 1) := by decide +kernel
theorem dX10_layer_12 : decode cX10_layer 12 = .ok (.ifCond .ne 14, 3) := by decide +kernel
theorem dX10_layer_15 : decode cX10_layer 15 = .ok (.aload_n 0, 1) := by decide +kernel
theorem dX10_layer_16 : decode cX10_layer 16 = .ok (.getfield 22, 3) := by decide +kernel
theorem dX10_layer_19 : decode cX10_layer 19 = .ok (.iconst 1, 1) := by decide +kernel
theorem dX10_layer_20 : decode cX10_layer 20 = .ok (.iload_n 1, 1) := by decide +kernel
theorem dX10_layer_21 : decode cX10_layer 21 = .ok (.iadd, 1) := by decide +kernel
theorem dX10_layer_22 : decode cX10_layer 22 = .ok (.iaload, 1) := by decide +kernel
theorem dX10_layer_23 : decode cX10_layer 23 = .ok (.goto 48, 3) := by decide +kernel
theorem dX10_layer_26 : decode cX10_layer 26 = .ok (.iload_n 2, 1) := by decide +kernel
theorem dX10_layer_27 : decode cX10_layer 27 = .ok (.iconst 1, 1) := by decide +kernel
theorem dX10_layer_28 : decode cX10_layer 28 = .ok (.if_icmp .ne 15, 3) := by decide +kernel
theorem dX10_layer_31 : decode cX10_layer 31 = .ok (.aload_n 0, 1) := by decide +kernel
theorem dX10_layer_32 : decode cX10_layer 32 = .ok (.getfield 22, 3) := by decide +kernel
theorem dX10_layer_35 : decode cX10_layer 35 = .ok (.bipush 13, 2) := by decide +kernel
theorem dX10_layer_37 : decode cX10_layer 37 = .ok (.iload_n 1, 1) := by decide +kernel
theorem dX10_layer_38 : decode cX10_layer 38 = .ok (.iadd, 1) := by decide +kernel
theorem dX10_layer_39 : decode cX10_layer 39 = .ok (.iaload, 1) := by decide +kernel
theorem dX10_layer_40 : decode cX10_layer 40 = .ok (.goto 31, 3) := by decide +kernel
theorem dX10_layer_43 : decode cX10_layer 43 = .ok (.iload_n 2, 1) := by decide +kernel
theorem dX10_layer_44 : decode cX10_layer 44 = .ok (.iconst 2, 1) := by decide +kernel
theorem dX10_layer_45 : decode cX10_layer 45 = .ok (.if_icmp .ne 11, 3) := by decide +kernel
theorem dX10_layer_48 : decode cX10_layer 48 = .ok (.aload_n 0, 1) := by decide +kernel
theorem dX10_layer_49 : decode cX10_layer 49 = .ok (.iload_n 1, 1) := by decide +kernel
theorem dX10_layer_50 : decode cX10_layer 50 = .ok (.invokevirtual 224, 3) := by decide +kernel
theorem dX10_layer_53 : decode cX10_layer 53 = .ok (.goto 18, 3) := by decide +kernel
theorem dX10_layer_56 : decode cX10_layer 56 = .ok (.iload_n 2, 1) := by decide +kernel
theorem dX10_layer_57 : decode cX10_layer 57 = .ok (.iconst 3, 1) := by decide +kernel
theorem dX10_layer_58 : decode cX10_layer 58 = .ok (.if_icmp .ne 11, 3) := by decide +kernel
theorem dX10_layer_61 : decode cX10_layer 61 = .ok (.aload_n 0, 1) := by decide +kernel
theorem dX10_layer_62 : decode cX10_layer 62 = .ok (.iload_n 1, 1) := by decide +kernel
theorem dX10_layer_63 : decode cX10_layer 63 = .ok (.invokevirtual 227, 3) := by decide +kernel
theorem dX10_layer_66 : decode cX10_layer 66 = .ok (.goto 5, 3) := by decide +kernel
theorem dX10_layer_69 : decode cX10_layer 69 = .ok (.ldc 96, 2) := by decide +kernel
theorem dX10_layer_71 : decode cX10_layer 71 = .ok (.ireturn, 1) := by decide +kernel
theorem dX10_executor_0 : decode cX10_executor 0 = .ok (.aload_n 0, 1) := by decide +kernel
theorem dX10_executor_1 : decode cX10_executor 1 = .ok (.iload_n 1, 1) := by decide +kernel
theorem dX10_executor_2 : decode cX10_executor 2 = .ok (.invokevirtual 230, 3) := by decide +kernel
theorem dX10_executor_5 : decode cX10_executor 5 = .ok (.ifCond .ne 6, 3) := by decide +kernel
theorem dX10_executor_8 : decode cX10_executor 8 = .ok (.ldc 223, 2) := by decide +kernel
theorem dX10_executor_10 : decode cX10_executor 10 = .ok (.ireturn, 1) := by decide +kernel
theorem dX10_executor_11 : decode cX10_executor 11 = .ok (.iload_n 2, 1) := by decide +kernel
theorem dX10_executor_12 : decode cX10_executor 12 = .ok (.ifCond .ne 12, 3) := by decide +kernel
theorem dX10_executor_15 : decode cX10_executor 15 = .ok (.aload_n 0, 1) := by decide +kernel
theorem dX10_executor_16 : decode cX10_executor 16 = .ok (.getfield 7, 3) := by decide +kernel
theorem dX10_executor_19 : decode cX10_executor 19 = .ok (.iload_n 1, 1) := by decide +kernel
theorem dX10_executor_20 : decode cX10_executor 20 = .ok (.iaload, 1) := by decide +kernel
theorem dX10_executor_21 : decode cX10_executor 21 = .ok (.goto 70, 3) := by decide +kernel
theorem dX10_executor_24 : decode cX10_executor 24 = .ok (.iload_n 2, 1) := by decide +kernel
theorem dX10_executor_25 : decode cX10_executor 25 = .ok (.iconst 1, 1) := by decide +kernel
theorem dX10_executor_26 : decode cX10_executor 26 = .ok (.if_icmp .ne 12, 3) := by decide +kernel
theorem dX10_executor_29 : decode cX10_executor 29 = .ok (.aload_n 0, 1) := by decide +kernel
theorem dX10_executor_30 : decode cX10_executor 30 = .ok (.getfield 13, 3) := by decide +kernel
theorem dX10_executor_33 : decode cX10_executor 33 = .ok (.iload_n 1, 1) := by decide +kernel
theorem dX10_executor_34 : decode cX10_executor 34 = .ok (.iaload, 1) := by decide +kernel
theorem dX10_executor_35 : decode cX10_executor 35 = .ok (.goto 56, 3) := by decide +kernel
theorem dX10_executor_38 : decode cX10_executor 38 = .ok (.iload_n 2, 1) := by decide +kernel
theorem dX10_executor_39 : decode cX10_executor 39 = .ok (.iconst 2, 1) := by decide +kernel
theorem dX10_executor_40 : decode cX10_executor 40 = .ok (.if_icmp .ne 15, 3) := by decide +kernel
theorem dX10_executor_43 : decode cX10_executor 43 = .ok (.aload_n 0, 1) := by decide +kernel
theorem dX10_executor_44 : decode cX10_executor 44 = .ok (.getfield 22, 3) := by decide +kernel
theorem dX10_executor_47 : decode cX10_executor 47 = .ok (.bipush 29, 2) := by decide +kernel
theorem dX10_executor_49 : decode cX10_executor 49 = .ok (.iload_n 1, 1) := by decide +kernel
theorem dX10_executor_50 : decode cX10_executor 50 = .ok (.iadd, 1) := by decide +kernel
theorem dX10_executor_51 : decode cX10_executor 51 = .ok (.iaload, 1) := by decide +kernel
theorem dX10_executor_52 : decode cX10_executor 52 = .ok (.goto 39, 3) := by decide +kernel
theorem dX10_executor_55 : decode cX10_executor 55 = .ok (.iload_n 2, 1) := by decide +kernel
theorem dX10_executor_56 : decode cX10_executor 56 = .ok (.iconst 3, 1) := by decide +kernel
theorem dX10_executor_57 : decode cX10_executor 57 = .ok (.if_icmp .ne 15, 3) := by decide +kernel
theorem dX10_executor_60 : decode cX10_executor 60 = .ok (.aload_n 0, 1) := by decide +kernel
theorem dX10_executor_61 : decode cX10_executor 61 = .ok (.getfield 22, 3) := by decide +kernel
theorem dX10_executor_64 : decode cX10_executor 64 = .ok (.bipush 34, 2) := by decide +kernel
theorem dX10_executor_66 : decode cX10_executor 66 = .ok (.iload_n 1, 1) := by decide +kernel
theorem dX10_executor_67 : decode cX10_executor 67 = .ok (.iadd, 1) := by decide +kernel
theorem dX10_executor_68 : decode cX10_executor 68 = .ok (.iaload, 1) := by decide +kernel
theorem dX10_executor_69 : decode cX10_executor 69 = .ok (.goto 22, 3) := by decide +kernel
theorem dX10_executor_72 : decode cX10_executor 72 = .ok (.iload_n 2, 1) := by decide +kernel
theorem dX10_executor_73 : decode cX10_executor 73 = .ok (.iconst 4, 1) := by decide +kernel
theorem dX10_executor_74 : decode cX10_executor 74 = .ok (.if_icmp .ne 15, 3) := by decide +kernel
theorem dX10_executor_77 : decode cX10_executor 77 = .ok (.aload_n 0, 1) := by decide +kernel
theorem dX10_executor_78 : decode cX10_executor 78 = .ok (.getfield 22, 3) := by decide +kernel
theorem dX10_executor_81 : decode cX10_executor 81 = .ok (.bipush 39, 2) := by decide +kernel
theorem dX10_executor_83 : decode cX10_executor 83 = .ok (.iload_n 1, 1) := by decide +kernel
theorem dX10_executor_84 : decode cX10_executor 84 = .ok (.iadd, 1) := by decide +kernel
theorem dX10_executor_85 : decode cX10_executor 85 = .ok (.iaload, 1) := by decide +kernel
theorem dX10_executor_86 : decode cX10_executor 86 = .ok (.goto 5, 3) := by decide +kernel
theorem dX10_executor_89 : decode cX10_executor 89 = .ok (.ldc 96, 2) := by decide +kernel
theorem dX10_executor_91 : decode cX10_executor 91 = .ok (.ireturn, 1) := by decide +kernel
theorem dX10_type_0 : decode cX10_type 0 = .ok (.iload_n 1, 1) := by decide +kernel
theorem dX10_type_1 : decode cX10_type 1 = .ok (.i2l, 1) := by decide +kernel
theorem dX10_type_2 : decode cX10_type 2 = .ok (.lconst 0, 1) := by decide +kernel
theorem dX10_type_3 : decode cX10_type 3 = .ok (.aload_n 0, 1) := by decide +kernel
theorem dX10_type_4 : decode cX10_type 4 = .ok (.getfield 164, 3) := by decide +kernel
theorem dX10_type_7 : decode cX10_type 7 = .ok (.iconst 1, 1) := by decide +kernel
theorem dX10_type_8 : decode cX10_type 8 = .ok (.isub, 1) := by decide +kernel
theorem dX10_type_9 : decode cX10_type 9 = .ok (.i2l, 1) := by decide +kernel
theorem dX10_type_10 : decode cX10_type 10 = .ok (.invokestatic 87, 3) := by decide +kernel
theorem dX10_type_13 : decode cX10_type 13 = .ok (.ifCond .ne 6, 3) := by decide +kernel
theorem dX10_type_16 : decode cX10_type 16 = .ok (.ldc 223, 2) := by decide +kernel
theorem dX10_type_18 : decode cX10_type 18 = .ok (.ireturn, 1) := by decide +kernel
theorem dX10_type_19 : decode cX10_type 19 = .ok (.iload_n 2, 1) := by decide +kernel
theorem dX10_type_20 : decode cX10_type 20 = .ok (.i2l, 1) := by decide +kernel
theorem dX10_type_21 : decode cX10_type 21 = .ok (.lconst 0, 1) := by decide +kernel
theorem dX10_type_22 : decode cX10_type 22 = .ok (.ldc2_w 233, 3) := by decide +kernel
theorem dX10_type_25 : decode cX10_type 25 = .ok (.invokestatic 87, 3) := by decide +kernel
theorem dX10_type_28 : decode cX10_type 28 = .ok (.ifCond .ne 6, 3) := by decide +kernel
theorem dX10_type_31 : decode cX10_type 31 = .ok (.ldc 96, 2) := by decide +kernel
theorem dX10_type_33 : decode cX10_type 33 = .ok (.ireturn, 1) := by decide +kernel
theorem dX10_type_34 : decode cX10_type 34 = .ok (.iload_n 2, 1) := by decide +kernel
theorem dX10_type_35 : decode cX10_type 35 = .ok (.aload_n 0, 1) := by decide +kernel
theorem dX10_type_36 : decode cX10_type 36 = .ok (.getfield 16, 3) := by decide +kernel
theorem dX10_type_39 : decode cX10_type 39 = .ok (.iload_n 1, 1) := by decide +kernel
theorem dX10_type_40 : decode cX10_type 40 = .ok (.iaload, 1) := by decide +kernel
theorem dX10_type_41 : decode cX10_type 41 = .ok (.if_icmp .ge 17, 3) := by decide +kernel
theorem dX10_type_44 : decode cX10_type 44 = .ok (.aload_n 0, 1) := by decide +kernel
theorem dX10_type_45 : decode cX10_type 45 = .ok (.getfield 19, 3) := by decide +kernel
theorem dX10_type_48 : decode cX10_type 48 = .ok (.bipush 8, 2) := by decide +kernel
theorem dX10_type_50 : decode cX10_type 50 = .ok (.iload_n 1, 1) := by decide +kernel
theorem dX10_type_51 : decode cX10_type 51 = .ok (.imul, 1) := by decide +kernel
theorem dX10_type_52 : decode cX10_type 52 = .ok (.iload_n 2, 1) := by decide +kernel
theorem dX10_type_53 : decode cX10_type 53 = .ok (.iadd, 1) := by decide +kernel
theorem dX10_type_54 : decode cX10_type 54 = .ok (.iaload, 1) := by decide +kernel
theorem dX10_type_55 : decode cX10_type 55 = .ok (.goto 4, 3) := by decide +kernel
theorem dX10_type_58 : decode cX10_type 58 = .ok (.iconst (-1), 1) := by decide +kernel
theorem dX10_type_59 : decode cX10_type 59 = .ok (.ireturn, 1) := by decide +kernel
theorem dX10_logged_0 : decode cX10_logged 0 = .ok (.iload_n 2, 1) := by decide +kernel
theorem dX10_logged_1 : decode cX10_logged 1 = .ok (.i2l, 1) := by decide +kernel
theorem dX10_logged_2 : decode cX10_logged 2 = .ok (.lconst 0, 1) := by decide +kernel
theorem dX10_logged_3 : decode cX10_logged 3 = .ok (.ldc2_w 235, 3) := by decide +kernel
theorem dX10_logged_6 : decode cX10_logged 6 = .ok (.invokestatic 87, 3) := by decide +kernel
theorem dX10_logged_9 : decode cX10_logged 9 = .ok (.ifCond .ne 6, 3) := by decide +kernel
theorem dX10_logged_12 : decode cX10_logged 12 = .ok (.ldc 96, 2) := by decide +kernel
theorem dX10_logged_14 : decode cX10_logged 14 = .ok (.ireturn, 1) := by decide +kernel
theorem dX10_logged_15 : decode cX10_logged 15 = .ok (.iload_n 1, 1) := by decide +kernel
theorem dX10_logged_16 : decode cX10_logged 16 = .ok (.i2l, 1) := by decide +kernel
theorem dX10_logged_17 : decode cX10_logged 17 = .ok (.lconst 0, 1) := by decide +kernel
theorem dX10_logged_18 : decode cX10_logged 18 = .ok (.aload_n 0, 1) := by decide +kernel
theorem dX10_logged_19 : decode cX10_logged 19 = .ok (.getfield 22, 3) := by decide +kernel
theorem dX10_logged_22 : decode cX10_logged 22 = .ok (.bipush 44, 2) := by decide +kernel
theorem dX10_logged_24 : decode cX10_logged 24 = .ok (.iaload, 1) := by decide +kernel
theorem dX10_logged_25 : decode cX10_logged 25 = .ok (.iconst 1, 1) := by decide +kernel
theorem dX10_logged_26 : decode cX10_logged 26 = .ok (.isub, 1) := by decide +kernel
theorem dX10_logged_27 : decode cX10_logged 27 = .ok (.i2l, 1) := by decide +kernel
theorem dX10_logged_28 : decode cX10_logged 28 = .ok (.invokestatic 87, 3) := by decide +kernel
theorem dX10_logged_31 : decode cX10_logged 31 = .ok (.ifCond .eq 29, 3) := by decide +kernel
theorem dX10_logged_34 : decode cX10_logged 34 = .ok (.aload_n 0, 1) := by decide +kernel
theorem dX10_logged_35 : decode cX10_logged 35 = .ok (.getfield 22, 3) := by decide +kernel
theorem dX10_logged_38 : decode cX10_logged 38 = .ok (.bipush 45, 2) := by decide +kernel
theorem dX10_logged_40 : decode cX10_logged 40 = .ok (.iconst 4, 1) := by decide +kernel
theorem dX10_logged_41 : decode cX10_logged 41 = .ok (.aload_n 0, 1) := by decide +kernel
theorem dX10_logged_42 : decode cX10_logged 42 = .ok (.getfield 22, 3) := by decide +kernel
theorem dX10_logged_45 : decode cX10_logged 45 = .ok (.bipush 44, 2) := by decide +kernel
theorem dX10_logged_47 : decode cX10_logged 47 = .ok (.iaload, 1) := by decide +kernel
theorem dX10_logged_48 : decode cX10_logged 48 = .ok (.iconst 1, 1) := by decide +kernel
theorem dX10_logged_49 : decode cX10_logged 49 = .ok (.isub, 1) := by decide +kernel
theorem dX10_logged_50 : decode cX10_logged 50 = .ok (.iload_n 1, 1) := by decide +kernel
theorem dX10_logged_51 : decode cX10_logged 51 = .ok (.isub, 1) := by decide +kernel
theorem dX10_logged_52 : decode cX10_logged 52 = .ok (.imul, 1) := by decide +kernel
theorem dX10_logged_53 : decode cX10_logged 53 = .ok (.iadd, 1) := by decide +kernel
theorem dX10_logged_54 : decode cX10_logged 54 = .ok (.iload_n 2, 1) := by decide +kernel
theorem dX10_logged_55 : decode cX10_logged 55 = .ok (.iadd, 1) := by decide +kernel
theorem dX10_logged_56 : decode cX10_logged 56 = .ok (.iaload, 1) := by decide +kernel
theorem dX10_logged_57 : decode cX10_logged 57 = .ok (.goto 4, 3) := by decide +kernel
theorem dX10_logged_60 : decode cX10_logged 60 = .ok (.iconst (-1), 1) := by decide +kernel
theorem dX10_logged_61 : decode cX10_logged 61 = .ok (.ireturn, 1) := by decide +kernel
theorem dX10_remember_0 : decode cX10_remember 0 = .ok (.aload_n 0, 1) := by decide +kernel
theorem dX10_remember_1 : decode cX10_remember 1 = .ok (.getfield 179, 3) := by decide +kernel
theorem dX10_remember_4 : decode cX10_remember 4 = .ok (.bipush 30, 2) := by decide +kernel
theorem dX10_remember_6 : decode cX10_remember 6 = .ok (.if_icmp .ne 44, 3) := by decide +kernel
theorem dX10_remember_9 : decode cX10_remember 9 = .ok (.bipush 125, 2) := by decide +kernel
theorem dX10_remember_11 : decode cX10_remember 11 = .ok (.istore_n 1, 1) := by decide +kernel
theorem dX10_remember_12 : decode cX10_remember 12 = .ok (.iload_n 1, 1) := by decide +kernel
theorem dX10_remember_13 : decode cX10_remember 13 = .ok (.sipush 3750, 3) := by decide +kernel
theorem dX10_remember_16 : decode cX10_remember 16 = .ok (.if_icmp .ge 24, 3) := by decide +kernel
theorem dX10_remember_19 : decode cX10_remember 19 = .ok (.aload_n 0, 1) := by decide +kernel
theorem dX10_remember_20 : decode cX10_remember 20 = .ok (.getfield 65, 3) := by decide +kernel
theorem dX10_remember_23 : decode cX10_remember 23 = .ok (.iload_n 1, 1) := by decide +kernel
theorem dX10_remember_24 : decode cX10_remember 24 = .ok (.bipush 125, 2) := by decide +kernel
theorem dX10_remember_26 : decode cX10_remember 26 = .ok (.isub, 1) := by decide +kernel
theorem dX10_remember_27 : decode cX10_remember 27 = .ok (.aload_n 0, 1) := by decide +kernel
theorem dX10_remember_28 : decode cX10_remember 28 = .ok (.getfield 65, 3) := by decide +kernel
theorem dX10_remember_31 : decode cX10_remember 31 = .ok (.iload_n 1, 1) := by decide +kernel
theorem dX10_remember_32 : decode cX10_remember 32 = .ok (.iaload, 1) := by decide +kernel
theorem dX10_remember_33 : decode cX10_remember 33 = .ok (.iastore, 1) := by decide +kernel
theorem dX10_remember_34 : decode cX10_remember 34 = .ok (.iinc 1 1, 3) := by decide +kernel
theorem dX10_remember_37 : decode cX10_remember 37 = .ok (.goto (-25), 3) := by decide +kernel
theorem dX10_remember_40 : decode cX10_remember 40 = .ok (.aload_n 0, 1) := by decide +kernel
theorem dX10_remember_41 : decode cX10_remember 41 = .ok (.dup, 1) := by decide +kernel
theorem dX10_remember_42 : decode cX10_remember 42 = .ok (.getfield 179, 3) := by decide +kernel
theorem dX10_remember_45 : decode cX10_remember 45 = .ok (.iconst 1, 1) := by decide +kernel
theorem dX10_remember_46 : decode cX10_remember 46 = .ok (.isub, 1) := by decide +kernel
theorem dX10_remember_47 : decode cX10_remember 47 = .ok (.putfield 179, 3) := by decide +kernel
theorem dX10_remember_50 : decode cX10_remember 50 = .ok (.iconst 0, 1) := by decide +kernel
theorem dX10_remember_51 : decode cX10_remember 51 = .ok (.istore_n 1, 1) := by decide +kernel
theorem dX10_remember_52 : decode cX10_remember 52 = .ok (.iload_n 1, 1) := by decide +kernel
theorem dX10_remember_53 : decode cX10_remember 53 = .ok (.bipush 125, 2) := by decide +kernel
theorem dX10_remember_55 : decode cX10_remember 55 = .ok (.if_icmp .ge 29, 3) := by decide +kernel
theorem dX10_remember_58 : decode cX10_remember 58 = .ok (.aload_n 0, 1) := by decide +kernel
theorem dX10_remember_59 : decode cX10_remember 59 = .ok (.getfield 65, 3) := by decide +kernel
theorem dX10_remember_62 : decode cX10_remember 62 = .ok (.bipush 125, 2) := by decide +kernel
theorem dX10_remember_64 : decode cX10_remember 64 = .ok (.aload_n 0, 1) := by decide +kernel
theorem dX10_remember_65 : decode cX10_remember 65 = .ok (.getfield 179, 3) := by decide +kernel
theorem dX10_remember_68 : decode cX10_remember 68 = .ok (.imul, 1) := by decide +kernel
theorem dX10_remember_69 : decode cX10_remember 69 = .ok (.iload_n 1, 1) := by decide +kernel
theorem dX10_remember_70 : decode cX10_remember 70 = .ok (.iadd, 1) := by decide +kernel
theorem dX10_remember_71 : decode cX10_remember 71 = .ok (.aload_n 0, 1) := by decide +kernel
theorem dX10_remember_72 : decode cX10_remember 72 = .ok (.getfield 22, 3) := by decide +kernel
theorem dX10_remember_75 : decode cX10_remember 75 = .ok (.iload_n 1, 1) := by decide +kernel
theorem dX10_remember_76 : decode cX10_remember 76 = .ok (.iaload, 1) := by decide +kernel
theorem dX10_remember_77 : decode cX10_remember 77 = .ok (.iastore, 1) := by decide +kernel
theorem dX10_remember_78 : decode cX10_remember 78 = .ok (.iinc 1 1, 3) := by decide +kernel
theorem dX10_remember_81 : decode cX10_remember 81 = .ok (.goto (-29), 3) := by decide +kernel
theorem dX10_remember_84 : decode cX10_remember 84 = .ok (.aload_n 0, 1) := by decide +kernel
theorem dX10_remember_85 : decode cX10_remember 85 = .ok (.dup, 1) := by decide +kernel
theorem dX10_remember_86 : decode cX10_remember 86 = .ok (.getfield 179, 3) := by decide +kernel
theorem dX10_remember_89 : decode cX10_remember 89 = .ok (.iconst 1, 1) := by decide +kernel
theorem dX10_remember_90 : decode cX10_remember 90 = .ok (.iadd, 1) := by decide +kernel
theorem dX10_remember_91 : decode cX10_remember 91 = .ok (.putfield 179, 3) := by decide +kernel
theorem dX10_remember_94 : decode cX10_remember 94 = .ok (.return_, 1) := by decide +kernel
theorem dX10_enters_0 : decode cX10_enters 0 = .ok (.aload_n 0, 1) := by decide +kernel
theorem dX10_enters_1 : decode cX10_enters 1 = .ok (.getfield 22, 3) := by decide +kernel
theorem dX10_enters_4 : decode cX10_enters 4 = .ok (.bipush 44, 2) := by decide +kernel
theorem dX10_enters_6 : decode cX10_enters 6 = .ok (.iaload, 1) := by decide +kernel
theorem dX10_enters_7 : decode cX10_enters 7 = .ok (.bipush 20, 2) := by decide +kernel
theorem dX10_enters_9 : decode cX10_enters 9 = .ok (.if_icmp .ne 52, 3) := by decide +kernel
theorem dX10_enters_12 : decode cX10_enters 12 = .ok (.iconst 0, 1) := by decide +kernel
theorem dX10_enters_13 : decode cX10_enters 13 = .ok (.istore 4, 2) := by decide +kernel
theorem dX10_enters_15 : decode cX10_enters 15 = .ok (.iload 4, 2) := by decide +kernel
theorem dX10_enters_17 : decode cX10_enters 17 = .ok (.bipush 76, 2) := by decide +kernel
theorem dX10_enters_19 : decode cX10_enters 19 = .ok (.if_icmp .ge 31, 3) := by decide +kernel
theorem dX10_enters_22 : decode cX10_enters 22 = .ok (.aload_n 0, 1) := by decide +kernel
theorem dX10_enters_23 : decode cX10_enters 23 = .ok (.getfield 22, 3) := by decide +kernel
theorem dX10_enters_26 : decode cX10_enters 26 = .ok (.bipush 45, 2) := by decide +kernel
theorem dX10_enters_28 : decode cX10_enters 28 = .ok (.iload 4, 2) := by decide +kernel
theorem dX10_enters_30 : decode cX10_enters 30 = .ok (.iadd, 1) := by decide +kernel
theorem dX10_enters_31 : decode cX10_enters 31 = .ok (.aload_n 0, 1) := by decide +kernel
theorem dX10_enters_32 : decode cX10_enters 32 = .ok (.getfield 22, 3) := by decide +kernel
theorem dX10_enters_35 : decode cX10_enters 35 = .ok (.bipush 45, 2) := by decide +kernel
theorem dX10_enters_37 : decode cX10_enters 37 = .ok (.iload 4, 2) := by decide +kernel
theorem dX10_enters_39 : decode cX10_enters 39 = .ok (.iadd, 1) := by decide +kernel
theorem dX10_enters_40 : decode cX10_enters 40 = .ok (.iconst 4, 1) := by decide +kernel
theorem dX10_enters_41 : decode cX10_enters 41 = .ok (.iadd, 1) := by decide +kernel
theorem dX10_enters_42 : decode cX10_enters 42 = .ok (.iaload, 1) := by decide +kernel
theorem dX10_enters_43 : decode cX10_enters 43 = .ok (.iastore, 1) := by decide +kernel
theorem dX10_enters_44 : decode cX10_enters 44 = .ok (.iinc 4 1, 3) := by decide +kernel
theorem dX10_enters_47 : decode cX10_enters 47 = .ok (.goto (-32), 3) := by decide +kernel
theorem dX10_enters_50 : decode cX10_enters 50 = .ok (.aload_n 0, 1) := by decide +kernel
theorem dX10_enters_51 : decode cX10_enters 51 = .ok (.getfield 22, 3) := by decide +kernel
theorem dX10_enters_54 : decode cX10_enters 54 = .ok (.bipush 44, 2) := by decide +kernel
theorem dX10_enters_56 : decode cX10_enters 56 = .ok (.dup2, 1) := by decide +kernel
theorem dX10_enters_57 : decode cX10_enters 57 = .ok (.iaload, 1) := by decide +kernel
theorem dX10_enters_58 : decode cX10_enters 58 = .ok (.iconst 1, 1) := by decide +kernel
theorem dX10_enters_59 : decode cX10_enters 59 = .ok (.isub, 1) := by decide +kernel
theorem dX10_enters_60 : decode cX10_enters 60 = .ok (.iastore, 1) := by decide +kernel
theorem dX10_enters_61 : decode cX10_enters 61 = .ok (.bipush 45, 2) := by decide +kernel
theorem dX10_enters_63 : decode cX10_enters 63 = .ok (.iconst 4, 1) := by decide +kernel
theorem dX10_enters_64 : decode cX10_enters 64 = .ok (.aload_n 0, 1) := by decide +kernel
theorem dX10_enters_65 : decode cX10_enters 65 = .ok (.getfield 22, 3) := by decide +kernel
theorem dX10_enters_68 : decode cX10_enters 68 = .ok (.bipush 44, 2) := by decide +kernel
theorem dX10_enters_70 : decode cX10_enters 70 = .ok (.iaload, 1) := by decide +kernel
theorem dX10_enters_71 : decode cX10_enters 71 = .ok (.imul, 1) := by decide +kernel
theorem dX10_enters_72 : decode cX10_enters 72 = .ok (.iadd, 1) := by decide +kernel
theorem dX10_enters_73 : decode cX10_enters 73 = .ok (.istore 4, 2) := by decide +kernel
theorem dX10_enters_75 : decode cX10_enters 75 = .ok (.aload_n 0, 1) := by decide +kernel
theorem dX10_enters_76 : decode cX10_enters 76 = .ok (.getfield 22, 3) := by decide +kernel
theorem dX10_enters_79 : decode cX10_enters 79 = .ok (.iload 4, 2) := by decide +kernel
theorem dX10_enters_81 : decode cX10_enters 81 = .ok (.aload_n 0, 1) := by decide +kernel
theorem dX10_enters_82 : decode cX10_enters 82 = .ok (.getfield 22, 3) := by decide +kernel
theorem dX10_enters_85 : decode cX10_enters 85 = .ok (.bipush 25, 2) := by decide +kernel
theorem dX10_enters_87 : decode cX10_enters 87 = .ok (.iaload, 1) := by decide +kernel
theorem dX10_enters_88 : decode cX10_enters 88 = .ok (.iastore, 1) := by decide +kernel
theorem dX10_enters_89 : decode cX10_enters 89 = .ok (.aload_n 0, 1) := by decide +kernel
theorem dX10_enters_90 : decode cX10_enters 90 = .ok (.getfield 22, 3) := by decide +kernel
theorem dX10_enters_93 : decode cX10_enters 93 = .ok (.iload 4, 2) := by decide +kernel
theorem dX10_enters_95 : decode cX10_enters 95 = .ok (.iconst 1, 1) := by decide +kernel
theorem dX10_enters_96 : decode cX10_enters 96 = .ok (.iadd, 1) := by decide +kernel
theorem dX10_enters_97 : decode cX10_enters 97 = .ok (.iload_n 1, 1) := by decide +kernel
theorem dX10_enters_98 : decode cX10_enters 98 = .ok (.iastore, 1) := by decide +kernel
theorem dX10_enters_99 : decode cX10_enters 99 = .ok (.aload_n 0, 1) := by decide +kernel
theorem dX10_enters_100 : decode cX10_enters 100 = .ok (.getfield 22, 3) := by decide +kernel
theorem dX10_enters_103 : decode cX10_enters 103 = .ok (.iload 4, 2) := by decide +kernel
theorem dX10_enters_105 : decode cX10_enters 105 = .ok (.iconst 2, 1) := by decide +kernel
theorem dX10_enters_106 : decode cX10_enters 106 = .ok (.iadd, 1) := by decide +kernel
theorem dX10_enters_107 : decode cX10_enters 107 = .ok (.iload_n 2, 1) := by decide +kernel
theorem dX10_enters_108 : decode cX10_enters 108 = .ok (.iastore, 1) := by decide +kernel
theorem dX10_enters_109 : decode cX10_enters 109 = .ok (.aload_n 0, 1) := by decide +kernel
theorem dX10_enters_110 : decode cX10_enters 110 = .ok (.getfield 22, 3) := by decide +kernel
theorem dX10_enters_113 : decode cX10_enters 113 = .ok (.iload 4, 2) := by decide +kernel
theorem dX10_enters_115 : decode cX10_enters 115 = .ok (.iconst 3, 1) := by decide +kernel
theorem dX10_enters_116 : decode cX10_enters 116 = .ok (.iadd, 1) := by decide +kernel
theorem dX10_enters_117 : decode cX10_enters 117 = .ok (.iload_n 3, 1) := by decide +kernel
theorem dX10_enters_118 : decode cX10_enters 118 = .ok (.iastore, 1) := by decide +kernel
theorem dX10_enters_119 : decode cX10_enters 119 = .ok (.aload_n 0, 1) := by decide +kernel
theorem dX10_enters_120 : decode cX10_enters 120 = .ok (.getfield 22, 3) := by decide +kernel
theorem dX10_enters_123 : decode cX10_enters 123 = .ok (.bipush 44, 2) := by decide +kernel
theorem dX10_enters_125 : decode cX10_enters 125 = .ok (.dup2, 1) := by decide +kernel
theorem dX10_enters_126 : decode cX10_enters 126 = .ok (.iaload, 1) := by decide +kernel
theorem dX10_enters_127 : decode cX10_enters 127 = .ok (.iconst 1, 1) := by decide +kernel
theorem dX10_enters_128 : decode cX10_enters 128 = .ok (.iadd, 1) := by decide +kernel
theorem dX10_enters_129 : decode cX10_enters 129 = .ok (.iastore, 1) := by decide +kernel
theorem dX10_enters_130 : decode cX10_enters 130 = .ok (.return_, 1) := by decide +kernel
theorem dX10_capped_0 : decode cX10_capped 0 = .ok (.iload_n 0, 1) := by decide +kernel
theorem dX10_capped_1 : decode cX10_capped 1 = .ok (.sipush 9999, 3) := by decide +kernel
theorem dX10_capped_4 : decode cX10_capped 4 = .ok (.if_icmp .le 9, 3) := by decide +kernel
theorem dX10_capped_7 : decode cX10_capped 7 = .ok (.sipush 9999, 3) := by decide +kernel
theorem dX10_capped_10 : decode cX10_capped 10 = .ok (.goto 4, 3) := by decide +kernel
theorem dX10_capped_13 : decode cX10_capped 13 = .ok (.iload_n 0, 1) := by decide +kernel
theorem dX10_capped_14 : decode cX10_capped 14 = .ok (.ireturn, 1) := by decide +kernel
theorem dX10_peels_0 : decode cX10_peels 0 = .ok (.aload_n 0, 1) := by decide +kernel
theorem dX10_peels_1 : decode cX10_peels 1 = .ok (.getfield 22, 3) := by decide +kernel
theorem dX10_peels_4 : decode cX10_peels 4 = .ok (.iconst 1, 1) := by decide +kernel
theorem dX10_peels_5 : decode cX10_peels 5 = .ok (.iaload, 1) := by decide +kernel
theorem dX10_peels_6 : decode cX10_peels 6 = .ok (.istore_n 2, 1) := by decide +kernel
theorem dX10_peels_7 : decode cX10_peels 7 = .ok (.aload_n 0, 1) := by decide +kernel
theorem dX10_peels_8 : decode cX10_peels 8 = .ok (.getfield 22, 3) := by decide +kernel
theorem dX10_peels_11 : decode cX10_peels 11 = .ok (.bipush 13, 2) := by decide +kernel
theorem dX10_peels_13 : decode cX10_peels 13 = .ok (.iaload, 1) := by decide +kernel
theorem dX10_peels_14 : decode cX10_peels 14 = .ok (.istore_n 3, 1) := by decide +kernel
theorem dX10_peels_15 : decode cX10_peels 15 = .ok (.aload_n 0, 1) := by decide +kernel
theorem dX10_peels_16 : decode cX10_peels 16 = .ok (.iconst 0, 1) := by decide +kernel
theorem dX10_peels_17 : decode cX10_peels 17 = .ok (.invokevirtual 224, 3) := by decide +kernel
theorem dX10_peels_20 : decode cX10_peels 20 = .ok (.istore 4, 2) := by decide +kernel
theorem dX10_peels_22 : decode cX10_peels 22 = .ok (.aload_n 0, 1) := by decide +kernel
theorem dX10_peels_23 : decode cX10_peels 23 = .ok (.getfield 22, 3) := by decide +kernel
theorem dX10_peels_26 : decode cX10_peels 26 = .ok (.bipush 29, 2) := by decide +kernel
theorem dX10_peels_28 : decode cX10_peels 28 = .ok (.iload_n 1, 1) := by decide +kernel
theorem dX10_peels_29 : decode cX10_peels 29 = .ok (.iadd, 1) := by decide +kernel
theorem dX10_peels_30 : decode cX10_peels 30 = .ok (.aload_n 0, 1) := by decide +kernel
theorem dX10_peels_31 : decode cX10_peels 31 = .ok (.getfield 22, 3) := by decide +kernel
theorem dX10_peels_34 : decode cX10_peels 34 = .ok (.bipush 29, 2) := by decide +kernel
theorem dX10_peels_36 : decode cX10_peels 36 = .ok (.iload_n 1, 1) := by decide +kernel
theorem dX10_peels_37 : decode cX10_peels 37 = .ok (.iadd, 1) := by decide +kernel
theorem dX10_peels_38 : decode cX10_peels 38 = .ok (.iaload, 1) := by decide +kernel
theorem dX10_peels_39 : decode cX10_peels 39 = .ok (.iload 4, 2) := by decide +kernel
theorem dX10_peels_41 : decode cX10_peels 41 = .ok (.iadd, 1) := by decide +kernel
theorem dX10_peels_42 : decode cX10_peels 42 = .ok (.invokestatic 237, 3) := by decide +kernel
theorem dX10_peels_45 : decode cX10_peels 45 = .ok (.iastore, 1) := by decide +kernel
theorem dX10_peels_46 : decode cX10_peels 46 = .ok (.aload_n 0, 1) := by decide +kernel
theorem dX10_peels_47 : decode cX10_peels 47 = .ok (.getfield 22, 3) := by decide +kernel
theorem dX10_peels_50 : decode cX10_peels 50 = .ok (.bipush 34, 2) := by decide +kernel
theorem dX10_peels_52 : decode cX10_peels 52 = .ok (.iload_n 1, 1) := by decide +kernel
theorem dX10_peels_53 : decode cX10_peels 53 = .ok (.iadd, 1) := by decide +kernel
theorem dX10_peels_54 : decode cX10_peels 54 = .ok (.aload_n 0, 1) := by decide +kernel
theorem dX10_peels_55 : decode cX10_peels 55 = .ok (.getfield 22, 3) := by decide +kernel
theorem dX10_peels_58 : decode cX10_peels 58 = .ok (.bipush 34, 2) := by decide +kernel
theorem dX10_peels_60 : decode cX10_peels 60 = .ok (.iload_n 1, 1) := by decide +kernel
theorem dX10_peels_61 : decode cX10_peels 61 = .ok (.iadd, 1) := by decide +kernel
theorem dX10_peels_62 : decode cX10_peels 62 = .ok (.iaload, 1) := by decide +kernel
theorem dX10_peels_63 : decode cX10_peels 63 = .ok (.aload_n 0, 1) := by decide +kernel
theorem dX10_peels_64 : decode cX10_peels 64 = .ok (.iconst 0, 1) := by decide +kernel
theorem dX10_peels_65 : decode cX10_peels 65 = .ok (.invokevirtual 227, 3) := by decide +kernel
theorem dX10_peels_68 : decode cX10_peels 68 = .ok (.iadd, 1) := by decide +kernel
theorem dX10_peels_69 : decode cX10_peels 69 = .ok (.aload_n 0, 1) := by decide +kernel
theorem dX10_peels_70 : decode cX10_peels 70 = .ok (.getfield 7, 3) := by decide +kernel
theorem dX10_peels_73 : decode cX10_peels 73 = .ok (.iload_n 1, 1) := by decide +kernel
theorem dX10_peels_74 : decode cX10_peels 74 = .ok (.iaload, 1) := by decide +kernel
theorem dX10_peels_75 : decode cX10_peels 75 = .ok (.iadd, 1) := by decide +kernel
theorem dX10_peels_76 : decode cX10_peels 76 = .ok (.invokestatic 237, 3) := by decide +kernel
theorem dX10_peels_79 : decode cX10_peels 79 = .ok (.iastore, 1) := by decide +kernel
theorem dX10_peels_80 : decode cX10_peels 80 = .ok (.aload_n 0, 1) := by decide +kernel
theorem dX10_peels_81 : decode cX10_peels 81 = .ok (.getfield 22, 3) := by decide +kernel
theorem dX10_peels_84 : decode cX10_peels 84 = .ok (.bipush 39, 2) := by decide +kernel
theorem dX10_peels_86 : decode cX10_peels 86 = .ok (.iload_n 1, 1) := by decide +kernel
theorem dX10_peels_87 : decode cX10_peels 87 = .ok (.iadd, 1) := by decide +kernel
theorem dX10_peels_88 : decode cX10_peels 88 = .ok (.dup2, 1) := by decide +kernel
theorem dX10_peels_89 : decode cX10_peels 89 = .ok (.iaload, 1) := by decide +kernel
theorem dX10_peels_90 : decode cX10_peels 90 = .ok (.iconst 1, 1) := by decide +kernel
theorem dX10_peels_91 : decode cX10_peels 91 = .ok (.iadd, 1) := by decide +kernel
theorem dX10_peels_92 : decode cX10_peels 92 = .ok (.iastore, 1) := by decide +kernel
theorem dX10_peels_93 : decode cX10_peels 93 = .ok (.aload_n 0, 1) := by decide +kernel
theorem dX10_peels_94 : decode cX10_peels 94 = .ok (.getfield 22, 3) := by decide +kernel
theorem dX10_peels_97 : decode cX10_peels 97 = .ok (.bipush 28, 2) := by decide +kernel
theorem dX10_peels_99 : decode cX10_peels 99 = .ok (.iaload, 1) := by decide +kernel
theorem dX10_peels_100 : decode cX10_peels 100 = .ok (.istore 5, 2) := by decide +kernel
theorem dX10_peels_102 : decode cX10_peels 102 = .ok (.iload_n 2, 1) := by decide +kernel
theorem dX10_peels_103 : decode cX10_peels 103 = .ok (.iconst 4, 1) := by decide +kernel
theorem dX10_peels_104 : decode cX10_peels 104 = .ok (.if_icmp .ne 33, 3) := by decide +kernel
theorem dX10_peels_107 : decode cX10_peels 107 = .ok (.iload 5, 2) := by decide +kernel
theorem dX10_peels_109 : decode cX10_peels 109 = .ok (.ifCond .lt 28, 3) := by decide +kernel
theorem dX10_peels_112 : decode cX10_peels 112 = .ok (.aload_n 0, 1) := by decide +kernel
theorem dX10_peels_113 : decode cX10_peels 113 = .ok (.getfield 22, 3) := by decide +kernel
theorem dX10_peels_116 : decode cX10_peels 116 = .ok (.bipush 29, 2) := by decide +kernel
theorem dX10_peels_118 : decode cX10_peels 118 = .ok (.iload 5, 2) := by decide +kernel
theorem dX10_peels_120 : decode cX10_peels 120 = .ok (.iadd, 1) := by decide +kernel
theorem dX10_peels_121 : decode cX10_peels 121 = .ok (.aload_n 0, 1) := by decide +kernel
theorem dX10_peels_122 : decode cX10_peels 122 = .ok (.getfield 22, 3) := by decide +kernel
theorem dX10_peels_125 : decode cX10_peels 125 = .ok (.bipush 29, 2) := by decide +kernel
theorem dX10_peels_127 : decode cX10_peels 127 = .ok (.iload 5, 2) := by decide +kernel
theorem dX10_peels_129 : decode cX10_peels 129 = .ok (.iadd, 1) := by decide +kernel
theorem dX10_peels_130 : decode cX10_peels 130 = .ok (.iaload, 1) := by decide +kernel
theorem dX10_peels_131 : decode cX10_peels 131 = .ok (.iconst 5, 1) := by decide +kernel
theorem dX10_peels_132 : decode cX10_peels 132 = .ok (.iadd, 1) := by decide +kernel
theorem dX10_peels_133 : decode cX10_peels 133 = .ok (.invokestatic 237, 3) := by decide +kernel
theorem dX10_peels_136 : decode cX10_peels 136 = .ok (.iastore, 1) := by decide +kernel
theorem dX10_peels_137 : decode cX10_peels 137 = .ok (.aload_n 0, 1) := by decide +kernel
theorem dX10_peels_138 : decode cX10_peels 138 = .ok (.getfield 22, 3) := by decide +kernel
theorem dX10_peels_141 : decode cX10_peels 141 = .ok (.bipush 28, 2) := by decide +kernel
theorem dX10_peels_143 : decode cX10_peels 143 = .ok (.iload_n 1, 1) := by decide +kernel
theorem dX10_peels_144 : decode cX10_peels 144 = .ok (.iastore, 1) := by decide +kernel
theorem dX10_peels_145 : decode cX10_peels 145 = .ok (.aload_n 0, 1) := by decide +kernel
theorem dX10_peels_146 : decode cX10_peels 146 = .ok (.iload_n 1, 1) := by decide +kernel
theorem dX10_peels_147 : decode cX10_peels 147 = .ok (.iload_n 2, 1) := by decide +kernel
theorem dX10_peels_148 : decode cX10_peels 148 = .ok (.iload_n 3, 1) := by decide +kernel
theorem dX10_peels_149 : decode cX10_peels 149 = .ok (.invokevirtual 240, 3) := by decide +kernel
theorem dX10_peels_152 : decode cX10_peels 152 = .ok (.aload_n 0, 1) := by decide +kernel
theorem dX10_peels_153 : decode cX10_peels 153 = .ok (.getfield 22, 3) := by decide +kernel
theorem dX10_peels_156 : decode cX10_peels 156 = .ok (.iconst 0, 1) := by decide +kernel
theorem dX10_peels_157 : decode cX10_peels 157 = .ok (.dup2, 1) := by decide +kernel
theorem dX10_peels_158 : decode cX10_peels 158 = .ok (.iaload, 1) := by decide +kernel
theorem dX10_peels_159 : decode cX10_peels 159 = .ok (.iconst 1, 1) := by decide +kernel
theorem dX10_peels_160 : decode cX10_peels 160 = .ok (.isub, 1) := by decide +kernel
theorem dX10_peels_161 : decode cX10_peels 161 = .ok (.iastore, 1) := by decide +kernel
theorem dX10_peels_162 : decode cX10_peels 162 = .ok (.iconst 0, 1) := by decide +kernel
theorem dX10_peels_163 : decode cX10_peels 163 = .ok (.istore 6, 2) := by decide +kernel
theorem dX10_peels_165 : decode cX10_peels 165 = .ok (.iload 6, 2) := by decide +kernel
theorem dX10_peels_167 : decode cX10_peels 167 = .ok (.bipush 12, 2) := by decide +kernel
theorem dX10_peels_169 : decode cX10_peels 169 = .ok (.if_icmp .ge 81, 3) := by decide +kernel
theorem dX10_peels_172 : decode cX10_peels 172 = .ok (.aload_n 0, 1) := by decide +kernel
theorem dX10_peels_173 : decode cX10_peels 173 = .ok (.getfield 22, 3) := by decide +kernel
theorem dX10_peels_176 : decode cX10_peels 176 = .ok (.iconst 1, 1) := by decide +kernel
theorem dX10_peels_177 : decode cX10_peels 177 = .ok (.iload 6, 2) := by decide +kernel
theorem dX10_peels_179 : decode cX10_peels 179 = .ok (.iadd, 1) := by decide +kernel
theorem dX10_peels_180 : decode cX10_peels 180 = .ok (.iload 6, 2) := by decide +kernel
theorem dX10_peels_182 : decode cX10_peels 182 = .ok (.aload_n 0, 1) := by decide +kernel
theorem dX10_peels_183 : decode cX10_peels 183 = .ok (.getfield 22, 3) := by decide +kernel
theorem dX10_peels_186 : decode cX10_peels 186 = .ok (.iconst 0, 1) := by decide +kernel
theorem dX10_peels_187 : decode cX10_peels 187 = .ok (.iaload, 1) := by decide +kernel
theorem dX10_peels_188 : decode cX10_peels 188 = .ok (.if_icmp .ge 17, 3) := by decide +kernel
theorem dX10_peels_191 : decode cX10_peels 191 = .ok (.aload_n 0, 1) := by decide +kernel
theorem dX10_peels_192 : decode cX10_peels 192 = .ok (.getfield 22, 3) := by decide +kernel
theorem dX10_peels_195 : decode cX10_peels 195 = .ok (.iconst 1, 1) := by decide +kernel
theorem dX10_peels_196 : decode cX10_peels 196 = .ok (.iload 6, 2) := by decide +kernel
theorem dX10_peels_198 : decode cX10_peels 198 = .ok (.iadd, 1) := by decide +kernel
theorem dX10_peels_199 : decode cX10_peels 199 = .ok (.iconst 1, 1) := by decide +kernel
theorem dX10_peels_200 : decode cX10_peels 200 = .ok (.iadd, 1) := by decide +kernel
theorem dX10_peels_201 : decode cX10_peels 201 = .ok (.iaload, 1) := by decide +kernel
theorem dX10_peels_202 : decode cX10_peels 202 = .ok (.goto 4, 3) := by decide +kernel
theorem dX10_peels_205 : decode cX10_peels 205 = .ok (.iconst 0, 1) := by decide +kernel
theorem dX10_peels_206 : decode cX10_peels 206 = .ok (.iastore, 1) := by decide +kernel
theorem dX10_peels_207 : decode cX10_peels 207 = .ok (.aload_n 0, 1) := by decide +kernel
theorem dX10_peels_208 : decode cX10_peels 208 = .ok (.getfield 22, 3) := by decide +kernel
theorem dX10_peels_211 : decode cX10_peels 211 = .ok (.bipush 13, 2) := by decide +kernel
theorem dX10_peels_213 : decode cX10_peels 213 = .ok (.iload 6, 2) := by decide +kernel
theorem dX10_peels_215 : decode cX10_peels 215 = .ok (.iadd, 1) := by decide +kernel
theorem dX10_peels_216 : decode cX10_peels 216 = .ok (.iload 6, 2) := by decide +kernel
theorem dX10_peels_218 : decode cX10_peels 218 = .ok (.aload_n 0, 1) := by decide +kernel
theorem dX10_peels_219 : decode cX10_peels 219 = .ok (.getfield 22, 3) := by decide +kernel
theorem dX10_peels_222 : decode cX10_peels 222 = .ok (.iconst 0, 1) := by decide +kernel
theorem dX10_peels_223 : decode cX10_peels 223 = .ok (.iaload, 1) := by decide +kernel
theorem dX10_peels_224 : decode cX10_peels 224 = .ok (.if_icmp .ge 18, 3) := by decide +kernel
theorem dX10_peels_227 : decode cX10_peels 227 = .ok (.aload_n 0, 1) := by decide +kernel
theorem dX10_peels_228 : decode cX10_peels 228 = .ok (.getfield 22, 3) := by decide +kernel
theorem dX10_peels_231 : decode cX10_peels 231 = .ok (.bipush 13, 2) := by decide +kernel
theorem dX10_peels_233 : decode cX10_peels 233 = .ok (.iload 6, 2) := by decide +kernel
theorem dX10_peels_235 : decode cX10_peels 235 = .ok (.iadd, 1) := by decide +kernel
theorem dX10_peels_236 : decode cX10_peels 236 = .ok (.iconst 1, 1) := by decide +kernel
theorem dX10_peels_237 : decode cX10_peels 237 = .ok (.iadd, 1) := by decide +kernel
theorem dX10_peels_238 : decode cX10_peels 238 = .ok (.iaload, 1) := by decide +kernel
theorem dX10_peels_239 : decode cX10_peels 239 = .ok (.goto 4, 3) := by decide +kernel
theorem dX10_peels_242 : decode cX10_peels 242 = .ok (.iconst 0, 1) := by decide +kernel
theorem dX10_peels_243 : decode cX10_peels 243 = .ok (.iastore, 1) := by decide +kernel
theorem dX10_peels_244 : decode cX10_peels 244 = .ok (.iinc 6 1, 3) := by decide +kernel
theorem dX10_peels_247 : decode cX10_peels 247 = .ok (.goto (-82), 3) := by decide +kernel
theorem dX10_peels_250 : decode cX10_peels 250 = .ok (.aload_n 0, 1) := by decide +kernel
theorem dX10_peels_251 : decode cX10_peels 251 = .ok (.getfield 22, 3) := by decide +kernel
theorem dX10_peels_254 : decode cX10_peels 254 = .ok (.bipush 27, 2) := by decide +kernel
theorem dX10_peels_256 : decode cX10_peels 256 = .ok (.aload_n 0, 1) := by decide +kernel
theorem dX10_peels_257 : decode cX10_peels 257 = .ok (.getfield 22, 3) := by decide +kernel
theorem dX10_peels_260 : decode cX10_peels 260 = .ok (.iconst 0, 1) := by decide +kernel
theorem dX10_peels_261 : decode cX10_peels 261 = .ok (.iaload, 1) := by decide +kernel
theorem dX10_peels_262 : decode cX10_peels 262 = .ok (.ifCond .ne 10, 3) := by decide +kernel
theorem dX10_peels_265 : decode cX10_peels 265 = .ok (.aload_n 0, 1) := by decide +kernel
theorem dX10_peels_266 : decode cX10_peels 266 = .ok (.getfield 161, 3) := by decide +kernel
theorem dX10_peels_269 : decode cX10_peels 269 = .ok (.goto 10, 3) := by decide +kernel
theorem dX10_peels_272 : decode cX10_peels 272 = .ok (.aload_n 0, 1) := by decide +kernel
theorem dX10_peels_273 : decode cX10_peels 273 = .ok (.getfield 22, 3) := by decide +kernel
theorem dX10_peels_276 : decode cX10_peels 276 = .ok (.bipush 27, 2) := by decide +kernel
theorem dX10_peels_278 : decode cX10_peels 278 = .ok (.iaload, 1) := by decide +kernel
theorem dX10_peels_279 : decode cX10_peels 279 = .ok (.iastore, 1) := by decide +kernel
theorem dX10_peels_280 : decode cX10_peels 280 = .ok (.iload 4, 2) := by decide +kernel
theorem dX10_peels_282 : decode cX10_peels 282 = .ok (.ireturn, 1) := by decide +kernel
theorem dX10_grows_0 : decode cX10_grows 0 = .ok (.aload_n 0, 1) := by decide +kernel
theorem dX10_grows_1 : decode cX10_grows 1 = .ok (.getfield 22, 3) := by decide +kernel
theorem dX10_grows_4 : decode cX10_grows 4 = .ok (.bipush 13, 2) := by decide +kernel
theorem dX10_grows_6 : decode cX10_grows 6 = .ok (.iaload, 1) := by decide +kernel
theorem dX10_grows_7 : decode cX10_grows 7 = .ok (.bipush 20, 2) := by decide +kernel
theorem dX10_grows_9 : decode cX10_grows 9 = .ok (.if_icmp .ge 17, 3) := by decide +kernel
theorem dX10_grows_12 : decode cX10_grows 12 = .ok (.aload_n 0, 1) := by decide +kernel
theorem dX10_grows_13 : decode cX10_grows 13 = .ok (.getfield 22, 3) := by decide +kernel
theorem dX10_grows_16 : decode cX10_grows 16 = .ok (.bipush 13, 2) := by decide +kernel
theorem dX10_grows_18 : decode cX10_grows 18 = .ok (.dup2, 1) := by decide +kernel
theorem dX10_grows_19 : decode cX10_grows 19 = .ok (.iaload, 1) := by decide +kernel
theorem dX10_grows_20 : decode cX10_grows 20 = .ok (.iconst 1, 1) := by decide +kernel
theorem dX10_grows_21 : decode cX10_grows 21 = .ok (.iadd, 1) := by decide +kernel
theorem dX10_grows_22 : decode cX10_grows 22 = .ok (.iastore, 1) := by decide +kernel
theorem dX10_grows_23 : decode cX10_grows 23 = .ok (.goto 94, 3) := by decide +kernel
theorem dX10_grows_26 : decode cX10_grows 26 = .ok (.aload_n 0, 1) := by decide +kernel
theorem dX10_grows_27 : decode cX10_grows 27 = .ok (.getfield 22, 3) := by decide +kernel
theorem dX10_grows_30 : decode cX10_grows 30 = .ok (.iconst 0, 1) := by decide +kernel
theorem dX10_grows_31 : decode cX10_grows 31 = .ok (.iaload, 1) := by decide +kernel
theorem dX10_grows_32 : decode cX10_grows 32 = .ok (.bipush 12, 2) := by decide +kernel
theorem dX10_grows_34 : decode cX10_grows 34 = .ok (.if_icmp .ge 83, 3) := by decide +kernel
theorem dX10_grows_37 : decode cX10_grows 37 = .ok (.aload_n 0, 1) := by decide +kernel
theorem dX10_grows_38 : decode cX10_grows 38 = .ok (.getfield 22, 3) := by decide +kernel
theorem dX10_grows_41 : decode cX10_grows 41 = .ok (.iconst 0, 1) := by decide +kernel
theorem dX10_grows_42 : decode cX10_grows 42 = .ok (.iaload, 1) := by decide +kernel
theorem dX10_grows_43 : decode cX10_grows 43 = .ok (.istore_n 1, 1) := by decide +kernel
theorem dX10_grows_44 : decode cX10_grows 44 = .ok (.iload_n 1, 1) := by decide +kernel
theorem dX10_grows_45 : decode cX10_grows 45 = .ok (.ifCond .le 47, 3) := by decide +kernel
theorem dX10_grows_48 : decode cX10_grows 48 = .ok (.aload_n 0, 1) := by decide +kernel
theorem dX10_grows_49 : decode cX10_grows 49 = .ok (.getfield 22, 3) := by decide +kernel
theorem dX10_grows_52 : decode cX10_grows 52 = .ok (.iconst 1, 1) := by decide +kernel
theorem dX10_grows_53 : decode cX10_grows 53 = .ok (.iload_n 1, 1) := by decide +kernel
theorem dX10_grows_54 : decode cX10_grows 54 = .ok (.iadd, 1) := by decide +kernel
theorem dX10_grows_55 : decode cX10_grows 55 = .ok (.aload_n 0, 1) := by decide +kernel
theorem dX10_grows_56 : decode cX10_grows 56 = .ok (.getfield 22, 3) := by decide +kernel
theorem dX10_grows_59 : decode cX10_grows 59 = .ok (.iconst 1, 1) := by decide +kernel
theorem dX10_grows_60 : decode cX10_grows 60 = .ok (.iload_n 1, 1) := by decide +kernel
theorem dX10_grows_61 : decode cX10_grows 61 = .ok (.iadd, 1) := by decide +kernel
theorem dX10_grows_62 : decode cX10_grows 62 = .ok (.iconst 1, 1) := by decide +kernel
theorem dX10_grows_63 : decode cX10_grows 63 = .ok (.isub, 1) := by decide +kernel
theorem dX10_grows_64 : decode cX10_grows 64 = .ok (.iaload, 1) := by decide +kernel
theorem dX10_grows_65 : decode cX10_grows 65 = .ok (.iastore, 1) := by decide +kernel
theorem dX10_grows_66 : decode cX10_grows 66 = .ok (.aload_n 0, 1) := by decide +kernel
theorem dX10_grows_67 : decode cX10_grows 67 = .ok (.getfield 22, 3) := by decide +kernel
theorem dX10_grows_70 : decode cX10_grows 70 = .ok (.bipush 13, 2) := by decide +kernel
theorem dX10_grows_72 : decode cX10_grows 72 = .ok (.iload_n 1, 1) := by decide +kernel
theorem dX10_grows_73 : decode cX10_grows 73 = .ok (.iadd, 1) := by decide +kernel
theorem dX10_grows_74 : decode cX10_grows 74 = .ok (.aload_n 0, 1) := by decide +kernel
theorem dX10_grows_75 : decode cX10_grows 75 = .ok (.getfield 22, 3) := by decide +kernel
theorem dX10_grows_78 : decode cX10_grows 78 = .ok (.bipush 13, 2) := by decide +kernel
theorem dX10_grows_80 : decode cX10_grows 80 = .ok (.iload_n 1, 1) := by decide +kernel
theorem dX10_grows_81 : decode cX10_grows 81 = .ok (.iadd, 1) := by decide +kernel
theorem dX10_grows_82 : decode cX10_grows 82 = .ok (.iconst 1, 1) := by decide +kernel
theorem dX10_grows_83 : decode cX10_grows 83 = .ok (.isub, 1) := by decide +kernel
theorem dX10_grows_84 : decode cX10_grows 84 = .ok (.iaload, 1) := by decide +kernel
theorem dX10_grows_85 : decode cX10_grows 85 = .ok (.iastore, 1) := by decide +kernel
theorem dX10_grows_86 : decode cX10_grows 86 = .ok (.iinc 1 (-1), 3) := by decide +kernel
theorem dX10_grows_89 : decode cX10_grows 89 = .ok (.goto (-45), 3) := by decide +kernel
theorem dX10_grows_92 : decode cX10_grows 92 = .ok (.aload_n 0, 1) := by decide +kernel
theorem dX10_grows_93 : decode cX10_grows 93 = .ok (.getfield 22, 3) := by decide +kernel
theorem dX10_grows_96 : decode cX10_grows 96 = .ok (.iconst 1, 1) := by decide +kernel
theorem dX10_grows_97 : decode cX10_grows 97 = .ok (.iconst 2, 1) := by decide +kernel
theorem dX10_grows_98 : decode cX10_grows 98 = .ok (.iastore, 1) := by decide +kernel
theorem dX10_grows_99 : decode cX10_grows 99 = .ok (.aload_n 0, 1) := by decide +kernel
theorem dX10_grows_100 : decode cX10_grows 100 = .ok (.getfield 22, 3) := by decide +kernel
theorem dX10_grows_103 : decode cX10_grows 103 = .ok (.bipush 13, 2) := by decide +kernel
theorem dX10_grows_105 : decode cX10_grows 105 = .ok (.iconst 1, 1) := by decide +kernel
theorem dX10_grows_106 : decode cX10_grows 106 = .ok (.iastore, 1) := by decide +kernel
theorem dX10_grows_107 : decode cX10_grows 107 = .ok (.aload_n 0, 1) := by decide +kernel
theorem dX10_grows_108 : decode cX10_grows 108 = .ok (.getfield 22, 3) := by decide +kernel
theorem dX10_grows_111 : decode cX10_grows 111 = .ok (.iconst 0, 1) := by decide +kernel
theorem dX10_grows_112 : decode cX10_grows 112 = .ok (.dup2, 1) := by decide +kernel
theorem dX10_grows_113 : decode cX10_grows 113 = .ok (.iaload, 1) := by decide +kernel
theorem dX10_grows_114 : decode cX10_grows 114 = .ok (.iconst 1, 1) := by decide +kernel
theorem dX10_grows_115 : decode cX10_grows 115 = .ok (.iadd, 1) := by decide +kernel
theorem dX10_grows_116 : decode cX10_grows 116 = .ok (.iastore, 1) := by decide +kernel
theorem dX10_grows_117 : decode cX10_grows 117 = .ok (.return_, 1) := by decide +kernel
theorem dX10_passes_0 : decode cX10_passes 0 = .ok (.iconst 0, 1) := by decide +kernel
theorem dX10_passes_1 : decode cX10_passes 1 = .ok (.istore_n 1, 1) := by decide +kernel
theorem dX10_passes_2 : decode cX10_passes 2 = .ok (.iload_n 1, 1) := by decide +kernel
theorem dX10_passes_3 : decode cX10_passes 3 = .ok (.aload_n 0, 1) := by decide +kernel
theorem dX10_passes_4 : decode cX10_passes 4 = .ok (.getfield 22, 3) := by decide +kernel
theorem dX10_passes_7 : decode cX10_passes 7 = .ok (.iconst 0, 1) := by decide +kernel
theorem dX10_passes_8 : decode cX10_passes 8 = .ok (.iaload, 1) := by decide +kernel
theorem dX10_passes_9 : decode cX10_passes 9 = .ok (.if_icmp .ge 52, 3) := by decide +kernel
theorem dX10_passes_12 : decode cX10_passes 12 = .ok (.aload_n 0, 1) := by decide +kernel
theorem dX10_passes_13 : decode cX10_passes 13 = .ok (.getfield 22, 3) := by decide +kernel
theorem dX10_passes_16 : decode cX10_passes 16 = .ok (.bipush 13, 2) := by decide +kernel
theorem dX10_passes_18 : decode cX10_passes 18 = .ok (.iload_n 1, 1) := by decide +kernel
theorem dX10_passes_19 : decode cX10_passes 19 = .ok (.iadd, 1) := by decide +kernel
theorem dX10_passes_20 : decode cX10_passes 20 = .ok (.dup2, 1) := by decide +kernel
theorem dX10_passes_21 : decode cX10_passes 21 = .ok (.iaload, 1) := by decide +kernel
theorem dX10_passes_22 : decode cX10_passes 22 = .ok (.aload_n 0, 1) := by decide +kernel
theorem dX10_passes_23 : decode cX10_passes 23 = .ok (.getfield 22, 3) := by decide +kernel
theorem dX10_passes_26 : decode cX10_passes 26 = .ok (.iconst 1, 1) := by decide +kernel
theorem dX10_passes_27 : decode cX10_passes 27 = .ok (.iload_n 1, 1) := by decide +kernel
theorem dX10_passes_28 : decode cX10_passes 28 = .ok (.iadd, 1) := by decide +kernel
theorem dX10_passes_29 : decode cX10_passes 29 = .ok (.iaload, 1) := by decide +kernel
theorem dX10_passes_30 : decode cX10_passes 30 = .ok (.iconst 3, 1) := by decide +kernel
theorem dX10_passes_31 : decode cX10_passes 31 = .ok (.if_icmp .ne 21, 3) := by decide +kernel
theorem dX10_passes_34 : decode cX10_passes 34 = .ok (.aload_n 0, 1) := by decide +kernel
theorem dX10_passes_35 : decode cX10_passes 35 = .ok (.getfield 22, 3) := by decide +kernel
theorem dX10_passes_38 : decode cX10_passes 38 = .ok (.bipush 13, 2) := by decide +kernel
theorem dX10_passes_40 : decode cX10_passes 40 = .ok (.iload_n 1, 1) := by decide +kernel
theorem dX10_passes_41 : decode cX10_passes 41 = .ok (.iadd, 1) := by decide +kernel
theorem dX10_passes_42 : decode cX10_passes 42 = .ok (.iaload, 1) := by decide +kernel
theorem dX10_passes_43 : decode cX10_passes 43 = .ok (.bipush 20, 2) := by decide +kernel
theorem dX10_passes_45 : decode cX10_passes 45 = .ok (.if_icmp .ge 7, 3) := by decide +kernel
theorem dX10_passes_48 : decode cX10_passes 48 = .ok (.iconst 1, 1) := by decide +kernel
theorem dX10_passes_49 : decode cX10_passes 49 = .ok (.goto 4, 3) := by decide +kernel
theorem dX10_passes_52 : decode cX10_passes 52 = .ok (.iconst 0, 1) := by decide +kernel
theorem dX10_passes_53 : decode cX10_passes 53 = .ok (.iadd, 1) := by decide +kernel
theorem dX10_passes_54 : decode cX10_passes 54 = .ok (.iastore, 1) := by decide +kernel
theorem dX10_passes_55 : decode cX10_passes 55 = .ok (.iinc 1 1, 3) := by decide +kernel
theorem dX10_passes_58 : decode cX10_passes 58 = .ok (.goto (-56), 3) := by decide +kernel
theorem dX10_passes_61 : decode cX10_passes 61 = .ok (.iconst 0, 1) := by decide +kernel
theorem dX10_passes_62 : decode cX10_passes 62 = .ok (.istore_n 1, 1) := by decide +kernel
theorem dX10_passes_63 : decode cX10_passes 63 = .ok (.iload_n 1, 1) := by decide +kernel
theorem dX10_passes_64 : decode cX10_passes 64 = .ok (.aload_n 0, 1) := by decide +kernel
theorem dX10_passes_65 : decode cX10_passes 65 = .ok (.getfield 91, 3) := by decide +kernel
theorem dX10_passes_68 : decode cX10_passes 68 = .ok (.if_icmp .ge 56, 3) := by decide +kernel
theorem dX10_passes_71 : decode cX10_passes 71 = .ok (.aload_n 0, 1) := by decide +kernel
theorem dX10_passes_72 : decode cX10_passes 72 = .ok (.getfield 22, 3) := by decide +kernel
theorem dX10_passes_75 : decode cX10_passes 75 = .ok (.bipush 34, 2) := by decide +kernel
theorem dX10_passes_77 : decode cX10_passes 77 = .ok (.iload_n 1, 1) := by decide +kernel
theorem dX10_passes_78 : decode cX10_passes 78 = .ok (.iadd, 1) := by decide +kernel
theorem dX10_passes_79 : decode cX10_passes 79 = .ok (.aload_n 0, 1) := by decide +kernel
theorem dX10_passes_80 : decode cX10_passes 80 = .ok (.getfield 22, 3) := by decide +kernel
theorem dX10_passes_83 : decode cX10_passes 83 = .ok (.bipush 34, 2) := by decide +kernel
theorem dX10_passes_85 : decode cX10_passes 85 = .ok (.iload_n 1, 1) := by decide +kernel
theorem dX10_passes_86 : decode cX10_passes 86 = .ok (.iadd, 1) := by decide +kernel
theorem dX10_passes_87 : decode cX10_passes 87 = .ok (.iaload, 1) := by decide +kernel
theorem dX10_passes_88 : decode cX10_passes 88 = .ok (.aload_n 0, 1) := by decide +kernel
theorem dX10_passes_89 : decode cX10_passes 89 = .ok (.getfield 13, 3) := by decide +kernel
theorem dX10_passes_92 : decode cX10_passes 92 = .ok (.iload_n 1, 1) := by decide +kernel
theorem dX10_passes_93 : decode cX10_passes 93 = .ok (.iaload, 1) := by decide +kernel
theorem dX10_passes_94 : decode cX10_passes 94 = .ok (.if_icmp .le 22, 3) := by decide +kernel
theorem dX10_passes_97 : decode cX10_passes 97 = .ok (.aload_n 0, 1) := by decide +kernel
theorem dX10_passes_98 : decode cX10_passes 98 = .ok (.getfield 22, 3) := by decide +kernel
theorem dX10_passes_101 : decode cX10_passes 101 = .ok (.bipush 34, 2) := by decide +kernel
theorem dX10_passes_103 : decode cX10_passes 103 = .ok (.iload_n 1, 1) := by decide +kernel
theorem dX10_passes_104 : decode cX10_passes 104 = .ok (.iadd, 1) := by decide +kernel
theorem dX10_passes_105 : decode cX10_passes 105 = .ok (.iaload, 1) := by decide +kernel
theorem dX10_passes_106 : decode cX10_passes 106 = .ok (.aload_n 0, 1) := by decide +kernel
theorem dX10_passes_107 : decode cX10_passes 107 = .ok (.getfield 13, 3) := by decide +kernel
theorem dX10_passes_110 : decode cX10_passes 110 = .ok (.iload_n 1, 1) := by decide +kernel
theorem dX10_passes_111 : decode cX10_passes 111 = .ok (.iaload, 1) := by decide +kernel
theorem dX10_passes_112 : decode cX10_passes 112 = .ok (.isub, 1) := by decide +kernel
theorem dX10_passes_113 : decode cX10_passes 113 = .ok (.goto 4, 3) := by decide +kernel
theorem dX10_passes_116 : decode cX10_passes 116 = .ok (.iconst 0, 1) := by decide +kernel
theorem dX10_passes_117 : decode cX10_passes 117 = .ok (.iastore, 1) := by decide +kernel
theorem dX10_passes_118 : decode cX10_passes 118 = .ok (.iinc 1 1, 3) := by decide +kernel
theorem dX10_passes_121 : decode cX10_passes 121 = .ok (.goto (-58), 3) := by decide +kernel
theorem dX10_passes_124 : decode cX10_passes 124 = .ok (.aload_n 0, 1) := by decide +kernel
theorem dX10_passes_125 : decode cX10_passes 125 = .ok (.getfield 22, 3) := by decide +kernel
theorem dX10_passes_128 : decode cX10_passes 128 = .ok (.bipush 25, 2) := by decide +kernel
theorem dX10_passes_130 : decode cX10_passes 130 = .ok (.dup2, 1) := by decide +kernel
theorem dX10_passes_131 : decode cX10_passes 131 = .ok (.iaload, 1) := by decide +kernel
theorem dX10_passes_132 : decode cX10_passes 132 = .ok (.iconst 1, 1) := by decide +kernel
theorem dX10_passes_133 : decode cX10_passes 133 = .ok (.iadd, 1) := by decide +kernel
theorem dX10_passes_134 : decode cX10_passes 134 = .ok (.iastore, 1) := by decide +kernel
theorem dX10_passes_135 : decode cX10_passes 135 = .ok (.return_, 1) := by decide +kernel
theorem dX10_canPeel_0 : decode cX10_canPeel 0 = .ok (.aload_n 0, 1) := by decide +kernel
theorem dX10_canPeel_1 : decode cX10_canPeel 1 = .ok (.getfield 22, 3) := by decide +kernel
theorem dX10_canPeel_4 : decode cX10_canPeel 4 = .ok (.iconst 0, 1) := by decide +kernel
theorem dX10_canPeel_5 : decode cX10_canPeel 5 = .ok (.iaload, 1) := by decide +kernel
theorem dX10_canPeel_6 : decode cX10_canPeel 6 = .ok (.ifCond .le 17, 3) := by decide +kernel
theorem dX10_canPeel_9 : decode cX10_canPeel 9 = .ok (.aload_n 0, 1) := by decide +kernel
theorem dX10_canPeel_10 : decode cX10_canPeel 10 = .ok (.getfield 22, 3) := by decide +kernel
theorem dX10_canPeel_13 : decode cX10_canPeel 13 = .ok (.bipush 26, 2) := by decide +kernel
theorem dX10_canPeel_15 : decode cX10_canPeel 15 = .ok (.iaload, 1) := by decide +kernel
theorem dX10_canPeel_16 : decode cX10_canPeel 16 = .ok (.ifCond .ne 7, 3) := by decide +kernel
theorem dX10_canPeel_19 : decode cX10_canPeel 19 = .ok (.iconst 1, 1) := by decide +kernel
theorem dX10_canPeel_20 : decode cX10_canPeel 20 = .ok (.goto 4, 3) := by decide +kernel
theorem dX10_canPeel_23 : decode cX10_canPeel 23 = .ok (.iconst 0, 1) := by decide +kernel
theorem dX10_canPeel_24 : decode cX10_canPeel 24 = .ok (.ireturn, 1) := by decide +kernel
theorem dX10_peel_0 : decode cX10_peel 0 = .ok (.aload_n 0, 1) := by decide +kernel
theorem dX10_peel_1 : decode cX10_peel 1 = .ok (.iload_n 1, 1) := by decide +kernel
theorem dX10_peel_2 : decode cX10_peel 2 = .ok (.invokevirtual 230, 3) := by decide +kernel
theorem dX10_peel_5 : decode cX10_peel 5 = .ok (.ifCond .ne 6, 3) := by decide +kernel
theorem dX10_peel_8 : decode cX10_peel 8 = .ok (.ldc 223, 2) := by decide +kernel
theorem dX10_peel_10 : decode cX10_peel 10 = .ok (.ireturn, 1) := by decide +kernel
theorem dX10_peel_11 : decode cX10_peel 11 = .ok (.aload_n 0, 1) := by decide +kernel
theorem dX10_peel_12 : decode cX10_peel 12 = .ok (.invokevirtual 244, 3) := by decide +kernel
theorem dX10_peel_15 : decode cX10_peel 15 = .ok (.ifCond .ne 6, 3) := by decide +kernel
theorem dX10_peel_18 : decode cX10_peel 18 = .ok (.ldc 248, 2) := by decide +kernel
theorem dX10_peel_20 : decode cX10_peel 20 = .ok (.ireturn, 1) := by decide +kernel
theorem dX10_peel_21 : decode cX10_peel 21 = .ok (.aload_n 0, 1) := by decide +kernel
theorem dX10_peel_22 : decode cX10_peel 22 = .ok (.invokevirtual 249, 3) := by decide +kernel
theorem dX10_peel_25 : decode cX10_peel 25 = .ok (.aload_n 0, 1) := by decide +kernel
theorem dX10_peel_26 : decode cX10_peel 26 = .ok (.iload_n 1, 1) := by decide +kernel
theorem dX10_peel_27 : decode cX10_peel 27 = .ok (.invokevirtual 252, 3) := by decide +kernel
theorem dX10_peel_30 : decode cX10_peel 30 = .ok (.ireturn, 1) := by decide +kernel
theorem dX10_stop_0 : decode cX10_stop 0 = .ok (.aload_n 0, 1) := by decide +kernel
theorem dX10_stop_1 : decode cX10_stop 1 = .ok (.getfield 157, 3) := by decide +kernel
theorem dX10_stop_4 : decode cX10_stop 4 = .ok (.ifCond .ne 6, 3) := by decide +kernel
theorem dX10_stop_7 : decode cX10_stop 7 = .ok (.ldc 248, 2) := by decide +kernel
theorem dX10_stop_9 : decode cX10_stop 9 = .ok (.ireturn, 1) := by decide +kernel
theorem dX10_stop_10 : decode cX10_stop 10 = .ok (.aload_n 0, 1) := by decide +kernel
theorem dX10_stop_11 : decode cX10_stop 11 = .ok (.invokevirtual 249, 3) := by decide +kernel
theorem dX10_stop_14 : decode cX10_stop 14 = .ok (.aload_n 0, 1) := by decide +kernel
theorem dX10_stop_15 : decode cX10_stop 15 = .ok (.getfield 22, 3) := by decide +kernel
theorem dX10_stop_18 : decode cX10_stop 18 = .ok (.bipush 26, 2) := by decide +kernel
theorem dX10_stop_20 : decode cX10_stop 20 = .ok (.iaload, 1) := by decide +kernel
theorem dX10_stop_21 : decode cX10_stop 21 = .ok (.istore_n 2, 1) := by decide +kernel
theorem dX10_stop_22 : decode cX10_stop 22 = .ok (.aload_n 0, 1) := by decide +kernel
theorem dX10_stop_23 : decode cX10_stop 23 = .ok (.getfield 22, 3) := by decide +kernel
theorem dX10_stop_26 : decode cX10_stop 26 = .ok (.bipush 26, 2) := by decide +kernel
theorem dX10_stop_28 : decode cX10_stop 28 = .ok (.iload_n 1, 1) := by decide +kernel
theorem dX10_stop_29 : decode cX10_stop 29 = .ok (.ifCond .eq 7, 3) := by decide +kernel
theorem dX10_stop_32 : decode cX10_stop 32 = .ok (.iconst 1, 1) := by decide +kernel
theorem dX10_stop_33 : decode cX10_stop 33 = .ok (.goto 4, 3) := by decide +kernel
theorem dX10_stop_36 : decode cX10_stop 36 = .ok (.iconst 0, 1) := by decide +kernel
theorem dX10_stop_37 : decode cX10_stop 37 = .ok (.iastore, 1) := by decide +kernel
theorem dX10_stop_38 : decode cX10_stop 38 = .ok (.iload_n 2, 1) := by decide +kernel
theorem dX10_stop_39 : decode cX10_stop 39 = .ok (.ireturn, 1) := by decide +kernel
theorem dX10_visit_0 : decode cX10_visit 0 = .ok (.aload_n 0, 1) := by decide +kernel
theorem dX10_visit_1 : decode cX10_visit 1 = .ok (.getfield 22, 3) := by decide +kernel
theorem dX10_visit_4 : decode cX10_visit 4 = .ok (.iconst 0, 1) := by decide +kernel
theorem dX10_visit_5 : decode cX10_visit 5 = .ok (.iaload, 1) := by decide +kernel
theorem dX10_visit_6 : decode cX10_visit 6 = .ok (.ifCond .ne 6, 3) := by decide +kernel
theorem dX10_visit_9 : decode cX10_visit 9 = .ok (.ldc 248, 2) := by decide +kernel
theorem dX10_visit_11 : decode cX10_visit 11 = .ok (.ireturn, 1) := by decide +kernel
theorem dX10_visit_12 : decode cX10_visit 12 = .ok (.aload_n 0, 1) := by decide +kernel
theorem dX10_visit_13 : decode cX10_visit 13 = .ok (.invokevirtual 249, 3) := by decide +kernel
theorem dX10_visit_16 : decode cX10_visit 16 = .ok (.aload_n 0, 1) := by decide +kernel
theorem dX10_visit_17 : decode cX10_visit 17 = .ok (.invokevirtual 255, 3) := by decide +kernel
theorem dX10_visit_20 : decode cX10_visit 20 = .ok (.aload_n 0, 1) := by decide +kernel
theorem dX10_visit_21 : decode cX10_visit 21 = .ok (.getfield 22, 3) := by decide +kernel
theorem dX10_visit_24 : decode cX10_visit 24 = .ok (.bipush 13, 2) := by decide +kernel
theorem dX10_visit_26 : decode cX10_visit 26 = .ok (.iaload, 1) := by decide +kernel
theorem dX10_visit_27 : decode cX10_visit 27 = .ok (.ireturn, 1) := by decide +kernel
theorem dX10_yearsRefused_0 : decode cX10_yearsRefused 0 = .ok (.iload_n 1, 1) := by decide +kernel
theorem dX10_yearsRefused_1 : decode cX10_yearsRefused 1 = .ok (.i2l, 1) := by decide +kernel
theorem dX10_yearsRefused_2 : decode cX10_yearsRefused 2 = .ok (.lconst 1, 1) := by decide +kernel
theorem dX10_yearsRefused_3 : decode cX10_yearsRefused 3 = .ok (.ldc2_w 258, 3) := by decide +kernel
theorem dX10_yearsRefused_6 : decode cX10_yearsRefused 6 = .ok (.invokestatic 87, 3) := by decide +kernel
theorem dX10_yearsRefused_9 : decode cX10_yearsRefused 9 = .ok (.ifCond .ne 6, 3) := by decide +kernel
theorem dX10_yearsRefused_12 : decode cX10_yearsRefused 12 = .ok (.ldc 96, 2) := by decide +kernel
theorem dX10_yearsRefused_14 : decode cX10_yearsRefused 14 = .ok (.ireturn, 1) := by decide +kernel
theorem dX10_yearsRefused_15 : decode cX10_yearsRefused 15 = .ok (.aload_n 0, 1) := by decide +kernel
theorem dX10_yearsRefused_16 : decode cX10_yearsRefused 16 = .ok (.getfield 157, 3) := by decide +kernel
theorem dX10_yearsRefused_19 : decode cX10_yearsRefused 19 = .ok (.ifCond .ne 8, 3) := by decide +kernel
theorem dX10_yearsRefused_22 : decode cX10_yearsRefused 22 = .ok (.ldc 248, 2) := by decide +kernel
theorem dX10_yearsRefused_24 : decode cX10_yearsRefused 24 = .ok (.goto 22, 3) := by decide +kernel
theorem dX10_yearsRefused_27 : decode cX10_yearsRefused 27 = .ok (.aload_n 0, 1) := by decide +kernel
theorem dX10_yearsRefused_28 : decode cX10_yearsRefused 28 = .ok (.getfield 22, 3) := by decide +kernel
theorem dX10_yearsRefused_31 : decode cX10_yearsRefused 31 = .ok (.bipush 25, 2) := by decide +kernel
theorem dX10_yearsRefused_33 : decode cX10_yearsRefused 33 = .ok (.iaload, 1) := by decide +kernel
theorem dX10_yearsRefused_34 : decode cX10_yearsRefused 34 = .ok (.sipush 9000, 3) := by decide +kernel
theorem dX10_yearsRefused_37 : decode cX10_yearsRefused 37 = .ok (.if_icmp .le 8, 3) := by decide +kernel
theorem dX10_yearsRefused_40 : decode cX10_yearsRefused 40 = .ok (.ldc 100, 2) := by decide +kernel
theorem dX10_yearsRefused_42 : decode cX10_yearsRefused 42 = .ok (.goto 4, 3) := by decide +kernel
theorem dX10_yearsRefused_45 : decode cX10_yearsRefused 45 = .ok (.iconst 0, 1) := by decide +kernel
theorem dX10_yearsRefused_46 : decode cX10_yearsRefused 46 = .ok (.ireturn, 1) := by decide +kernel
theorem dX10_year_0 : decode cX10_year 0 = .ok (.aload_n 0, 1) := by decide +kernel
theorem dX10_year_1 : decode cX10_year 1 = .ok (.iload_n 1, 1) := by decide +kernel
theorem dX10_year_2 : decode cX10_year 2 = .ok (.invokevirtual 260, 3) := by decide +kernel
theorem dX10_year_5 : decode cX10_year 5 = .ok (.istore_n 2, 1) := by decide +kernel
theorem dX10_year_6 : decode cX10_year 6 = .ok (.iload_n 2, 1) := by decide +kernel
theorem dX10_year_7 : decode cX10_year 7 = .ok (.ifCond .eq 5, 3) := by decide +kernel
theorem dX10_year_10 : decode cX10_year 10 = .ok (.iload_n 2, 1) := by decide +kernel
theorem dX10_year_11 : decode cX10_year 11 = .ok (.ireturn, 1) := by decide +kernel
theorem dX10_year_12 : decode cX10_year 12 = .ok (.iconst 0, 1) := by decide +kernel
theorem dX10_year_13 : decode cX10_year 13 = .ok (.istore_n 3, 1) := by decide +kernel
theorem dX10_year_14 : decode cX10_year 14 = .ok (.iload_n 3, 1) := by decide +kernel
theorem dX10_year_15 : decode cX10_year 15 = .ok (.iload_n 1, 1) := by decide +kernel
theorem dX10_year_16 : decode cX10_year 16 = .ok (.if_icmp .ge 17, 3) := by decide +kernel
theorem dX10_year_19 : decode cX10_year 19 = .ok (.aload_n 0, 1) := by decide +kernel
theorem dX10_year_20 : decode cX10_year 20 = .ok (.invokevirtual 249, 3) := by decide +kernel
theorem dX10_year_23 : decode cX10_year 23 = .ok (.aload_n 0, 1) := by decide +kernel
theorem dX10_year_24 : decode cX10_year 24 = .ok (.invokevirtual 263, 3) := by decide +kernel
theorem dX10_year_27 : decode cX10_year 27 = .ok (.iinc 3 1, 3) := by decide +kernel
theorem dX10_year_30 : decode cX10_year 30 = .ok (.goto (-16), 3) := by decide +kernel
theorem dX10_year_33 : decode cX10_year 33 = .ok (.aload_n 0, 1) := by decide +kernel
theorem dX10_year_34 : decode cX10_year 34 = .ok (.getfield 22, 3) := by decide +kernel
theorem dX10_year_37 : decode cX10_year 37 = .ok (.bipush 25, 2) := by decide +kernel
theorem dX10_year_39 : decode cX10_year 39 = .ok (.iaload, 1) := by decide +kernel
theorem dX10_year_40 : decode cX10_year 40 = .ok (.ireturn, 1) := by decide +kernel
theorem dX10_draw_0 : decode cX10_draw 0 = .ok (.aload_n 0, 1) := by decide +kernel
theorem dX10_draw_1 : decode cX10_draw 1 = .ok (.aload_n 0, 1) := by decide +kernel
theorem dX10_draw_2 : decode cX10_draw 2 = .ok (.getfield 266, 3) := by decide +kernel
theorem dX10_draw_5 : decode cX10_draw 5 = .ok (.i2l, 1) := by decide +kernel
theorem dX10_draw_6 : decode cX10_draw 6 = .ok (.ldc2_w 269, 3) := by decide +kernel
theorem dX10_draw_9 : decode cX10_draw 9 = .ok (.lmul, 1) := by decide +kernel
theorem dX10_draw_10 : decode cX10_draw 10 = .ok (.ldc2_w 271, 3) := by decide +kernel
theorem dX10_draw_13 : decode cX10_draw 13 = .ok (.ladd, 1) := by decide +kernel
theorem dX10_draw_14 : decode cX10_draw 14 = .ok (.ldc2_w 273, 3) := by decide +kernel
theorem dX10_draw_17 : decode cX10_draw 17 = .ok (.lrem, 1) := by decide +kernel
theorem dX10_draw_18 : decode cX10_draw 18 = .ok (.l2i, 1) := by decide +kernel
theorem dX10_draw_19 : decode cX10_draw 19 = .ok (.putfield 266, 3) := by decide +kernel
theorem dX10_draw_22 : decode cX10_draw 22 = .ok (.aload_n 0, 1) := by decide +kernel
theorem dX10_draw_23 : decode cX10_draw 23 = .ok (.getfield 266, 3) := by decide +kernel
theorem dX10_draw_26 : decode cX10_draw 26 = .ok (.ldc_w 275, 3) := by decide +kernel
theorem dX10_draw_29 : decode cX10_draw 29 = .ok (.idiv, 1) := by decide +kernel
theorem dX10_draw_30 : decode cX10_draw 30 = .ok (.iload_n 1, 1) := by decide +kernel
theorem dX10_draw_31 : decode cX10_draw 31 = .ok (.irem, 1) := by decide +kernel
theorem dX10_draw_32 : decode cX10_draw 32 = .ok (.ireturn, 1) := by decide +kernel
theorem dX10_chance_0 : decode cX10_chance 0 = .ok (.aload_n 0, 1) := by decide +kernel
theorem dX10_chance_1 : decode cX10_chance 1 = .ok (.bipush 6, 2) := by decide +kernel
theorem dX10_chance_3 : decode cX10_chance 3 = .ok (.invokevirtual 276, 3) := by decide +kernel
theorem dX10_chance_6 : decode cX10_chance 6 = .ok (.istore_n 1, 1) := by decide +kernel
theorem dX10_chance_7 : decode cX10_chance 7 = .ok (.iload_n 1, 1) := by decide +kernel
theorem dX10_chance_8 : decode cX10_chance 8 = .ok (.iconst 2, 1) := by decide +kernel
theorem dX10_chance_9 : decode cX10_chance 9 = .ok (.if_icmp .ge 28, 3) := by decide +kernel
theorem dX10_chance_12 : decode cX10_chance 12 = .ok (.aload_n 0, 1) := by decide +kernel
theorem dX10_chance_13 : decode cX10_chance 13 = .ok (.aload_n 0, 1) := by decide +kernel
theorem dX10_chance_14 : decode cX10_chance 14 = .ok (.getfield 91, 3) := by decide +kernel
theorem dX10_chance_17 : decode cX10_chance 17 = .ok (.invokevirtual 276, 3) := by decide +kernel
theorem dX10_chance_20 : decode cX10_chance 20 = .ok (.istore_n 2, 1) := by decide +kernel
theorem dX10_chance_21 : decode cX10_chance 21 = .ok (.aload_n 0, 1) := by decide +kernel
theorem dX10_chance_22 : decode cX10_chance 22 = .ok (.invokevirtual 244, 3) := by decide +kernel
theorem dX10_chance_25 : decode cX10_chance 25 = .ok (.ifCond .eq 9, 3) := by decide +kernel
theorem dX10_chance_28 : decode cX10_chance 28 = .ok (.aload_n 0, 1) := by decide +kernel
theorem dX10_chance_29 : decode cX10_chance 29 = .ok (.iload_n 2, 1) := by decide +kernel
theorem dX10_chance_30 : decode cX10_chance 30 = .ok (.invokevirtual 252, 3) := by decide +kernel
theorem dX10_chance_33 : decode cX10_chance 33 = .ok (.pop, 1) := by decide +kernel
theorem dX10_chance_34 : decode cX10_chance 34 = .ok (.goto 45, 3) := by decide +kernel
theorem dX10_chance_37 : decode cX10_chance 37 = .ok (.iload_n 1, 1) := by decide +kernel
theorem dX10_chance_38 : decode cX10_chance 38 = .ok (.iconst 2, 1) := by decide +kernel
theorem dX10_chance_39 : decode cX10_chance 39 = .ok (.if_icmp .ne 19, 3) := by decide +kernel
theorem dX10_chance_42 : decode cX10_chance 42 = .ok (.aload_n 0, 1) := by decide +kernel
theorem dX10_chance_43 : decode cX10_chance 43 = .ok (.getfield 22, 3) := by decide +kernel
theorem dX10_chance_46 : decode cX10_chance 46 = .ok (.iconst 0, 1) := by decide +kernel
theorem dX10_chance_47 : decode cX10_chance 47 = .ok (.iaload, 1) := by decide +kernel
theorem dX10_chance_48 : decode cX10_chance 48 = .ok (.ifCond .le 10, 3) := by decide +kernel
theorem dX10_chance_51 : decode cX10_chance 51 = .ok (.aload_n 0, 1) := by decide +kernel
theorem dX10_chance_52 : decode cX10_chance 52 = .ok (.invokevirtual 255, 3) := by decide +kernel
theorem dX10_chance_55 : decode cX10_chance 55 = .ok (.goto 24, 3) := by decide +kernel
theorem dX10_chance_58 : decode cX10_chance 58 = .ok (.iload_n 1, 1) := by decide +kernel
theorem dX10_chance_59 : decode cX10_chance 59 = .ok (.iconst 3, 1) := by decide +kernel
theorem dX10_chance_60 : decode cX10_chance 60 = .ok (.if_icmp .ne 19, 3) := by decide +kernel
theorem dX10_chance_63 : decode cX10_chance 63 = .ok (.aload_n 0, 1) := by decide +kernel
theorem dX10_chance_64 : decode cX10_chance 64 = .ok (.getfield 22, 3) := by decide +kernel
theorem dX10_chance_67 : decode cX10_chance 67 = .ok (.bipush 26, 2) := by decide +kernel
theorem dX10_chance_69 : decode cX10_chance 69 = .ok (.iconst 1, 1) := by decide +kernel
theorem dX10_chance_70 : decode cX10_chance 70 = .ok (.aload_n 0, 1) := by decide +kernel
theorem dX10_chance_71 : decode cX10_chance 71 = .ok (.getfield 22, 3) := by decide +kernel
theorem dX10_chance_74 : decode cX10_chance 74 = .ok (.bipush 26, 2) := by decide +kernel
theorem dX10_chance_76 : decode cX10_chance 76 = .ok (.iaload, 1) := by decide +kernel
theorem dX10_chance_77 : decode cX10_chance 77 = .ok (.isub, 1) := by decide +kernel
theorem dX10_chance_78 : decode cX10_chance 78 = .ok (.iastore, 1) := by decide +kernel
theorem dX10_chance_79 : decode cX10_chance 79 = .ok (.return_, 1) := by decide +kernel
theorem dX10_drift_0 : decode cX10_drift 0 = .ok (.aload_n 0, 1) := by decide +kernel
theorem dX10_drift_1 : decode cX10_drift 1 = .ok (.iload_n 1, 1) := by decide +kernel
theorem dX10_drift_2 : decode cX10_drift 2 = .ok (.invokevirtual 260, 3) := by decide +kernel
theorem dX10_drift_5 : decode cX10_drift 5 = .ok (.istore_n 2, 1) := by decide +kernel
theorem dX10_drift_6 : decode cX10_drift 6 = .ok (.iload_n 2, 1) := by decide +kernel
theorem dX10_drift_7 : decode cX10_drift 7 = .ok (.ifCond .eq 5, 3) := by decide +kernel
theorem dX10_drift_10 : decode cX10_drift 10 = .ok (.iload_n 2, 1) := by decide +kernel
theorem dX10_drift_11 : decode cX10_drift 11 = .ok (.ireturn, 1) := by decide +kernel
theorem dX10_drift_12 : decode cX10_drift 12 = .ok (.iconst 0, 1) := by decide +kernel
theorem dX10_drift_13 : decode cX10_drift 13 = .ok (.istore_n 3, 1) := by decide +kernel
theorem dX10_drift_14 : decode cX10_drift 14 = .ok (.iload_n 3, 1) := by decide +kernel
theorem dX10_drift_15 : decode cX10_drift 15 = .ok (.iload_n 1, 1) := by decide +kernel
theorem dX10_drift_16 : decode cX10_drift 16 = .ok (.if_icmp .ge 28, 3) := by decide +kernel
theorem dX10_drift_19 : decode cX10_drift 19 = .ok (.aload_n 0, 1) := by decide +kernel
theorem dX10_drift_20 : decode cX10_drift 20 = .ok (.invokevirtual 249, 3) := by decide +kernel
theorem dX10_drift_23 : decode cX10_drift 23 = .ok (.aload_n 0, 1) := by decide +kernel
theorem dX10_drift_24 : decode cX10_drift 24 = .ok (.getfield 91, 3) := by decide +kernel
theorem dX10_drift_27 : decode cX10_drift 27 = .ok (.ifCond .le 7, 3) := by decide +kernel
theorem dX10_drift_30 : decode cX10_drift 30 = .ok (.aload_n 0, 1) := by decide +kernel
theorem dX10_drift_31 : decode cX10_drift 31 = .ok (.invokevirtual 279, 3) := by decide +kernel
theorem dX10_drift_34 : decode cX10_drift 34 = .ok (.aload_n 0, 1) := by decide +kernel
theorem dX10_drift_35 : decode cX10_drift 35 = .ok (.invokevirtual 263, 3) := by decide +kernel
theorem dX10_drift_38 : decode cX10_drift 38 = .ok (.iinc 3 1, 3) := by decide +kernel
theorem dX10_drift_41 : decode cX10_drift 41 = .ok (.goto (-27), 3) := by decide +kernel
theorem dX10_drift_44 : decode cX10_drift 44 = .ok (.aload_n 0, 1) := by decide +kernel
theorem dX10_drift_45 : decode cX10_drift 45 = .ok (.getfield 22, 3) := by decide +kernel
theorem dX10_drift_48 : decode cX10_drift 48 = .ok (.bipush 25, 2) := by decide +kernel
theorem dX10_drift_50 : decode cX10_drift 50 = .ok (.iaload, 1) := by decide +kernel
theorem dX10_drift_51 : decode cX10_drift 51 = .ok (.ireturn, 1) := by decide +kernel
theorem dX10_undo_0 : decode cX10_undo 0 = .ok (.iload_n 1, 1) := by decide +kernel
theorem dX10_undo_1 : decode cX10_undo 1 = .ok (.i2l, 1) := by decide +kernel
theorem dX10_undo_2 : decode cX10_undo 2 = .ok (.lconst 1, 1) := by decide +kernel
theorem dX10_undo_3 : decode cX10_undo 3 = .ok (.ldc2_w 258, 3) := by decide +kernel
theorem dX10_undo_6 : decode cX10_undo 6 = .ok (.invokestatic 87, 3) := by decide +kernel
theorem dX10_undo_9 : decode cX10_undo 9 = .ok (.ifCond .ne 6, 3) := by decide +kernel
theorem dX10_undo_12 : decode cX10_undo 12 = .ok (.ldc 96, 2) := by decide +kernel
theorem dX10_undo_14 : decode cX10_undo 14 = .ok (.ireturn, 1) := by decide +kernel
theorem dX10_undo_15 : decode cX10_undo 15 = .ok (.iload_n 1, 1) := by decide +kernel
theorem dX10_undo_16 : decode cX10_undo 16 = .ok (.aload_n 0, 1) := by decide +kernel
theorem dX10_undo_17 : decode cX10_undo 17 = .ok (.getfield 179, 3) := by decide +kernel
theorem dX10_undo_20 : decode cX10_undo 20 = .ok (.if_icmp .le 6, 3) := by decide +kernel
theorem dX10_undo_23 : decode cX10_undo 23 = .ok (.ldc 248, 2) := by decide +kernel
theorem dX10_undo_25 : decode cX10_undo 25 = .ok (.ireturn, 1) := by decide +kernel
theorem dX10_undo_26 : decode cX10_undo 26 = .ok (.aload_n 0, 1) := by decide +kernel
theorem dX10_undo_27 : decode cX10_undo 27 = .ok (.dup, 1) := by decide +kernel
theorem dX10_undo_28 : decode cX10_undo 28 = .ok (.getfield 179, 3) := by decide +kernel
theorem dX10_undo_31 : decode cX10_undo 31 = .ok (.iload_n 1, 1) := by decide +kernel
theorem dX10_undo_32 : decode cX10_undo 32 = .ok (.isub, 1) := by decide +kernel
theorem dX10_undo_33 : decode cX10_undo 33 = .ok (.putfield 179, 3) := by decide +kernel
theorem dX10_undo_36 : decode cX10_undo 36 = .ok (.iconst 0, 1) := by decide +kernel
theorem dX10_undo_37 : decode cX10_undo 37 = .ok (.istore_n 2, 1) := by decide +kernel
theorem dX10_undo_38 : decode cX10_undo 38 = .ok (.iload_n 2, 1) := by decide +kernel
theorem dX10_undo_39 : decode cX10_undo 39 = .ok (.bipush 125, 2) := by decide +kernel
theorem dX10_undo_41 : decode cX10_undo 41 = .ok (.if_icmp .ge 29, 3) := by decide +kernel
theorem dX10_undo_44 : decode cX10_undo 44 = .ok (.aload_n 0, 1) := by decide +kernel
theorem dX10_undo_45 : decode cX10_undo 45 = .ok (.getfield 22, 3) := by decide +kernel
theorem dX10_undo_48 : decode cX10_undo 48 = .ok (.iload_n 2, 1) := by decide +kernel
theorem dX10_undo_49 : decode cX10_undo 49 = .ok (.aload_n 0, 1) := by decide +kernel
theorem dX10_undo_50 : decode cX10_undo 50 = .ok (.getfield 65, 3) := by decide +kernel
theorem dX10_undo_53 : decode cX10_undo 53 = .ok (.bipush 125, 2) := by decide +kernel
theorem dX10_undo_55 : decode cX10_undo 55 = .ok (.aload_n 0, 1) := by decide +kernel
theorem dX10_undo_56 : decode cX10_undo 56 = .ok (.getfield 179, 3) := by decide +kernel
theorem dX10_undo_59 : decode cX10_undo 59 = .ok (.imul, 1) := by decide +kernel
theorem dX10_undo_60 : decode cX10_undo 60 = .ok (.iload_n 2, 1) := by decide +kernel
theorem dX10_undo_61 : decode cX10_undo 61 = .ok (.iadd, 1) := by decide +kernel
theorem dX10_undo_62 : decode cX10_undo 62 = .ok (.iaload, 1) := by decide +kernel
theorem dX10_undo_63 : decode cX10_undo 63 = .ok (.iastore, 1) := by decide +kernel
theorem dX10_undo_64 : decode cX10_undo 64 = .ok (.iinc 2 1, 3) := by decide +kernel
theorem dX10_undo_67 : decode cX10_undo 67 = .ok (.goto (-29), 3) := by decide +kernel
theorem dX10_undo_70 : decode cX10_undo 70 = .ok (.aload_n 0, 1) := by decide +kernel
theorem dX10_undo_71 : decode cX10_undo 71 = .ok (.getfield 22, 3) := by decide +kernel
theorem dX10_undo_74 : decode cX10_undo 74 = .ok (.bipush 25, 2) := by decide +kernel
theorem dX10_undo_76 : decode cX10_undo 76 = .ok (.iaload, 1) := by decide +kernel
theorem dX10_undo_77 : decode cX10_undo 77 = .ok (.ireturn, 1) := by decide +kernel
theorem dX10_worthIt_0 : decode cX10_worthIt 0 = .ok (.aload_n 0, 1) := by decide +kernel
theorem dX10_worthIt_1 : decode cX10_worthIt 1 = .ok (.iload_n 1, 1) := by decide +kernel
theorem dX10_worthIt_2 : decode cX10_worthIt 2 = .ok (.invokevirtual 230, 3) := by decide +kernel
theorem dX10_worthIt_5 : decode cX10_worthIt 5 = .ok (.ifCond .ne 6, 3) := by decide +kernel
theorem dX10_worthIt_8 : decode cX10_worthIt 8 = .ok (.ldc 223, 2) := by decide +kernel
theorem dX10_worthIt_10 : decode cX10_worthIt 10 = .ok (.ireturn, 1) := by decide +kernel
theorem dX10_worthIt_11 : decode cX10_worthIt 11 = .ok (.iload_n 2, 1) := by decide +kernel
theorem dX10_worthIt_12 : decode cX10_worthIt 12 = .ok (.i2l, 1) := by decide +kernel
theorem dX10_worthIt_13 : decode cX10_worthIt 13 = .ok (.lconst 0, 1) := by decide +kernel
theorem dX10_worthIt_14 : decode cX10_worthIt 14 = .ok (.lconst 1, 1) := by decide +kernel
theorem dX10_worthIt_15 : decode cX10_worthIt 15 = .ok (.invokestatic 87, 3) := by decide +kernel
theorem dX10_worthIt_18 : decode cX10_worthIt 18 = .ok (.ifCond .ne 6, 3) := by decide +kernel
theorem dX10_worthIt_21 : decode cX10_worthIt 21 = .ok (.ldc 96, 2) := by decide +kernel
theorem dX10_worthIt_23 : decode cX10_worthIt 23 = .ok (.ireturn, 1) := by decide +kernel
theorem dX10_worthIt_24 : decode cX10_worthIt 24 = .ok (.iconst 0, 1) := by decide +kernel
theorem dX10_worthIt_25 : decode cX10_worthIt 25 = .ok (.istore_n 3, 1) := by decide +kernel
theorem dX10_worthIt_26 : decode cX10_worthIt 26 = .ok (.iconst 0, 1) := by decide +kernel
theorem dX10_worthIt_27 : decode cX10_worthIt 27 = .ok (.istore 4, 2) := by decide +kernel
theorem dX10_worthIt_29 : decode cX10_worthIt 29 = .ok (.iconst 0, 1) := by decide +kernel
theorem dX10_worthIt_30 : decode cX10_worthIt 30 = .ok (.istore 5, 2) := by decide +kernel
theorem dX10_worthIt_32 : decode cX10_worthIt 32 = .ok (.iconst 0, 1) := by decide +kernel
theorem dX10_worthIt_33 : decode cX10_worthIt 33 = .ok (.istore 6, 2) := by decide +kernel
theorem dX10_worthIt_35 : decode cX10_worthIt 35 = .ok (.iload 6, 2) := by decide +kernel
theorem dX10_worthIt_37 : decode cX10_worthIt 37 = .ok (.aload_n 0, 1) := by decide +kernel
theorem dX10_worthIt_38 : decode cX10_worthIt 38 = .ok (.getfield 22, 3) := by decide +kernel
theorem dX10_worthIt_41 : decode cX10_worthIt 41 = .ok (.iconst 0, 1) := by decide +kernel
theorem dX10_worthIt_42 : decode cX10_worthIt 42 = .ok (.iaload, 1) := by decide +kernel
theorem dX10_worthIt_43 : decode cX10_worthIt 43 = .ok (.if_icmp .ge 90, 3) := by decide +kernel
theorem dX10_worthIt_46 : decode cX10_worthIt 46 = .ok (.iload 5, 2) := by decide +kernel
theorem dX10_worthIt_48 : decode cX10_worthIt 48 = .ok (.aload_n 0, 1) := by decide +kernel
theorem dX10_worthIt_49 : decode cX10_worthIt 49 = .ok (.iload 6, 2) := by decide +kernel
theorem dX10_worthIt_51 : decode cX10_worthIt 51 = .ok (.invokevirtual 224, 3) := by decide +kernel
theorem dX10_worthIt_54 : decode cX10_worthIt 54 = .ok (.aload_n 0, 1) := by decide +kernel
theorem dX10_worthIt_55 : decode cX10_worthIt 55 = .ok (.iload 6, 2) := by decide +kernel
theorem dX10_worthIt_57 : decode cX10_worthIt 57 = .ok (.invokevirtual 227, 3) := by decide +kernel
theorem dX10_worthIt_60 : decode cX10_worthIt 60 = .ok (.isub, 1) := by decide +kernel
theorem dX10_worthIt_61 : decode cX10_worthIt 61 = .ok (.aload_n 0, 1) := by decide +kernel
theorem dX10_worthIt_62 : decode cX10_worthIt 62 = .ok (.getfield 7, 3) := by decide +kernel
theorem dX10_worthIt_65 : decode cX10_worthIt 65 = .ok (.iload_n 1, 1) := by decide +kernel
theorem dX10_worthIt_66 : decode cX10_worthIt 66 = .ok (.iaload, 1) := by decide +kernel
theorem dX10_worthIt_67 : decode cX10_worthIt 67 = .ok (.isub, 1) := by decide +kernel
theorem dX10_worthIt_68 : decode cX10_worthIt 68 = .ok (.aload_n 0, 1) := by decide +kernel
theorem dX10_worthIt_69 : decode cX10_worthIt 69 = .ok (.getfield 22, 3) := by decide +kernel
theorem dX10_worthIt_72 : decode cX10_worthIt 72 = .ok (.iconst 1, 1) := by decide +kernel
theorem dX10_worthIt_73 : decode cX10_worthIt 73 = .ok (.iload 6, 2) := by decide +kernel
theorem dX10_worthIt_75 : decode cX10_worthIt 75 = .ok (.iadd, 1) := by decide +kernel
theorem dX10_worthIt_76 : decode cX10_worthIt 76 = .ok (.iaload, 1) := by decide +kernel
theorem dX10_worthIt_77 : decode cX10_worthIt 77 = .ok (.iconst 4, 1) := by decide +kernel
theorem dX10_worthIt_78 : decode cX10_worthIt 78 = .ok (.if_icmp .ne 12, 3) := by decide +kernel
theorem dX10_worthIt_81 : decode cX10_worthIt 81 = .ok (.iload 6, 2) := by decide +kernel
theorem dX10_worthIt_83 : decode cX10_worthIt 83 = .ok (.ifCond .le 7, 3) := by decide +kernel
theorem dX10_worthIt_86 : decode cX10_worthIt 86 = .ok (.iconst 5, 1) := by decide +kernel
theorem dX10_worthIt_87 : decode cX10_worthIt 87 = .ok (.goto 4, 3) := by decide +kernel
theorem dX10_worthIt_90 : decode cX10_worthIt 90 = .ok (.iconst 0, 1) := by decide +kernel
theorem dX10_worthIt_91 : decode cX10_worthIt 91 = .ok (.iadd, 1) := by decide +kernel
theorem dX10_worthIt_92 : decode cX10_worthIt 92 = .ok (.iadd, 1) := by decide +kernel
theorem dX10_worthIt_93 : decode cX10_worthIt 93 = .ok (.istore 5, 2) := by decide +kernel
theorem dX10_worthIt_95 : decode cX10_worthIt 95 = .ok (.iload 5, 2) := by decide +kernel
theorem dX10_worthIt_97 : decode cX10_worthIt 97 = .ok (.iload 4, 2) := by decide +kernel
theorem dX10_worthIt_99 : decode cX10_worthIt 99 = .ok (.if_icmp .le 10, 3) := by decide +kernel
theorem dX10_worthIt_102 : decode cX10_worthIt 102 = .ok (.iload 6, 2) := by decide +kernel
theorem dX10_worthIt_104 : decode cX10_worthIt 104 = .ok (.iconst 1, 1) := by decide +kernel
theorem dX10_worthIt_105 : decode cX10_worthIt 105 = .ok (.iadd, 1) := by decide +kernel
theorem dX10_worthIt_106 : decode cX10_worthIt 106 = .ok (.goto 4, 3) := by decide +kernel
theorem dX10_worthIt_109 : decode cX10_worthIt 109 = .ok (.iload_n 3, 1) := by decide +kernel
theorem dX10_worthIt_110 : decode cX10_worthIt 110 = .ok (.istore_n 3, 1) := by decide +kernel
theorem dX10_worthIt_111 : decode cX10_worthIt 111 = .ok (.iload 5, 2) := by decide +kernel
theorem dX10_worthIt_113 : decode cX10_worthIt 113 = .ok (.iload 4, 2) := by decide +kernel
theorem dX10_worthIt_115 : decode cX10_worthIt 115 = .ok (.if_icmp .le 8, 3) := by decide +kernel
theorem dX10_worthIt_118 : decode cX10_worthIt 118 = .ok (.iload 5, 2) := by decide +kernel
theorem dX10_worthIt_120 : decode cX10_worthIt 120 = .ok (.goto 5, 3) := by decide +kernel
theorem dX10_worthIt_123 : decode cX10_worthIt 123 = .ok (.iload 4, 2) := by decide +kernel
theorem dX10_worthIt_125 : decode cX10_worthIt 125 = .ok (.istore 4, 2) := by decide +kernel
theorem dX10_worthIt_127 : decode cX10_worthIt 127 = .ok (.iinc 6 1, 3) := by decide +kernel
theorem dX10_worthIt_130 : decode cX10_worthIt 130 = .ok (.goto (-95), 3) := by decide +kernel
theorem dX10_worthIt_133 : decode cX10_worthIt 133 = .ok (.iload_n 2, 1) := by decide +kernel
theorem dX10_worthIt_134 : decode cX10_worthIt 134 = .ok (.ifCond .ne 7, 3) := by decide +kernel
theorem dX10_worthIt_137 : decode cX10_worthIt 137 = .ok (.iload_n 3, 1) := by decide +kernel
theorem dX10_worthIt_138 : decode cX10_worthIt 138 = .ok (.goto 9, 3) := by decide +kernel
theorem dX10_worthIt_141 : decode cX10_worthIt 141 = .ok (.iload 4, 2) := by decide +kernel
theorem dX10_worthIt_143 : decode cX10_worthIt 143 = .ok (.sipush 1000, 3) := by decide +kernel
theorem dX10_worthIt_146 : decode cX10_worthIt 146 = .ok (.iadd, 1) := by decide +kernel
theorem dX10_worthIt_147 : decode cX10_worthIt 147 = .ok (.ireturn, 1) := by decide +kernel
theorem dX10_stingFrom_0 : decode cX10_stingFrom 0 = .ok (.iconst 0, 1) := by decide +kernel
theorem dX10_stingFrom_1 : decode cX10_stingFrom 1 = .ok (.istore_n 3, 1) := by decide +kernel
theorem dX10_stingFrom_2 : decode cX10_stingFrom 2 = .ok (.iload_n 1, 1) := by decide +kernel
theorem dX10_stingFrom_3 : decode cX10_stingFrom 3 = .ok (.istore 4, 2) := by decide +kernel
theorem dX10_stingFrom_5 : decode cX10_stingFrom 5 = .ok (.iload 4, 2) := by decide +kernel
theorem dX10_stingFrom_7 : decode cX10_stingFrom 7 = .ok (.iload_n 2, 1) := by decide +kernel
theorem dX10_stingFrom_8 : decode cX10_stingFrom 8 = .ok (.if_icmp .ge 18, 3) := by decide +kernel
theorem dX10_stingFrom_11 : decode cX10_stingFrom 11 = .ok (.iload_n 3, 1) := by decide +kernel
theorem dX10_stingFrom_12 : decode cX10_stingFrom 12 = .ok (.aload_n 0, 1) := by decide +kernel
theorem dX10_stingFrom_13 : decode cX10_stingFrom 13 = .ok (.iload 4, 2) := by decide +kernel
theorem dX10_stingFrom_15 : decode cX10_stingFrom 15 = .ok (.invokevirtual 227, 3) := by decide +kernel
theorem dX10_stingFrom_18 : decode cX10_stingFrom 18 = .ok (.iadd, 1) := by decide +kernel
theorem dX10_stingFrom_19 : decode cX10_stingFrom 19 = .ok (.istore_n 3, 1) := by decide +kernel
theorem dX10_stingFrom_20 : decode cX10_stingFrom 20 = .ok (.iinc 4 1, 3) := by decide +kernel
theorem dX10_stingFrom_23 : decode cX10_stingFrom 23 = .ok (.goto (-18), 3) := by decide +kernel
theorem dX10_stingFrom_26 : decode cX10_stingFrom 26 = .ok (.iload_n 3, 1) := by decide +kernel
theorem dX10_stingFrom_27 : decode cX10_stingFrom 27 = .ok (.ireturn, 1) := by decide +kernel
theorem dX10_parts_0 : decode cX10_parts 0 = .ok (.iload_n 1, 1) := by decide +kernel
theorem dX10_parts_1 : decode cX10_parts 1 = .ok (.i2l, 1) := by decide +kernel
theorem dX10_parts_2 : decode cX10_parts 2 = .ok (.lconst 1, 1) := by decide +kernel
theorem dX10_parts_3 : decode cX10_parts 3 = .ok (.ldc2_w 282, 3) := by decide +kernel
theorem dX10_parts_6 : decode cX10_parts 6 = .ok (.invokestatic 87, 3) := by decide +kernel
theorem dX10_parts_9 : decode cX10_parts 9 = .ok (.ifCond .eq 13, 3) := by decide +kernel
theorem dX10_parts_12 : decode cX10_parts 12 = .ok (.iload_n 2, 1) := by decide +kernel
theorem dX10_parts_13 : decode cX10_parts 13 = .ok (.i2l, 1) := by decide +kernel
theorem dX10_parts_14 : decode cX10_parts 14 = .ok (.lconst 0, 1) := by decide +kernel
theorem dX10_parts_15 : decode cX10_parts 15 = .ok (.lconst 1, 1) := by decide +kernel
theorem dX10_parts_16 : decode cX10_parts 16 = .ok (.invokestatic 87, 3) := by decide +kernel
theorem dX10_parts_19 : decode cX10_parts 19 = .ok (.ifCond .ne 6, 3) := by decide +kernel
theorem dX10_parts_22 : decode cX10_parts 22 = .ok (.ldc 96, 2) := by decide +kernel
theorem dX10_parts_24 : decode cX10_parts 24 = .ok (.ireturn, 1) := by decide +kernel
theorem dX10_parts_25 : decode cX10_parts 25 = .ok (.aload_n 0, 1) := by decide +kernel
theorem dX10_parts_26 : decode cX10_parts 26 = .ok (.getfield 22, 3) := by decide +kernel
theorem dX10_parts_29 : decode cX10_parts 29 = .ok (.iconst 0, 1) := by decide +kernel
theorem dX10_parts_30 : decode cX10_parts 30 = .ok (.iaload, 1) := by decide +kernel
theorem dX10_parts_31 : decode cX10_parts 31 = .ok (.istore_n 3, 1) := by decide +kernel
theorem dX10_parts_32 : decode cX10_parts 32 = .ok (.iload_n 3, 1) := by decide +kernel
theorem dX10_parts_33 : decode cX10_parts 33 = .ok (.iload_n 1, 1) := by decide +kernel
theorem dX10_parts_34 : decode cX10_parts 34 = .ok (.if_icmp .ge 5, 3) := by decide +kernel
theorem dX10_parts_37 : decode cX10_parts 37 = .ok (.iconst (-1), 1) := by decide +kernel
theorem dX10_parts_38 : decode cX10_parts 38 = .ok (.ireturn, 1) := by decide +kernel
theorem dX10_parts_39 : decode cX10_parts 39 = .ok (.iconst 0, 1) := by decide +kernel
theorem dX10_parts_40 : decode cX10_parts 40 = .ok (.istore 4, 2) := by decide +kernel
theorem dX10_parts_42 : decode cX10_parts 42 = .ok (.iload 4, 2) := by decide +kernel
theorem dX10_parts_44 : decode cX10_parts 44 = .ok (.bipush 78, 2) := by decide +kernel
theorem dX10_parts_46 : decode cX10_parts 46 = .ok (.if_icmp .ge 18, 3) := by decide +kernel
theorem dX10_parts_49 : decode cX10_parts 49 = .ok (.aload_n 0, 1) := by decide +kernel
theorem dX10_parts_50 : decode cX10_parts 50 = .ok (.getfield 68, 3) := by decide +kernel
theorem dX10_parts_53 : decode cX10_parts 53 = .ok (.iload 4, 2) := by decide +kernel
theorem dX10_parts_55 : decode cX10_parts 55 = .ok (.ldc 197, 2) := by decide +kernel
theorem dX10_parts_57 : decode cX10_parts 57 = .ok (.iastore, 1) := by decide +kernel
theorem dX10_parts_58 : decode cX10_parts 58 = .ok (.iinc 4 1, 3) := by decide +kernel
theorem dX10_parts_61 : decode cX10_parts 61 = .ok (.goto (-19), 3) := by decide +kernel
theorem dX10_parts_64 : decode cX10_parts 64 = .ok (.aload_n 0, 1) := by decide +kernel
theorem dX10_parts_65 : decode cX10_parts 65 = .ok (.getfield 68, 3) := by decide +kernel
theorem dX10_parts_68 : decode cX10_parts 68 = .ok (.iload_n 3, 1) := by decide +kernel
theorem dX10_parts_69 : decode cX10_parts 69 = .ok (.iconst 0, 1) := by decide +kernel
theorem dX10_parts_70 : decode cX10_parts 70 = .ok (.iastore, 1) := by decide +kernel
theorem dX10_parts_71 : decode cX10_parts 71 = .ok (.iconst 1, 1) := by decide +kernel
theorem dX10_parts_72 : decode cX10_parts 72 = .ok (.istore 4, 2) := by decide +kernel
theorem dX10_parts_74 : decode cX10_parts 74 = .ok (.iload 4, 2) := by decide +kernel
theorem dX10_parts_76 : decode cX10_parts 76 = .ok (.iload_n 1, 1) := by decide +kernel
theorem dX10_parts_77 : decode cX10_parts 77 = .ok (.if_icmp .gt 134, 3) := by decide +kernel
theorem dX10_parts_80 : decode cX10_parts 80 = .ok (.iconst 0, 1) := by decide +kernel
theorem dX10_parts_81 : decode cX10_parts 81 = .ok (.istore 5, 2) := by decide +kernel
theorem dX10_parts_83 : decode cX10_parts 83 = .ok (.iload 5, 2) := by decide +kernel
theorem dX10_parts_85 : decode cX10_parts 85 = .ok (.iload_n 3, 1) := by decide +kernel
theorem dX10_parts_86 : decode cX10_parts 86 = .ok (.if_icmp .ge 119, 3) := by decide +kernel
theorem dX10_parts_89 : decode cX10_parts 89 = .ok (.iload 5, 2) := by decide +kernel
theorem dX10_parts_91 : decode cX10_parts 91 = .ok (.iconst 1, 1) := by decide +kernel
theorem dX10_parts_92 : decode cX10_parts 92 = .ok (.iadd, 1) := by decide +kernel
theorem dX10_parts_93 : decode cX10_parts 93 = .ok (.istore 6, 2) := by decide +kernel
theorem dX10_parts_95 : decode cX10_parts 95 = .ok (.iload 6, 2) := by decide +kernel
theorem dX10_parts_97 : decode cX10_parts 97 = .ok (.iload_n 3, 1) := by decide +kernel
theorem dX10_parts_98 : decode cX10_parts 98 = .ok (.if_icmp .gt 101, 3) := by decide +kernel
theorem dX10_parts_101 : decode cX10_parts 101 = .ok (.aload_n 0, 1) := by decide +kernel
theorem dX10_parts_102 : decode cX10_parts 102 = .ok (.iload 5, 2) := by decide +kernel
theorem dX10_parts_104 : decode cX10_parts 104 = .ok (.iload 6, 2) := by decide +kernel
theorem dX10_parts_106 : decode cX10_parts 106 = .ok (.invokevirtual 284, 3) := by decide +kernel
theorem dX10_parts_109 : decode cX10_parts 109 = .ok (.istore 7, 2) := by decide +kernel
theorem dX10_parts_111 : decode cX10_parts 111 = .ok (.aload_n 0, 1) := by decide +kernel
theorem dX10_parts_112 : decode cX10_parts 112 = .ok (.getfield 68, 3) := by decide +kernel
theorem dX10_parts_115 : decode cX10_parts 115 = .ok (.bipush 13, 2) := by decide +kernel
theorem dX10_parts_117 : decode cX10_parts 117 = .ok (.iload 4, 2) := by decide +kernel
theorem dX10_parts_119 : decode cX10_parts 119 = .ok (.iconst 1, 1) := by decide +kernel
theorem dX10_parts_120 : decode cX10_parts 120 = .ok (.isub, 1) := by decide +kernel
theorem dX10_parts_121 : decode cX10_parts 121 = .ok (.imul, 1) := by decide +kernel
theorem dX10_parts_122 : decode cX10_parts 122 = .ok (.iload 6, 2) := by decide +kernel
theorem dX10_parts_124 : decode cX10_parts 124 = .ok (.iadd, 1) := by decide +kernel
theorem dX10_parts_125 : decode cX10_parts 125 = .ok (.iaload, 1) := by decide +kernel
theorem dX10_parts_126 : decode cX10_parts 126 = .ok (.istore 8, 2) := by decide +kernel
theorem dX10_parts_128 : decode cX10_parts 128 = .ok (.iload 8, 2) := by decide +kernel
theorem dX10_parts_130 : decode cX10_parts 130 = .ok (.iload 7, 2) := by decide +kernel
theorem dX10_parts_132 : decode cX10_parts 132 = .ok (.if_icmp .le 8, 3) := by decide +kernel
theorem dX10_parts_135 : decode cX10_parts 135 = .ok (.iload 8, 2) := by decide +kernel
theorem dX10_parts_137 : decode cX10_parts 137 = .ok (.goto 5, 3) := by decide +kernel
theorem dX10_parts_140 : decode cX10_parts 140 = .ok (.iload 7, 2) := by decide +kernel
theorem dX10_parts_142 : decode cX10_parts 142 = .ok (.istore 7, 2) := by decide +kernel
theorem dX10_parts_144 : decode cX10_parts 144 = .ok (.aload_n 0, 1) := by decide +kernel
theorem dX10_parts_145 : decode cX10_parts 145 = .ok (.getfield 68, 3) := by decide +kernel
theorem dX10_parts_148 : decode cX10_parts 148 = .ok (.bipush 13, 2) := by decide +kernel
theorem dX10_parts_150 : decode cX10_parts 150 = .ok (.iload 4, 2) := by decide +kernel
theorem dX10_parts_152 : decode cX10_parts 152 = .ok (.imul, 1) := by decide +kernel
theorem dX10_parts_153 : decode cX10_parts 153 = .ok (.iload 5, 2) := by decide +kernel
theorem dX10_parts_155 : decode cX10_parts 155 = .ok (.iadd, 1) := by decide +kernel
theorem dX10_parts_156 : decode cX10_parts 156 = .ok (.iload 7, 2) := by decide +kernel
theorem dX10_parts_158 : decode cX10_parts 158 = .ok (.aload_n 0, 1) := by decide +kernel
theorem dX10_parts_159 : decode cX10_parts 159 = .ok (.getfield 68, 3) := by decide +kernel
theorem dX10_parts_162 : decode cX10_parts 162 = .ok (.bipush 13, 2) := by decide +kernel
theorem dX10_parts_164 : decode cX10_parts 164 = .ok (.iload 4, 2) := by decide +kernel
theorem dX10_parts_166 : decode cX10_parts 166 = .ok (.imul, 1) := by decide +kernel
theorem dX10_parts_167 : decode cX10_parts 167 = .ok (.iload 5, 2) := by decide +kernel
theorem dX10_parts_169 : decode cX10_parts 169 = .ok (.iadd, 1) := by decide +kernel
theorem dX10_parts_170 : decode cX10_parts 170 = .ok (.iaload, 1) := by decide +kernel
end
section
theorem dX10_parts_171 : decode cX10_parts 171 = .ok (.if_icmp .ge 8, 3) := by decide +kernel
theorem dX10_parts_174 : decode cX10_parts 174 = .ok (.iload 7, 2) := by decide +kernel
theorem dX10_parts_176 : decode cX10_parts 176 = .ok (.goto 16, 3) := by decide +kernel
theorem dX10_parts_179 : decode cX10_parts 179 = .ok (.aload_n 0, 1) := by decide +kernel
theorem dX10_parts_180 : decode cX10_parts 180 = .ok (.getfield 68, 3) := by decide +kernel
theorem dX10_parts_183 : decode cX10_parts 183 = .ok (.bipush 13, 2) := by decide +kernel
theorem dX10_parts_185 : decode cX10_parts 185 = .ok (.iload 4, 2) := by decide +kernel
theorem dX10_parts_187 : decode cX10_parts 187 = .ok (.imul, 1) := by decide +kernel
theorem dX10_parts_188 : decode cX10_parts 188 = .ok (.iload 5, 2) := by decide +kernel
theorem dX10_parts_190 : decode cX10_parts 190 = .ok (.iadd, 1) := by decide +kernel
theorem dX10_parts_191 : decode cX10_parts 191 = .ok (.iaload, 1) := by decide +kernel
theorem dX10_parts_192 : decode cX10_parts 192 = .ok (.iastore, 1) := by decide +kernel
theorem dX10_parts_193 : decode cX10_parts 193 = .ok (.iinc 6 1, 3) := by decide +kernel
theorem dX10_parts_196 : decode cX10_parts 196 = .ok (.goto (-101), 3) := by decide +kernel
theorem dX10_parts_199 : decode cX10_parts 199 = .ok (.iinc 5 1, 3) := by decide +kernel
theorem dX10_parts_202 : decode cX10_parts 202 = .ok (.goto (-119), 3) := by decide +kernel
theorem dX10_parts_205 : decode cX10_parts 205 = .ok (.iinc 4 1, 3) := by decide +kernel
theorem dX10_parts_208 : decode cX10_parts 208 = .ok (.goto (-134), 3) := by decide +kernel
theorem dX10_parts_211 : decode cX10_parts 211 = .ok (.aload_n 0, 1) := by decide +kernel
theorem dX10_parts_212 : decode cX10_parts 212 = .ok (.getfield 68, 3) := by decide +kernel
theorem dX10_parts_215 : decode cX10_parts 215 = .ok (.bipush 13, 2) := by decide +kernel
theorem dX10_parts_217 : decode cX10_parts 217 = .ok (.iload_n 1, 1) := by decide +kernel
theorem dX10_parts_218 : decode cX10_parts 218 = .ok (.imul, 1) := by decide +kernel
theorem dX10_parts_219 : decode cX10_parts 219 = .ok (.iaload, 1) := by decide +kernel
theorem dX10_parts_220 : decode cX10_parts 220 = .ok (.istore 4, 2) := by decide +kernel
theorem dX10_parts_222 : decode cX10_parts 222 = .ok (.iload_n 2, 1) := by decide +kernel
theorem dX10_parts_223 : decode cX10_parts 223 = .ok (.ifCond .ne 6, 3) := by decide +kernel
theorem dX10_parts_226 : decode cX10_parts 226 = .ok (.iload 4, 2) := by decide +kernel
theorem dX10_parts_228 : decode cX10_parts 228 = .ok (.ireturn, 1) := by decide +kernel
theorem dX10_parts_229 : decode cX10_parts 229 = .ok (.iconst 1, 1) := by decide +kernel
theorem dX10_parts_230 : decode cX10_parts 230 = .ok (.istore 5, 2) := by decide +kernel
theorem dX10_parts_232 : decode cX10_parts 232 = .ok (.aload_n 0, 1) := by decide +kernel
theorem dX10_parts_233 : decode cX10_parts 233 = .ok (.iconst 0, 1) := by decide +kernel
theorem dX10_parts_234 : decode cX10_parts 234 = .ok (.iload 5, 2) := by decide +kernel
theorem dX10_parts_236 : decode cX10_parts 236 = .ok (.invokevirtual 284, 3) := by decide +kernel
theorem dX10_parts_239 : decode cX10_parts 239 = .ok (.iload 4, 2) := by decide +kernel
theorem dX10_parts_241 : decode cX10_parts 241 = .ok (.if_icmp .gt 22, 3) := by decide +kernel
theorem dX10_parts_244 : decode cX10_parts 244 = .ok (.aload_n 0, 1) := by decide +kernel
theorem dX10_parts_245 : decode cX10_parts 245 = .ok (.getfield 68, 3) := by decide +kernel
theorem dX10_parts_248 : decode cX10_parts 248 = .ok (.bipush 13, 2) := by decide +kernel
theorem dX10_parts_250 : decode cX10_parts 250 = .ok (.iload_n 1, 1) := by decide +kernel
theorem dX10_parts_251 : decode cX10_parts 251 = .ok (.iconst 1, 1) := by decide +kernel
theorem dX10_parts_252 : decode cX10_parts 252 = .ok (.isub, 1) := by decide +kernel
theorem dX10_parts_253 : decode cX10_parts 253 = .ok (.imul, 1) := by decide +kernel
theorem dX10_parts_254 : decode cX10_parts 254 = .ok (.iload 5, 2) := by decide +kernel
theorem dX10_parts_256 : decode cX10_parts 256 = .ok (.iadd, 1) := by decide +kernel
theorem dX10_parts_257 : decode cX10_parts 257 = .ok (.iaload, 1) := by decide +kernel
theorem dX10_parts_258 : decode cX10_parts 258 = .ok (.iload 4, 2) := by decide +kernel
theorem dX10_parts_260 : decode cX10_parts 260 = .ok (.if_icmp .le 9, 3) := by decide +kernel
theorem dX10_parts_263 : decode cX10_parts 263 = .ok (.iinc 5 1, 3) := by decide +kernel
theorem dX10_parts_266 : decode cX10_parts 266 = .ok (.goto (-34), 3) := by decide +kernel
theorem dX10_parts_269 : decode cX10_parts 269 = .ok (.iload 5, 2) := by decide +kernel
theorem dX10_parts_271 : decode cX10_parts 271 = .ok (.ireturn, 1) := by decide +kernel
theorem dX10_byTurns_0 : decode cX10_byTurns 0 = .ok (.iload_n 1, 1) := by decide +kernel
theorem dX10_byTurns_1 : decode cX10_byTurns 1 = .ok (.i2l, 1) := by decide +kernel
theorem dX10_byTurns_2 : decode cX10_byTurns 2 = .ok (.lconst 0, 1) := by decide +kernel
theorem dX10_byTurns_3 : decode cX10_byTurns 3 = .ok (.lconst 1, 1) := by decide +kernel
theorem dX10_byTurns_4 : decode cX10_byTurns 4 = .ok (.invokestatic 87, 3) := by decide +kernel
theorem dX10_byTurns_7 : decode cX10_byTurns 7 = .ok (.ifCond .ne 6, 3) := by decide +kernel
theorem dX10_byTurns_10 : decode cX10_byTurns 10 = .ok (.ldc 96, 2) := by decide +kernel
theorem dX10_byTurns_12 : decode cX10_byTurns 12 = .ok (.ireturn, 1) := by decide +kernel
theorem dX10_byTurns_13 : decode cX10_byTurns 13 = .ok (.aload_n 0, 1) := by decide +kernel
theorem dX10_byTurns_14 : decode cX10_byTurns 14 = .ok (.getfield 22, 3) := by decide +kernel
theorem dX10_byTurns_17 : decode cX10_byTurns 17 = .ok (.iconst 0, 1) := by decide +kernel
theorem dX10_byTurns_18 : decode cX10_byTurns 18 = .ok (.iaload, 1) := by decide +kernel
theorem dX10_byTurns_19 : decode cX10_byTurns 19 = .ok (.istore_n 2, 1) := by decide +kernel
theorem dX10_byTurns_20 : decode cX10_byTurns 20 = .ok (.aload_n 0, 1) := by decide +kernel
theorem dX10_byTurns_21 : decode cX10_byTurns 21 = .ok (.getfield 71, 3) := by decide +kernel
theorem dX10_byTurns_24 : decode cX10_byTurns 24 = .ok (.iload_n 2, 1) := by decide +kernel
theorem dX10_byTurns_25 : decode cX10_byTurns 25 = .ok (.iconst 0, 1) := by decide +kernel
theorem dX10_byTurns_26 : decode cX10_byTurns 26 = .ok (.iastore, 1) := by decide +kernel
theorem dX10_byTurns_27 : decode cX10_byTurns 27 = .ok (.iconst 0, 1) := by decide +kernel
theorem dX10_byTurns_28 : decode cX10_byTurns 28 = .ok (.istore_n 3, 1) := by decide +kernel
theorem dX10_byTurns_29 : decode cX10_byTurns 29 = .ok (.iload_n 2, 1) := by decide +kernel
theorem dX10_byTurns_30 : decode cX10_byTurns 30 = .ok (.iconst 1, 1) := by decide +kernel
theorem dX10_byTurns_31 : decode cX10_byTurns 31 = .ok (.isub, 1) := by decide +kernel
theorem dX10_byTurns_32 : decode cX10_byTurns 32 = .ok (.istore 4, 2) := by decide +kernel
theorem dX10_byTurns_34 : decode cX10_byTurns 34 = .ok (.iload 4, 2) := by decide +kernel
theorem dX10_byTurns_36 : decode cX10_byTurns 36 = .ok (.ifCond .lt 107, 3) := by decide +kernel
theorem dX10_byTurns_39 : decode cX10_byTurns 39 = .ok (.aload_n 0, 1) := by decide +kernel
theorem dX10_byTurns_40 : decode cX10_byTurns 40 = .ok (.iload 4, 2) := by decide +kernel
theorem dX10_byTurns_42 : decode cX10_byTurns 42 = .ok (.invokevirtual 224, 3) := by decide +kernel
theorem dX10_byTurns_45 : decode cX10_byTurns 45 = .ok (.aload_n 0, 1) := by decide +kernel
theorem dX10_byTurns_46 : decode cX10_byTurns 46 = .ok (.getfield 71, 3) := by decide +kernel
theorem dX10_byTurns_49 : decode cX10_byTurns 49 = .ok (.iload 4, 2) := by decide +kernel
theorem dX10_byTurns_51 : decode cX10_byTurns 51 = .ok (.iconst 1, 1) := by decide +kernel
theorem dX10_byTurns_52 : decode cX10_byTurns 52 = .ok (.iadd, 1) := by decide +kernel
theorem dX10_byTurns_53 : decode cX10_byTurns 53 = .ok (.iaload, 1) := by decide +kernel
theorem dX10_byTurns_54 : decode cX10_byTurns 54 = .ok (.isub, 1) := by decide +kernel
theorem dX10_byTurns_55 : decode cX10_byTurns 55 = .ok (.istore 5, 2) := by decide +kernel
theorem dX10_byTurns_57 : decode cX10_byTurns 57 = .ok (.iconst 1, 1) := by decide +kernel
theorem dX10_byTurns_58 : decode cX10_byTurns 58 = .ok (.istore_n 3, 1) := by decide +kernel
theorem dX10_byTurns_59 : decode cX10_byTurns 59 = .ok (.aload_n 0, 1) := by decide +kernel
theorem dX10_byTurns_60 : decode cX10_byTurns 60 = .ok (.getfield 71, 3) := by decide +kernel
theorem dX10_byTurns_63 : decode cX10_byTurns 63 = .ok (.iload 4, 2) := by decide +kernel
theorem dX10_byTurns_65 : decode cX10_byTurns 65 = .ok (.iload 5, 2) := by decide +kernel
theorem dX10_byTurns_67 : decode cX10_byTurns 67 = .ok (.iastore, 1) := by decide +kernel
theorem dX10_byTurns_68 : decode cX10_byTurns 68 = .ok (.iload 4, 2) := by decide +kernel
theorem dX10_byTurns_70 : decode cX10_byTurns 70 = .ok (.iconst 2, 1) := by decide +kernel
theorem dX10_byTurns_71 : decode cX10_byTurns 71 = .ok (.iadd, 1) := by decide +kernel
theorem dX10_byTurns_72 : decode cX10_byTurns 72 = .ok (.iload_n 2, 1) := by decide +kernel
theorem dX10_byTurns_73 : decode cX10_byTurns 73 = .ok (.if_icmp .gt 64, 3) := by decide +kernel
theorem dX10_byTurns_76 : decode cX10_byTurns 76 = .ok (.aload_n 0, 1) := by decide +kernel
theorem dX10_byTurns_77 : decode cX10_byTurns 77 = .ok (.iload 4, 2) := by decide +kernel
theorem dX10_byTurns_79 : decode cX10_byTurns 79 = .ok (.invokevirtual 224, 3) := by decide +kernel
theorem dX10_byTurns_82 : decode cX10_byTurns 82 = .ok (.aload_n 0, 1) := by decide +kernel
theorem dX10_byTurns_83 : decode cX10_byTurns 83 = .ok (.iload 4, 2) := by decide +kernel
theorem dX10_byTurns_85 : decode cX10_byTurns 85 = .ok (.iconst 1, 1) := by decide +kernel
theorem dX10_byTurns_86 : decode cX10_byTurns 86 = .ok (.iadd, 1) := by decide +kernel
theorem dX10_byTurns_87 : decode cX10_byTurns 87 = .ok (.invokevirtual 224, 3) := by decide +kernel
theorem dX10_byTurns_90 : decode cX10_byTurns 90 = .ok (.iadd, 1) := by decide +kernel
theorem dX10_byTurns_91 : decode cX10_byTurns 91 = .ok (.aload_n 0, 1) := by decide +kernel
theorem dX10_byTurns_92 : decode cX10_byTurns 92 = .ok (.getfield 71, 3) := by decide +kernel
theorem dX10_byTurns_95 : decode cX10_byTurns 95 = .ok (.iload 4, 2) := by decide +kernel
theorem dX10_byTurns_97 : decode cX10_byTurns 97 = .ok (.iconst 2, 1) := by decide +kernel
theorem dX10_byTurns_98 : decode cX10_byTurns 98 = .ok (.iadd, 1) := by decide +kernel
theorem dX10_byTurns_99 : decode cX10_byTurns 99 = .ok (.iaload, 1) := by decide +kernel
theorem dX10_byTurns_100 : decode cX10_byTurns 100 = .ok (.isub, 1) := by decide +kernel
theorem dX10_byTurns_101 : decode cX10_byTurns 101 = .ok (.istore 6, 2) := by decide +kernel
theorem dX10_byTurns_103 : decode cX10_byTurns 103 = .ok (.iload 6, 2) := by decide +kernel
theorem dX10_byTurns_105 : decode cX10_byTurns 105 = .ok (.iload 5, 2) := by decide +kernel
theorem dX10_byTurns_107 : decode cX10_byTurns 107 = .ok (.if_icmp .le 7, 3) := by decide +kernel
theorem dX10_byTurns_110 : decode cX10_byTurns 110 = .ok (.iconst 2, 1) := by decide +kernel
theorem dX10_byTurns_111 : decode cX10_byTurns 111 = .ok (.goto 4, 3) := by decide +kernel
theorem dX10_byTurns_114 : decode cX10_byTurns 114 = .ok (.iconst 1, 1) := by decide +kernel
theorem dX10_byTurns_115 : decode cX10_byTurns 115 = .ok (.istore_n 3, 1) := by decide +kernel
theorem dX10_byTurns_116 : decode cX10_byTurns 116 = .ok (.aload_n 0, 1) := by decide +kernel
theorem dX10_byTurns_117 : decode cX10_byTurns 117 = .ok (.getfield 71, 3) := by decide +kernel
theorem dX10_byTurns_120 : decode cX10_byTurns 120 = .ok (.iload 4, 2) := by decide +kernel
theorem dX10_byTurns_122 : decode cX10_byTurns 122 = .ok (.iload 6, 2) := by decide +kernel
theorem dX10_byTurns_124 : decode cX10_byTurns 124 = .ok (.iload 5, 2) := by decide +kernel
theorem dX10_byTurns_126 : decode cX10_byTurns 126 = .ok (.if_icmp .le 8, 3) := by decide +kernel
theorem dX10_byTurns_129 : decode cX10_byTurns 129 = .ok (.iload 6, 2) := by decide +kernel
theorem dX10_byTurns_131 : decode cX10_byTurns 131 = .ok (.goto 5, 3) := by decide +kernel
theorem dX10_byTurns_134 : decode cX10_byTurns 134 = .ok (.iload 5, 2) := by decide +kernel
theorem dX10_byTurns_136 : decode cX10_byTurns 136 = .ok (.iastore, 1) := by decide +kernel
theorem dX10_byTurns_137 : decode cX10_byTurns 137 = .ok (.iinc 4 (-1), 3) := by decide +kernel
theorem dX10_byTurns_140 : decode cX10_byTurns 140 = .ok (.goto (-106), 3) := by decide +kernel
theorem dX10_byTurns_143 : decode cX10_byTurns 143 = .ok (.iload_n 1, 1) := by decide +kernel
theorem dX10_byTurns_144 : decode cX10_byTurns 144 = .ok (.ifCond .ne 16, 3) := by decide +kernel
theorem dX10_byTurns_147 : decode cX10_byTurns 147 = .ok (.aload_n 0, 1) := by decide +kernel
theorem dX10_byTurns_148 : decode cX10_byTurns 148 = .ok (.getfield 71, 3) := by decide +kernel
theorem dX10_byTurns_151 : decode cX10_byTurns 151 = .ok (.iconst 0, 1) := by decide +kernel
theorem dX10_byTurns_152 : decode cX10_byTurns 152 = .ok (.iaload, 1) := by decide +kernel
theorem dX10_byTurns_153 : decode cX10_byTurns 153 = .ok (.sipush 1000, 3) := by decide +kernel
theorem dX10_byTurns_156 : decode cX10_byTurns 156 = .ok (.iadd, 1) := by decide +kernel
theorem dX10_byTurns_157 : decode cX10_byTurns 157 = .ok (.goto 4, 3) := by decide +kernel
theorem dX10_byTurns_160 : decode cX10_byTurns 160 = .ok (.iload_n 3, 1) := by decide +kernel
theorem dX10_byTurns_161 : decode cX10_byTurns 161 = .ok (.ireturn, 1) := by decide +kernel
theorem dX10_twoSides_0 : decode cX10_twoSides 0 = .ok (.iload_n 1, 1) := by decide +kernel
theorem dX10_twoSides_1 : decode cX10_twoSides 1 = .ok (.i2l, 1) := by decide +kernel
theorem dX10_twoSides_2 : decode cX10_twoSides 2 = .ok (.lconst 0, 1) := by decide +kernel
theorem dX10_twoSides_3 : decode cX10_twoSides 3 = .ok (.ldc2_w 287, 3) := by decide +kernel
theorem dX10_twoSides_6 : decode cX10_twoSides 6 = .ok (.invokestatic 87, 3) := by decide +kernel
theorem dX10_twoSides_9 : decode cX10_twoSides 9 = .ok (.ifCond .ne 6, 3) := by decide +kernel
theorem dX10_twoSides_12 : decode cX10_twoSides 12 = .ok (.ldc 96, 2) := by decide +kernel
theorem dX10_twoSides_14 : decode cX10_twoSides 14 = .ok (.ireturn, 1) := by decide +kernel
theorem dX10_twoSides_15 : decode cX10_twoSides 15 = .ok (.iconst 0, 1) := by decide +kernel
theorem dX10_twoSides_16 : decode cX10_twoSides 16 = .ok (.istore_n 2, 1) := by decide +kernel
theorem dX10_twoSides_17 : decode cX10_twoSides 17 = .ok (.iconst 0, 1) := by decide +kernel
theorem dX10_twoSides_18 : decode cX10_twoSides 18 = .ok (.istore_n 3, 1) := by decide +kernel
theorem dX10_twoSides_19 : decode cX10_twoSides 19 = .ok (.iconst (-1), 1) := by decide +kernel
theorem dX10_twoSides_20 : decode cX10_twoSides 20 = .ok (.istore 4, 2) := by decide +kernel
theorem dX10_twoSides_22 : decode cX10_twoSides 22 = .ok (.iconst 0, 1) := by decide +kernel
theorem dX10_twoSides_23 : decode cX10_twoSides 23 = .ok (.istore 5, 2) := by decide +kernel
theorem dX10_twoSides_25 : decode cX10_twoSides 25 = .ok (.aload_n 0, 1) := by decide +kernel
theorem dX10_twoSides_26 : decode cX10_twoSides 26 = .ok (.getfield 22, 3) := by decide +kernel
theorem dX10_twoSides_29 : decode cX10_twoSides 29 = .ok (.iconst 0, 1) := by decide +kernel
theorem dX10_twoSides_30 : decode cX10_twoSides 30 = .ok (.iaload, 1) := by decide +kernel
theorem dX10_twoSides_31 : decode cX10_twoSides 31 = .ok (.iconst 1, 1) := by decide +kernel
theorem dX10_twoSides_32 : decode cX10_twoSides 32 = .ok (.isub, 1) := by decide +kernel
theorem dX10_twoSides_33 : decode cX10_twoSides 33 = .ok (.istore 6, 2) := by decide +kernel
theorem dX10_twoSides_35 : decode cX10_twoSides 35 = .ok (.iconst 1, 1) := by decide +kernel
theorem dX10_twoSides_36 : decode cX10_twoSides 36 = .ok (.istore 7, 2) := by decide +kernel
theorem dX10_twoSides_38 : decode cX10_twoSides 38 = .ok (.iload 5, 2) := by decide +kernel
theorem dX10_twoSides_40 : decode cX10_twoSides 40 = .ok (.iload 6, 2) := by decide +kernel
theorem dX10_twoSides_42 : decode cX10_twoSides 42 = .ok (.if_icmp .gt 98, 3) := by decide +kernel
theorem dX10_twoSides_45 : decode cX10_twoSides 45 = .ok (.iload 7, 2) := by decide +kernel
theorem dX10_twoSides_47 : decode cX10_twoSides 47 = .ok (.ifCond .eq 8, 3) := by decide +kernel
theorem dX10_twoSides_50 : decode cX10_twoSides 50 = .ok (.iload 5, 2) := by decide +kernel
theorem dX10_twoSides_52 : decode cX10_twoSides 52 = .ok (.goto 5, 3) := by decide +kernel
theorem dX10_twoSides_55 : decode cX10_twoSides 55 = .ok (.iload 6, 2) := by decide +kernel
theorem dX10_twoSides_57 : decode cX10_twoSides 57 = .ok (.istore 4, 2) := by decide +kernel
theorem dX10_twoSides_59 : decode cX10_twoSides 59 = .ok (.iload_n 2, 1) := by decide +kernel
theorem dX10_twoSides_60 : decode cX10_twoSides 60 = .ok (.iload 7, 2) := by decide +kernel
theorem dX10_twoSides_62 : decode cX10_twoSides 62 = .ok (.ifCond .eq 12, 3) := by decide +kernel
theorem dX10_twoSides_65 : decode cX10_twoSides 65 = .ok (.aload_n 0, 1) := by decide +kernel
theorem dX10_twoSides_66 : decode cX10_twoSides 66 = .ok (.iload 4, 2) := by decide +kernel
theorem dX10_twoSides_68 : decode cX10_twoSides 68 = .ok (.invokevirtual 224, 3) := by decide +kernel
theorem dX10_twoSides_71 : decode cX10_twoSides 71 = .ok (.goto 4, 3) := by decide +kernel
theorem dX10_twoSides_74 : decode cX10_twoSides 74 = .ok (.iconst 0, 1) := by decide +kernel
theorem dX10_twoSides_75 : decode cX10_twoSides 75 = .ok (.iadd, 1) := by decide +kernel
theorem dX10_twoSides_76 : decode cX10_twoSides 76 = .ok (.istore_n 2, 1) := by decide +kernel
theorem dX10_twoSides_77 : decode cX10_twoSides 77 = .ok (.iload_n 3, 1) := by decide +kernel
theorem dX10_twoSides_78 : decode cX10_twoSides 78 = .ok (.iload 7, 2) := by decide +kernel
theorem dX10_twoSides_80 : decode cX10_twoSides 80 = .ok (.ifCond .eq 7, 3) := by decide +kernel
theorem dX10_twoSides_83 : decode cX10_twoSides 83 = .ok (.iconst 0, 1) := by decide +kernel
theorem dX10_twoSides_84 : decode cX10_twoSides 84 = .ok (.goto 9, 3) := by decide +kernel
theorem dX10_twoSides_87 : decode cX10_twoSides 87 = .ok (.aload_n 0, 1) := by decide +kernel
theorem dX10_twoSides_88 : decode cX10_twoSides 88 = .ok (.iload 4, 2) := by decide +kernel
theorem dX10_twoSides_90 : decode cX10_twoSides 90 = .ok (.invokevirtual 224, 3) := by decide +kernel
theorem dX10_twoSides_93 : decode cX10_twoSides 93 = .ok (.iadd, 1) := by decide +kernel
theorem dX10_twoSides_94 : decode cX10_twoSides 94 = .ok (.istore_n 3, 1) := by decide +kernel
theorem dX10_twoSides_95 : decode cX10_twoSides 95 = .ok (.iload 5, 2) := by decide +kernel
theorem dX10_twoSides_97 : decode cX10_twoSides 97 = .ok (.iload 7, 2) := by decide +kernel
theorem dX10_twoSides_99 : decode cX10_twoSides 99 = .ok (.ifCond .eq 7, 3) := by decide +kernel
theorem dX10_twoSides_102 : decode cX10_twoSides 102 = .ok (.iconst 1, 1) := by decide +kernel
theorem dX10_twoSides_103 : decode cX10_twoSides 103 = .ok (.goto 4, 3) := by decide +kernel
theorem dX10_twoSides_106 : decode cX10_twoSides 106 = .ok (.iconst 0, 1) := by decide +kernel
theorem dX10_twoSides_107 : decode cX10_twoSides 107 = .ok (.iadd, 1) := by decide +kernel
theorem dX10_twoSides_108 : decode cX10_twoSides 108 = .ok (.istore 5, 2) := by decide +kernel
theorem dX10_twoSides_110 : decode cX10_twoSides 110 = .ok (.iload 6, 2) := by decide +kernel
theorem dX10_twoSides_112 : decode cX10_twoSides 112 = .ok (.iload 7, 2) := by decide +kernel
theorem dX10_twoSides_114 : decode cX10_twoSides 114 = .ok (.ifCond .eq 7, 3) := by decide +kernel
theorem dX10_twoSides_117 : decode cX10_twoSides 117 = .ok (.iconst 0, 1) := by decide +kernel
theorem dX10_twoSides_118 : decode cX10_twoSides 118 = .ok (.goto 4, 3) := by decide +kernel
theorem dX10_twoSides_121 : decode cX10_twoSides 121 = .ok (.iconst 1, 1) := by decide +kernel
theorem dX10_twoSides_122 : decode cX10_twoSides 122 = .ok (.isub, 1) := by decide +kernel
theorem dX10_twoSides_123 : decode cX10_twoSides 123 = .ok (.istore 6, 2) := by decide +kernel
theorem dX10_twoSides_125 : decode cX10_twoSides 125 = .ok (.iload 7, 2) := by decide +kernel
theorem dX10_twoSides_127 : decode cX10_twoSides 127 = .ok (.ifCond .ne 7, 3) := by decide +kernel
theorem dX10_twoSides_130 : decode cX10_twoSides 130 = .ok (.iconst 1, 1) := by decide +kernel
theorem dX10_twoSides_131 : decode cX10_twoSides 131 = .ok (.goto 4, 3) := by decide +kernel
theorem dX10_twoSides_134 : decode cX10_twoSides 134 = .ok (.iconst 0, 1) := by decide +kernel
theorem dX10_twoSides_135 : decode cX10_twoSides 135 = .ok (.istore 7, 2) := by decide +kernel
theorem dX10_twoSides_137 : decode cX10_twoSides 137 = .ok (.goto (-99), 3) := by decide +kernel
theorem dX10_twoSides_140 : decode cX10_twoSides 140 = .ok (.iload_n 1, 1) := by decide +kernel
theorem dX10_twoSides_141 : decode cX10_twoSides 141 = .ok (.ifCond .ne 7, 3) := by decide +kernel
theorem dX10_twoSides_144 : decode cX10_twoSides 144 = .ok (.iload_n 2, 1) := by decide +kernel
theorem dX10_twoSides_145 : decode cX10_twoSides 145 = .ok (.goto 14, 3) := by decide +kernel
theorem dX10_twoSides_148 : decode cX10_twoSides 148 = .ok (.iload_n 1, 1) := by decide +kernel
theorem dX10_twoSides_149 : decode cX10_twoSides 149 = .ok (.iconst 1, 1) := by decide +kernel
theorem dX10_twoSides_150 : decode cX10_twoSides 150 = .ok (.if_icmp .ne 7, 3) := by decide +kernel
theorem dX10_twoSides_153 : decode cX10_twoSides 153 = .ok (.iload_n 3, 1) := by decide +kernel
theorem dX10_twoSides_154 : decode cX10_twoSides 154 = .ok (.goto 5, 3) := by decide +kernel
theorem dX10_twoSides_157 : decode cX10_twoSides 157 = .ok (.iload 4, 2) := by decide +kernel
theorem dX10_twoSides_159 : decode cX10_twoSides 159 = .ok (.ireturn, 1) := by decide +kernel
theorem dX10_nextKind_0 : decode cX10_nextKind 0 = .ok (.iload_n 1, 1) := by decide +kernel
theorem dX10_nextKind_1 : decode cX10_nextKind 1 = .ok (.i2l, 1) := by decide +kernel
theorem dX10_nextKind_2 : decode cX10_nextKind 2 = .ok (.lconst 0, 1) := by decide +kernel
theorem dX10_nextKind_3 : decode cX10_nextKind 3 = .ok (.ldc2_w 289, 3) := by decide +kernel
theorem dX10_nextKind_6 : decode cX10_nextKind 6 = .ok (.invokestatic 87, 3) := by decide +kernel
theorem dX10_nextKind_9 : decode cX10_nextKind 9 = .ok (.ifCond .eq 11, 3) := by decide +kernel
theorem dX10_nextKind_12 : decode cX10_nextKind 12 = .ok (.aload_n 0, 1) := by decide +kernel
theorem dX10_nextKind_13 : decode cX10_nextKind 13 = .ok (.iload_n 1, 1) := by decide +kernel
theorem dX10_nextKind_14 : decode cX10_nextKind 14 = .ok (.invokevirtual 194, 3) := by decide +kernel
theorem dX10_nextKind_17 : decode cX10_nextKind 17 = .ok (.goto 5, 3) := by decide +kernel
theorem dX10_nextKind_20 : decode cX10_nextKind 20 = .ok (.ldc 96, 2) := by decide +kernel
theorem dX10_nextKind_22 : decode cX10_nextKind 22 = .ok (.ireturn, 1) := by decide +kernel
theorem dX10_isPair_0 : decode cX10_isPair 0 = .ok (.iconst 0, 1) := by decide +kernel
theorem dX10_isPair_1 : decode cX10_isPair 1 = .ok (.istore_n 3, 1) := by decide +kernel
theorem dX10_isPair_2 : decode cX10_isPair 2 = .ok (.iconst 0, 1) := by decide +kernel
theorem dX10_isPair_3 : decode cX10_isPair 3 = .ok (.istore 4, 2) := by decide +kernel
theorem dX10_isPair_5 : decode cX10_isPair 5 = .ok (.iload 4, 2) := by decide +kernel
theorem dX10_isPair_7 : decode cX10_isPair 7 = .ok (.aload_n 0, 1) := by decide +kernel
theorem dX10_isPair_8 : decode cX10_isPair 8 = .ok (.getfield 164, 3) := by decide +kernel
theorem dX10_isPair_11 : decode cX10_isPair 11 = .ok (.if_icmp .ge 76, 3) := by decide +kernel
theorem dX10_isPair_14 : decode cX10_isPair 14 = .ok (.iconst 1, 1) := by decide +kernel
theorem dX10_isPair_15 : decode cX10_isPair 15 = .ok (.istore 5, 2) := by decide +kernel
theorem dX10_isPair_17 : decode cX10_isPair 17 = .ok (.iload 5, 2) := by decide +kernel
theorem dX10_isPair_19 : decode cX10_isPair 19 = .ok (.aload_n 0, 1) := by decide +kernel
theorem dX10_isPair_20 : decode cX10_isPair 20 = .ok (.getfield 16, 3) := by decide +kernel
theorem dX10_isPair_23 : decode cX10_isPair 23 = .ok (.iload 4, 2) := by decide +kernel
theorem dX10_isPair_25 : decode cX10_isPair 25 = .ok (.iaload, 1) := by decide +kernel
theorem dX10_isPair_26 : decode cX10_isPair 26 = .ok (.if_icmp .ge 55, 3) := by decide +kernel
theorem dX10_isPair_29 : decode cX10_isPair 29 = .ok (.iload_n 3, 1) := by decide +kernel
theorem dX10_isPair_30 : decode cX10_isPair 30 = .ok (.ifCond .ne 39, 3) := by decide +kernel
theorem dX10_isPair_33 : decode cX10_isPair 33 = .ok (.aload_n 0, 1) := by decide +kernel
theorem dX10_isPair_34 : decode cX10_isPair 34 = .ok (.getfield 19, 3) := by decide +kernel
theorem dX10_isPair_37 : decode cX10_isPair 37 = .ok (.bipush 8, 2) := by decide +kernel
theorem dX10_isPair_39 : decode cX10_isPair 39 = .ok (.iload 4, 2) := by decide +kernel
theorem dX10_isPair_41 : decode cX10_isPair 41 = .ok (.imul, 1) := by decide +kernel
theorem dX10_isPair_42 : decode cX10_isPair 42 = .ok (.iload 5, 2) := by decide +kernel
theorem dX10_isPair_44 : decode cX10_isPair 44 = .ok (.iadd, 1) := by decide +kernel
theorem dX10_isPair_45 : decode cX10_isPair 45 = .ok (.iconst 1, 1) := by decide +kernel
theorem dX10_isPair_46 : decode cX10_isPair 46 = .ok (.isub, 1) := by decide +kernel
theorem dX10_isPair_47 : decode cX10_isPair 47 = .ok (.iaload, 1) := by decide +kernel
theorem dX10_isPair_48 : decode cX10_isPair 48 = .ok (.iload_n 1, 1) := by decide +kernel
theorem dX10_isPair_49 : decode cX10_isPair 49 = .ok (.if_icmp .ne 24, 3) := by decide +kernel
theorem dX10_isPair_52 : decode cX10_isPair 52 = .ok (.aload_n 0, 1) := by decide +kernel
theorem dX10_isPair_53 : decode cX10_isPair 53 = .ok (.getfield 19, 3) := by decide +kernel
theorem dX10_isPair_56 : decode cX10_isPair 56 = .ok (.bipush 8, 2) := by decide +kernel
theorem dX10_isPair_58 : decode cX10_isPair 58 = .ok (.iload 4, 2) := by decide +kernel
theorem dX10_isPair_60 : decode cX10_isPair 60 = .ok (.imul, 1) := by decide +kernel
theorem dX10_isPair_61 : decode cX10_isPair 61 = .ok (.iload 5, 2) := by decide +kernel
theorem dX10_isPair_63 : decode cX10_isPair 63 = .ok (.iadd, 1) := by decide +kernel
theorem dX10_isPair_64 : decode cX10_isPair 64 = .ok (.iaload, 1) := by decide +kernel
theorem dX10_isPair_65 : decode cX10_isPair 65 = .ok (.iload_n 2, 1) := by decide +kernel
theorem dX10_isPair_66 : decode cX10_isPair 66 = .ok (.if_icmp .ne 7, 3) := by decide +kernel
theorem dX10_isPair_69 : decode cX10_isPair 69 = .ok (.iconst 1, 1) := by decide +kernel
theorem dX10_isPair_70 : decode cX10_isPair 70 = .ok (.goto 4, 3) := by decide +kernel
theorem dX10_isPair_73 : decode cX10_isPair 73 = .ok (.iconst 0, 1) := by decide +kernel
theorem dX10_isPair_74 : decode cX10_isPair 74 = .ok (.istore_n 3, 1) := by decide +kernel
theorem dX10_isPair_75 : decode cX10_isPair 75 = .ok (.iinc 5 1, 3) := by decide +kernel
theorem dX10_isPair_78 : decode cX10_isPair 78 = .ok (.goto (-61), 3) := by decide +kernel
theorem dX10_isPair_81 : decode cX10_isPair 81 = .ok (.iinc 4 1, 3) := by decide +kernel
theorem dX10_isPair_84 : decode cX10_isPair 84 = .ok (.goto (-79), 3) := by decide +kernel
theorem dX10_isPair_87 : decode cX10_isPair 87 = .ok (.iload_n 3, 1) := by decide +kernel
theorem dX10_isPair_88 : decode cX10_isPair 88 = .ok (.ireturn, 1) := by decide +kernel
theorem dX10_allows_0 : decode cX10_allows 0 = .ok (.iload_n 1, 1) := by decide +kernel
theorem dX10_allows_1 : decode cX10_allows 1 = .ok (.i2l, 1) := by decide +kernel
theorem dX10_allows_2 : decode cX10_allows 2 = .ok (.lconst 0, 1) := by decide +kernel
theorem dX10_allows_3 : decode cX10_allows 3 = .ok (.ldc2_w 289, 3) := by decide +kernel
theorem dX10_allows_6 : decode cX10_allows 6 = .ok (.invokestatic 87, 3) := by decide +kernel
theorem dX10_allows_9 : decode cX10_allows 9 = .ok (.ifCond .ne 6, 3) := by decide +kernel
theorem dX10_allows_12 : decode cX10_allows 12 = .ok (.ldc 96, 2) := by decide +kernel
theorem dX10_allows_14 : decode cX10_allows 14 = .ok (.ireturn, 1) := by decide +kernel
theorem dX10_allows_15 : decode cX10_allows 15 = .ok (.iconst 0, 1) := by decide +kernel
theorem dX10_allows_16 : decode cX10_allows 16 = .ok (.istore_n 2, 1) := by decide +kernel
theorem dX10_allows_17 : decode cX10_allows 17 = .ok (.iconst 0, 1) := by decide +kernel
theorem dX10_allows_18 : decode cX10_allows 18 = .ok (.istore_n 3, 1) := by decide +kernel
theorem dX10_allows_19 : decode cX10_allows 19 = .ok (.iload_n 3, 1) := by decide +kernel
theorem dX10_allows_20 : decode cX10_allows 20 = .ok (.aload_n 0, 1) := by decide +kernel
theorem dX10_allows_21 : decode cX10_allows 21 = .ok (.getfield 22, 3) := by decide +kernel
theorem dX10_allows_24 : decode cX10_allows 24 = .ok (.iconst 0, 1) := by decide +kernel
theorem dX10_allows_25 : decode cX10_allows 25 = .ok (.iaload, 1) := by decide +kernel
theorem dX10_allows_26 : decode cX10_allows 26 = .ok (.if_icmp .ge 35, 3) := by decide +kernel
theorem dX10_allows_29 : decode cX10_allows 29 = .ok (.iload_n 2, 1) := by decide +kernel
theorem dX10_allows_30 : decode cX10_allows 30 = .ok (.aload_n 0, 1) := by decide +kernel
theorem dX10_allows_31 : decode cX10_allows 31 = .ok (.iload_n 1, 1) := by decide +kernel
theorem dX10_allows_32 : decode cX10_allows 32 = .ok (.aload_n 0, 1) := by decide +kernel
theorem dX10_allows_33 : decode cX10_allows 33 = .ok (.getfield 22, 3) := by decide +kernel
theorem dX10_allows_36 : decode cX10_allows 36 = .ok (.iconst 1, 1) := by decide +kernel
theorem dX10_allows_37 : decode cX10_allows 37 = .ok (.iload_n 3, 1) := by decide +kernel
theorem dX10_allows_38 : decode cX10_allows 38 = .ok (.iadd, 1) := by decide +kernel
theorem dX10_allows_39 : decode cX10_allows 39 = .ok (.iaload, 1) := by decide +kernel
theorem dX10_allows_40 : decode cX10_allows 40 = .ok (.invokevirtual 291, 3) := by decide +kernel
theorem dX10_allows_43 : decode cX10_allows 43 = .ok (.ifCond .eq 9, 3) := by decide +kernel
theorem dX10_allows_46 : decode cX10_allows 46 = .ok (.iconst 1, 1) := by decide +kernel
theorem dX10_allows_47 : decode cX10_allows 47 = .ok (.iload_n 3, 1) := by decide +kernel
theorem dX10_allows_48 : decode cX10_allows 48 = .ok (.ishl, 1) := by decide +kernel
theorem dX10_allows_49 : decode cX10_allows 49 = .ok (.goto 4, 3) := by decide +kernel
theorem dX10_allows_52 : decode cX10_allows 52 = .ok (.iconst 0, 1) := by decide +kernel
theorem dX10_allows_53 : decode cX10_allows 53 = .ok (.ior, 1) := by decide +kernel
theorem dX10_allows_54 : decode cX10_allows 54 = .ok (.istore_n 2, 1) := by decide +kernel
theorem dX10_allows_55 : decode cX10_allows 55 = .ok (.iinc 3 1, 3) := by decide +kernel
theorem dX10_allows_58 : decode cX10_allows 58 = .ok (.goto (-39), 3) := by decide +kernel
theorem dX10_allows_61 : decode cX10_allows 61 = .ok (.iload_n 2, 1) := by decide +kernel
theorem dX10_allows_62 : decode cX10_allows 62 = .ok (.ireturn, 1) := by decide +kernel
theorem dX10_run_0 : decode cX10_run 0 = .ok (.iload_n 1, 1) := by decide +kernel
theorem dX10_run_1 : decode cX10_run 1 = .ok (.i2l, 1) := by decide +kernel
theorem dX10_run_2 : decode cX10_run 2 = .ok (.lconst 0, 1) := by decide +kernel
theorem dX10_run_3 : decode cX10_run 3 = .ok (.lconst 1, 1) := by decide +kernel
theorem dX10_run_4 : decode cX10_run 4 = .ok (.invokestatic 87, 3) := by decide +kernel
theorem dX10_run_7 : decode cX10_run 7 = .ok (.ifCond .ne 6, 3) := by decide +kernel
theorem dX10_run_10 : decode cX10_run 10 = .ok (.ldc 96, 2) := by decide +kernel
theorem dX10_run_12 : decode cX10_run 12 = .ok (.ireturn, 1) := by decide +kernel
theorem dX10_run_13 : decode cX10_run 13 = .ok (.iconst (-1), 1) := by decide +kernel
theorem dX10_run_14 : decode cX10_run 14 = .ok (.istore_n 2, 1) := by decide +kernel
theorem dX10_run_15 : decode cX10_run 15 = .ok (.iconst 0, 1) := by decide +kernel
theorem dX10_run_16 : decode cX10_run 16 = .ok (.istore_n 3, 1) := by decide +kernel
theorem dX10_run_17 : decode cX10_run 17 = .ok (.iconst 0, 1) := by decide +kernel
theorem dX10_run_18 : decode cX10_run 18 = .ok (.istore 4, 2) := by decide +kernel
theorem dX10_run_20 : decode cX10_run 20 = .ok (.iconst 0, 1) := by decide +kernel
theorem dX10_run_21 : decode cX10_run 21 = .ok (.istore 5, 2) := by decide +kernel
theorem dX10_run_23 : decode cX10_run 23 = .ok (.iload 5, 2) := by decide +kernel
theorem dX10_run_25 : decode cX10_run 25 = .ok (.aload_n 0, 1) := by decide +kernel
theorem dX10_run_26 : decode cX10_run 26 = .ok (.getfield 22, 3) := by decide +kernel
theorem dX10_run_29 : decode cX10_run 29 = .ok (.iconst 0, 1) := by decide +kernel
theorem dX10_run_30 : decode cX10_run 30 = .ok (.iaload, 1) := by decide +kernel
theorem dX10_run_31 : decode cX10_run 31 = .ok (.if_icmp .ge 87, 3) := by decide +kernel
theorem dX10_run_34 : decode cX10_run 34 = .ok (.iload 5, 2) := by decide +kernel
theorem dX10_run_36 : decode cX10_run 36 = .ok (.ifCond .le 31, 3) := by decide +kernel
theorem dX10_run_39 : decode cX10_run 39 = .ok (.aload_n 0, 1) := by decide +kernel
theorem dX10_run_40 : decode cX10_run 40 = .ok (.getfield 22, 3) := by decide +kernel
theorem dX10_run_43 : decode cX10_run 43 = .ok (.iconst 1, 1) := by decide +kernel
theorem dX10_run_44 : decode cX10_run 44 = .ok (.iload 5, 2) := by decide +kernel
theorem dX10_run_46 : decode cX10_run 46 = .ok (.iadd, 1) := by decide +kernel
theorem dX10_run_47 : decode cX10_run 47 = .ok (.iaload, 1) := by decide +kernel
theorem dX10_run_48 : decode cX10_run 48 = .ok (.aload_n 0, 1) := by decide +kernel
theorem dX10_run_49 : decode cX10_run 49 = .ok (.getfield 22, 3) := by decide +kernel
theorem dX10_run_52 : decode cX10_run 52 = .ok (.iconst 1, 1) := by decide +kernel
theorem dX10_run_53 : decode cX10_run 53 = .ok (.iload 5, 2) := by decide +kernel
theorem dX10_run_55 : decode cX10_run 55 = .ok (.iadd, 1) := by decide +kernel
theorem dX10_run_56 : decode cX10_run 56 = .ok (.iconst 1, 1) := by decide +kernel
theorem dX10_run_57 : decode cX10_run 57 = .ok (.isub, 1) := by decide +kernel
theorem dX10_run_58 : decode cX10_run 58 = .ok (.iaload, 1) := by decide +kernel
theorem dX10_run_59 : decode cX10_run 59 = .ok (.if_icmp .ne 8, 3) := by decide +kernel
theorem dX10_run_62 : decode cX10_run 62 = .ok (.iload 4, 2) := by decide +kernel
theorem dX10_run_64 : decode cX10_run 64 = .ok (.goto 5, 3) := by decide +kernel
theorem dX10_run_67 : decode cX10_run 67 = .ok (.iload 5, 2) := by decide +kernel
theorem dX10_run_69 : decode cX10_run 69 = .ok (.istore 4, 2) := by decide +kernel
theorem dX10_run_71 : decode cX10_run 71 = .ok (.iload 5, 2) := by decide +kernel
theorem dX10_run_73 : decode cX10_run 73 = .ok (.iload 4, 2) := by decide +kernel
theorem dX10_run_75 : decode cX10_run 75 = .ok (.isub, 1) := by decide +kernel
theorem dX10_run_76 : decode cX10_run 76 = .ok (.iconst 1, 1) := by decide +kernel
theorem dX10_run_77 : decode cX10_run 77 = .ok (.iadd, 1) := by decide +kernel
theorem dX10_run_78 : decode cX10_run 78 = .ok (.iload_n 3, 1) := by decide +kernel
theorem dX10_run_79 : decode cX10_run 79 = .ok (.if_icmp .le 8, 3) := by decide +kernel
theorem dX10_run_82 : decode cX10_run 82 = .ok (.iload 4, 2) := by decide +kernel
theorem dX10_run_84 : decode cX10_run 84 = .ok (.goto 4, 3) := by decide +kernel
theorem dX10_run_87 : decode cX10_run 87 = .ok (.iload_n 2, 1) := by decide +kernel
theorem dX10_run_88 : decode cX10_run 88 = .ok (.istore_n 2, 1) := by decide +kernel
theorem dX10_run_89 : decode cX10_run 89 = .ok (.iload 5, 2) := by decide +kernel
theorem dX10_run_91 : decode cX10_run 91 = .ok (.iload 4, 2) := by decide +kernel
theorem dX10_run_93 : decode cX10_run 93 = .ok (.isub, 1) := by decide +kernel
theorem dX10_run_94 : decode cX10_run 94 = .ok (.iconst 1, 1) := by decide +kernel
theorem dX10_run_95 : decode cX10_run 95 = .ok (.iadd, 1) := by decide +kernel
theorem dX10_run_96 : decode cX10_run 96 = .ok (.iload_n 3, 1) := by decide +kernel
theorem dX10_run_97 : decode cX10_run 97 = .ok (.if_icmp .le 13, 3) := by decide +kernel
theorem dX10_run_100 : decode cX10_run 100 = .ok (.iload 5, 2) := by decide +kernel
theorem dX10_run_102 : decode cX10_run 102 = .ok (.iload 4, 2) := by decide +kernel
theorem dX10_run_104 : decode cX10_run 104 = .ok (.isub, 1) := by decide +kernel
theorem dX10_run_105 : decode cX10_run 105 = .ok (.iconst 1, 1) := by decide +kernel
theorem dX10_run_106 : decode cX10_run 106 = .ok (.iadd, 1) := by decide +kernel
theorem dX10_run_107 : decode cX10_run 107 = .ok (.goto 4, 3) := by decide +kernel
theorem dX10_run_110 : decode cX10_run 110 = .ok (.iload_n 3, 1) := by decide +kernel
theorem dX10_run_111 : decode cX10_run 111 = .ok (.istore_n 3, 1) := by decide +kernel
theorem dX10_run_112 : decode cX10_run 112 = .ok (.iinc 5 1, 3) := by decide +kernel
theorem dX10_run_115 : decode cX10_run 115 = .ok (.goto (-92), 3) := by decide +kernel
theorem dX10_run_118 : decode cX10_run 118 = .ok (.iload_n 1, 1) := by decide +kernel
theorem dX10_run_119 : decode cX10_run 119 = .ok (.ifCond .ne 7, 3) := by decide +kernel
theorem dX10_run_122 : decode cX10_run 122 = .ok (.iload_n 3, 1) := by decide +kernel
theorem dX10_run_123 : decode cX10_run 123 = .ok (.goto 4, 3) := by decide +kernel
theorem dX10_run_126 : decode cX10_run 126 = .ok (.iload_n 2, 1) := by decide +kernel
theorem dX10_run_127 : decode cX10_run 127 = .ok (.ireturn, 1) := by decide +kernel
theorem dX10_fair_0 : decode cX10_fair 0 = .ok (.iload_n 1, 1) := by decide +kernel
theorem dX10_fair_1 : decode cX10_fair 1 = .ok (.iconst (-1), 1) := by decide +kernel
theorem dX10_fair_2 : decode cX10_fair 2 = .ok (.if_icmp .eq 14, 3) := by decide +kernel
theorem dX10_fair_5 : decode cX10_fair 5 = .ok (.aload_n 0, 1) := by decide +kernel
theorem dX10_fair_6 : decode cX10_fair 6 = .ok (.iload_n 1, 1) := by decide +kernel
theorem dX10_fair_7 : decode cX10_fair 7 = .ok (.invokevirtual 220, 3) := by decide +kernel
theorem dX10_fair_10 : decode cX10_fair 10 = .ok (.ifCond .ne 6, 3) := by decide +kernel
theorem dX10_fair_13 : decode cX10_fair 13 = .ok (.ldc 223, 2) := by decide +kernel
theorem dX10_fair_15 : decode cX10_fair 15 = .ok (.ireturn, 1) := by decide +kernel
theorem dX10_fair_16 : decode cX10_fair 16 = .ok (.aload_n 0, 1) := by decide +kernel
theorem dX10_fair_17 : decode cX10_fair 17 = .ok (.getfield 91, 3) := by decide +kernel
theorem dX10_fair_20 : decode cX10_fair 20 = .ok (.ifCond .ne 5, 3) := by decide +kernel
theorem dX10_fair_23 : decode cX10_fair 23 = .ok (.iconst (-1), 1) := by decide +kernel
theorem dX10_fair_24 : decode cX10_fair 24 = .ok (.ireturn, 1) := by decide +kernel
theorem dX10_fair_25 : decode cX10_fair 25 = .ok (.iconst 0, 1) := by decide +kernel
theorem dX10_fair_26 : decode cX10_fair 26 = .ok (.istore_n 2, 1) := by decide +kernel
theorem dX10_fair_27 : decode cX10_fair 27 = .ok (.iload_n 2, 1) := by decide +kernel
theorem dX10_fair_28 : decode cX10_fair 28 = .ok (.aload_n 0, 1) := by decide +kernel
theorem dX10_fair_29 : decode cX10_fair 29 = .ok (.getfield 91, 3) := by decide +kernel
theorem dX10_fair_32 : decode cX10_fair 32 = .ok (.if_icmp .ge 24, 3) := by decide +kernel
theorem dX10_fair_35 : decode cX10_fair 35 = .ok (.aload_n 0, 1) := by decide +kernel
theorem dX10_fair_36 : decode cX10_fair 36 = .ok (.getfield 74, 3) := by decide +kernel
theorem dX10_fair_39 : decode cX10_fair 39 = .ok (.iload_n 2, 1) := by decide +kernel
theorem dX10_fair_40 : decode cX10_fair 40 = .ok (.aload_n 0, 1) := by decide +kernel
theorem dX10_fair_41 : decode cX10_fair 41 = .ok (.getfield 22, 3) := by decide +kernel
theorem dX10_fair_44 : decode cX10_fair 44 = .ok (.bipush 29, 2) := by decide +kernel
theorem dX10_fair_46 : decode cX10_fair 46 = .ok (.iload_n 2, 1) := by decide +kernel
theorem dX10_fair_47 : decode cX10_fair 47 = .ok (.iadd, 1) := by decide +kernel
theorem dX10_fair_48 : decode cX10_fair 48 = .ok (.iaload, 1) := by decide +kernel
theorem dX10_fair_49 : decode cX10_fair 49 = .ok (.iastore, 1) := by decide +kernel
theorem dX10_fair_50 : decode cX10_fair 50 = .ok (.iinc 2 1, 3) := by decide +kernel
theorem dX10_fair_53 : decode cX10_fair 53 = .ok (.goto (-26), 3) := by decide +kernel
theorem dX10_fair_56 : decode cX10_fair 56 = .ok (.iconst (-1), 1) := by decide +kernel
theorem dX10_fair_57 : decode cX10_fair 57 = .ok (.istore_n 2, 1) := by decide +kernel
theorem dX10_fair_58 : decode cX10_fair 58 = .ok (.iconst 0, 1) := by decide +kernel
theorem dX10_fair_59 : decode cX10_fair 59 = .ok (.istore_n 3, 1) := by decide +kernel
theorem dX10_fair_60 : decode cX10_fair 60 = .ok (.iload_n 3, 1) := by decide +kernel
theorem dX10_fair_61 : decode cX10_fair 61 = .ok (.aload_n 0, 1) := by decide +kernel
theorem dX10_fair_62 : decode cX10_fair 62 = .ok (.getfield 22, 3) := by decide +kernel
theorem dX10_fair_65 : decode cX10_fair 65 = .ok (.iconst 0, 1) := by decide +kernel
theorem dX10_fair_66 : decode cX10_fair 66 = .ok (.iaload, 1) := by decide +kernel
theorem dX10_fair_67 : decode cX10_fair 67 = .ok (.if_icmp .ge 83, 3) := by decide +kernel
theorem dX10_fair_70 : decode cX10_fair 70 = .ok (.iconst 0, 1) := by decide +kernel
theorem dX10_fair_71 : decode cX10_fair 71 = .ok (.istore 4, 2) := by decide +kernel
theorem dX10_fair_73 : decode cX10_fair 73 = .ok (.iconst 1, 1) := by decide +kernel
theorem dX10_fair_74 : decode cX10_fair 74 = .ok (.istore 5, 2) := by decide +kernel
theorem dX10_fair_76 : decode cX10_fair 76 = .ok (.iload 5, 2) := by decide +kernel
theorem dX10_fair_78 : decode cX10_fair 78 = .ok (.aload_n 0, 1) := by decide +kernel
theorem dX10_fair_79 : decode cX10_fair 79 = .ok (.getfield 91, 3) := by decide +kernel
theorem dX10_fair_82 : decode cX10_fair 82 = .ok (.if_icmp .ge 35, 3) := by decide +kernel
theorem dX10_fair_85 : decode cX10_fair 85 = .ok (.aload_n 0, 1) := by decide +kernel
theorem dX10_fair_86 : decode cX10_fair 86 = .ok (.getfield 74, 3) := by decide +kernel
theorem dX10_fair_89 : decode cX10_fair 89 = .ok (.iload 5, 2) := by decide +kernel
theorem dX10_fair_91 : decode cX10_fair 91 = .ok (.iaload, 1) := by decide +kernel
theorem dX10_fair_92 : decode cX10_fair 92 = .ok (.aload_n 0, 1) := by decide +kernel
theorem dX10_fair_93 : decode cX10_fair 93 = .ok (.getfield 74, 3) := by decide +kernel
theorem dX10_fair_96 : decode cX10_fair 96 = .ok (.iload 4, 2) := by decide +kernel
theorem dX10_fair_98 : decode cX10_fair 98 = .ok (.iaload, 1) := by decide +kernel
theorem dX10_fair_99 : decode cX10_fair 99 = .ok (.if_icmp .ge 8, 3) := by decide +kernel
theorem dX10_fair_102 : decode cX10_fair 102 = .ok (.iload 5, 2) := by decide +kernel
theorem dX10_fair_104 : decode cX10_fair 104 = .ok (.goto 5, 3) := by decide +kernel
theorem dX10_fair_107 : decode cX10_fair 107 = .ok (.iload 4, 2) := by decide +kernel
theorem dX10_fair_109 : decode cX10_fair 109 = .ok (.istore 4, 2) := by decide +kernel
theorem dX10_fair_111 : decode cX10_fair 111 = .ok (.iinc 5 1, 3) := by decide +kernel
theorem dX10_fair_114 : decode cX10_fair 114 = .ok (.goto (-38), 3) := by decide +kernel
theorem dX10_fair_117 : decode cX10_fair 117 = .ok (.aload_n 0, 1) := by decide +kernel
theorem dX10_fair_118 : decode cX10_fair 118 = .ok (.getfield 74, 3) := by decide +kernel
theorem dX10_fair_121 : decode cX10_fair 121 = .ok (.iload 4, 2) := by decide +kernel
theorem dX10_fair_123 : decode cX10_fair 123 = .ok (.dup2, 1) := by decide +kernel
theorem dX10_fair_124 : decode cX10_fair 124 = .ok (.iaload, 1) := by decide +kernel
theorem dX10_fair_125 : decode cX10_fair 125 = .ok (.aload_n 0, 1) := by decide +kernel
theorem dX10_fair_126 : decode cX10_fair 126 = .ok (.iload_n 3, 1) := by decide +kernel
theorem dX10_fair_127 : decode cX10_fair 127 = .ok (.invokevirtual 224, 3) := by decide +kernel
theorem dX10_fair_130 : decode cX10_fair 130 = .ok (.iadd, 1) := by decide +kernel
theorem dX10_fair_131 : decode cX10_fair 131 = .ok (.iastore, 1) := by decide +kernel
theorem dX10_fair_132 : decode cX10_fair 132 = .ok (.iload_n 3, 1) := by decide +kernel
theorem dX10_fair_133 : decode cX10_fair 133 = .ok (.iload_n 1, 1) := by decide +kernel
theorem dX10_fair_134 : decode cX10_fair 134 = .ok (.if_icmp .ne 8, 3) := by decide +kernel
theorem dX10_fair_137 : decode cX10_fair 137 = .ok (.iload 4, 2) := by decide +kernel
theorem dX10_fair_139 : decode cX10_fair 139 = .ok (.goto 4, 3) := by decide +kernel
theorem dX10_fair_142 : decode cX10_fair 142 = .ok (.iload_n 2, 1) := by decide +kernel
theorem dX10_fair_143 : decode cX10_fair 143 = .ok (.istore_n 2, 1) := by decide +kernel
theorem dX10_fair_144 : decode cX10_fair 144 = .ok (.iinc 3 1, 3) := by decide +kernel
theorem dX10_fair_147 : decode cX10_fair 147 = .ok (.goto (-87), 3) := by decide +kernel
theorem dX10_fair_150 : decode cX10_fair 150 = .ok (.iload_n 1, 1) := by decide +kernel
theorem dX10_fair_151 : decode cX10_fair 151 = .ok (.iconst (-1), 1) := by decide +kernel
theorem dX10_fair_152 : decode cX10_fair 152 = .ok (.if_icmp .ne 15, 3) := by decide +kernel
theorem dX10_fair_155 : decode cX10_fair 155 = .ok (.aload_n 0, 1) := by decide +kernel
theorem dX10_fair_156 : decode cX10_fair 156 = .ok (.aload_n 0, 1) := by decide +kernel
theorem dX10_fair_157 : decode cX10_fair 157 = .ok (.getfield 74, 3) := by decide +kernel
theorem dX10_fair_160 : decode cX10_fair 160 = .ok (.iconst 0, 1) := by decide +kernel
theorem dX10_fair_161 : decode cX10_fair 161 = .ok (.invokevirtual 210, 3) := by decide +kernel
theorem dX10_fair_164 : decode cX10_fair 164 = .ok (.goto 4, 3) := by decide +kernel
theorem dX10_fair_167 : decode cX10_fair 167 = .ok (.iload_n 2, 1) := by decide +kernel
theorem dX10_fair_168 : decode cX10_fair 168 = .ok (.ireturn, 1) := by decide +kernel
theorem dX10_dry_0 : decode cX10_dry 0 = .ok (.iload_n 1, 1) := by decide +kernel
theorem dX10_dry_1 : decode cX10_dry 1 = .ok (.i2l, 1) := by decide +kernel
theorem dX10_dry_2 : decode cX10_dry 2 = .ok (.lconst 0, 1) := by decide +kernel
theorem dX10_dry_3 : decode cX10_dry 3 = .ok (.ldc2_w 295, 3) := by decide +kernel
theorem dX10_dry_6 : decode cX10_dry 6 = .ok (.invokestatic 87, 3) := by decide +kernel
theorem dX10_dry_9 : decode cX10_dry 9 = .ok (.ifCond .eq 15, 3) := by decide +kernel
theorem dX10_dry_12 : decode cX10_dry 12 = .ok (.iload_n 2, 1) := by decide +kernel
theorem dX10_dry_13 : decode cX10_dry 13 = .ok (.i2l, 1) := by decide +kernel
theorem dX10_dry_14 : decode cX10_dry 14 = .ok (.lconst 0, 1) := by decide +kernel
theorem dX10_dry_15 : decode cX10_dry 15 = .ok (.ldc2_w 297, 3) := by decide +kernel
theorem dX10_dry_18 : decode cX10_dry 18 = .ok (.invokestatic 87, 3) := by decide +kernel
theorem dX10_dry_21 : decode cX10_dry 21 = .ok (.ifCond .ne 6, 3) := by decide +kernel
theorem dX10_dry_24 : decode cX10_dry 24 = .ok (.ldc 96, 2) := by decide +kernel
theorem dX10_dry_26 : decode cX10_dry 26 = .ok (.ireturn, 1) := by decide +kernel
theorem dX10_dry_27 : decode cX10_dry 27 = .ok (.ldc2_w 299, 3) := by decide +kernel
theorem dX10_dry_30 : decode cX10_dry 30 = .ok (.lstore_n 3, 1) := by decide +kernel
theorem dX10_dry_31 : decode cX10_dry 31 = .ok (.iconst 0, 1) := by decide +kernel
theorem dX10_dry_32 : decode cX10_dry 32 = .ok (.istore 5, 2) := by decide +kernel
theorem dX10_dry_34 : decode cX10_dry 34 = .ok (.iload 5, 2) := by decide +kernel
theorem dX10_dry_36 : decode cX10_dry 36 = .ok (.iload_n 1, 1) := by decide +kernel
theorem dX10_dry_37 : decode cX10_dry 37 = .ok (.if_icmp .ge 18, 3) := by decide +kernel
theorem dX10_dry_40 : decode cX10_dry 40 = .ok (.lload_n 3, 1) := by decide +kernel
theorem dX10_dry_41 : decode cX10_dry 41 = .ok (.iload_n 2, 1) := by decide +kernel
theorem dX10_dry_42 : decode cX10_dry 42 = .ok (.i2l, 1) := by decide +kernel
theorem dX10_dry_43 : decode cX10_dry 43 = .ok (.lmul, 1) := by decide +kernel
theorem dX10_dry_44 : decode cX10_dry 44 = .ok (.ldc2_w 297, 3) := by decide +kernel
theorem dX10_dry_47 : decode cX10_dry 47 = .ok (.ldiv, 1) := by decide +kernel
theorem dX10_dry_48 : decode cX10_dry 48 = .ok (.lstore_n 3, 1) := by decide +kernel
theorem dX10_dry_49 : decode cX10_dry 49 = .ok (.iinc 5 1, 3) := by decide +kernel
theorem dX10_dry_52 : decode cX10_dry 52 = .ok (.goto (-18), 3) := by decide +kernel
theorem dX10_dry_55 : decode cX10_dry 55 = .ok (.lload_n 3, 1) := by decide +kernel
theorem dX10_dry_56 : decode cX10_dry 56 = .ok (.l2i, 1) := by decide +kernel
theorem dX10_dry_57 : decode cX10_dry 57 = .ok (.ireturn, 1) := by decide +kernel
theorem dX10_guess_0 : decode cX10_guess 0 = .ok (.iload_n 1, 1) := by decide +kernel
theorem dX10_guess_1 : decode cX10_guess 1 = .ok (.i2l, 1) := by decide +kernel
theorem dX10_guess_2 : decode cX10_guess 2 = .ok (.lconst 0, 1) := by decide +kernel
theorem dX10_guess_3 : decode cX10_guess 3 = .ok (.ldc2_w 233, 3) := by decide +kernel
theorem dX10_guess_6 : decode cX10_guess 6 = .ok (.invokestatic 87, 3) := by decide +kernel
theorem dX10_guess_9 : decode cX10_guess 9 = .ok (.ifCond .eq 15, 3) := by decide +kernel
theorem dX10_guess_12 : decode cX10_guess 12 = .ok (.iload_n 2, 1) := by decide +kernel
theorem dX10_guess_13 : decode cX10_guess 13 = .ok (.i2l, 1) := by decide +kernel
theorem dX10_guess_14 : decode cX10_guess 14 = .ok (.lconst 0, 1) := by decide +kernel
theorem dX10_guess_15 : decode cX10_guess 15 = .ok (.ldc2_w 289, 3) := by decide +kernel
theorem dX10_guess_18 : decode cX10_guess 18 = .ok (.invokestatic 87, 3) := by decide +kernel
theorem dX10_guess_21 : decode cX10_guess 21 = .ok (.ifCond .ne 6, 3) := by decide +kernel
theorem dX10_guess_24 : decode cX10_guess 24 = .ok (.ldc 96, 2) := by decide +kernel
theorem dX10_guess_26 : decode cX10_guess 26 = .ok (.ireturn, 1) := by decide +kernel
theorem dX10_guess_27 : decode cX10_guess 27 = .ok (.aload_n 0, 1) := by decide +kernel
theorem dX10_guess_28 : decode cX10_guess 28 = .ok (.getfield 173, 3) := by decide +kernel
theorem dX10_guess_31 : decode cX10_guess 31 = .ok (.bipush 6, 2) := by decide +kernel
theorem dX10_guess_33 : decode cX10_guess 33 = .ok (.if_icmp .ne 6, 3) := by decide +kernel
theorem dX10_guess_36 : decode cX10_guess 36 = .ok (.ldc 100, 2) := by decide +kernel
theorem dX10_guess_38 : decode cX10_guess 38 = .ok (.ireturn, 1) := by decide +kernel
theorem dX10_guess_39 : decode cX10_guess 39 = .ok (.aload_n 0, 1) := by decide +kernel
theorem dX10_guess_40 : decode cX10_guess 40 = .ok (.getfield 31, 3) := by decide +kernel
theorem dX10_guess_43 : decode cX10_guess 43 = .ok (.aload_n 0, 1) := by decide +kernel
theorem dX10_guess_44 : decode cX10_guess 44 = .ok (.getfield 173, 3) := by decide +kernel
theorem dX10_guess_47 : decode cX10_guess 47 = .ok (.iload_n 1, 1) := by decide +kernel
theorem dX10_guess_48 : decode cX10_guess 48 = .ok (.iastore, 1) := by decide +kernel
theorem dX10_guess_49 : decode cX10_guess 49 = .ok (.aload_n 0, 1) := by decide +kernel
theorem dX10_guess_50 : decode cX10_guess 50 = .ok (.getfield 34, 3) := by decide +kernel
theorem dX10_guess_53 : decode cX10_guess 53 = .ok (.aload_n 0, 1) := by decide +kernel
theorem dX10_guess_54 : decode cX10_guess 54 = .ok (.getfield 173, 3) := by decide +kernel
theorem dX10_guess_57 : decode cX10_guess 57 = .ok (.iload_n 2, 1) := by decide +kernel
theorem dX10_guess_58 : decode cX10_guess 58 = .ok (.iastore, 1) := by decide +kernel
theorem dX10_guess_59 : decode cX10_guess 59 = .ok (.aload_n 0, 1) := by decide +kernel
theorem dX10_guess_60 : decode cX10_guess 60 = .ok (.getfield 37, 3) := by decide +kernel
theorem dX10_guess_63 : decode cX10_guess 63 = .ok (.aload_n 0, 1) := by decide +kernel
theorem dX10_guess_64 : decode cX10_guess 64 = .ok (.getfield 173, 3) := by decide +kernel
theorem dX10_guess_67 : decode cX10_guess 67 = .ok (.iload_n 3, 1) := by decide +kernel
theorem dX10_guess_68 : decode cX10_guess 68 = .ok (.ifCond .eq 7, 3) := by decide +kernel
theorem dX10_guess_71 : decode cX10_guess 71 = .ok (.iconst 1, 1) := by decide +kernel
theorem dX10_guess_72 : decode cX10_guess 72 = .ok (.goto 4, 3) := by decide +kernel
theorem dX10_guess_75 : decode cX10_guess 75 = .ok (.iconst 0, 1) := by decide +kernel
theorem dX10_guess_76 : decode cX10_guess 76 = .ok (.iastore, 1) := by decide +kernel
theorem dX10_guess_77 : decode cX10_guess 77 = .ok (.aload_n 0, 1) := by decide +kernel
theorem dX10_guess_78 : decode cX10_guess 78 = .ok (.dup, 1) := by decide +kernel
theorem dX10_guess_79 : decode cX10_guess 79 = .ok (.getfield 173, 3) := by decide +kernel
theorem dX10_guess_82 : decode cX10_guess 82 = .ok (.iconst 1, 1) := by decide +kernel
theorem dX10_guess_83 : decode cX10_guess 83 = .ok (.iadd, 1) := by decide +kernel
theorem dX10_guess_84 : decode cX10_guess 84 = .ok (.putfield 173, 3) := by decide +kernel
theorem dX10_guess_87 : decode cX10_guess 87 = .ok (.aload_n 0, 1) := by decide +kernel
theorem dX10_guess_88 : decode cX10_guess 88 = .ok (.getfield 173, 3) := by decide +kernel
theorem dX10_guess_91 : decode cX10_guess 91 = .ok (.ireturn, 1) := by decide +kernel
theorem dX10_kindIn_0 : decode cX10_kindIn 0 = .ok (.iload_n 2, 1) := by decide +kernel
theorem dX10_kindIn_1 : decode cX10_kindIn 1 = .ok (.aload_n 0, 1) := by decide +kernel
theorem dX10_kindIn_2 : decode cX10_kindIn 2 = .ok (.getfield 16, 3) := by decide +kernel
theorem dX10_kindIn_5 : decode cX10_kindIn 5 = .ok (.iload_n 1, 1) := by decide +kernel
theorem dX10_kindIn_6 : decode cX10_kindIn 6 = .ok (.iaload, 1) := by decide +kernel
theorem dX10_kindIn_7 : decode cX10_kindIn 7 = .ok (.if_icmp .ge 17, 3) := by decide +kernel
theorem dX10_kindIn_10 : decode cX10_kindIn 10 = .ok (.aload_n 0, 1) := by decide +kernel
theorem dX10_kindIn_11 : decode cX10_kindIn 11 = .ok (.getfield 19, 3) := by decide +kernel
theorem dX10_kindIn_14 : decode cX10_kindIn 14 = .ok (.bipush 8, 2) := by decide +kernel
theorem dX10_kindIn_16 : decode cX10_kindIn 16 = .ok (.iload_n 1, 1) := by decide +kernel
theorem dX10_kindIn_17 : decode cX10_kindIn 17 = .ok (.imul, 1) := by decide +kernel
theorem dX10_kindIn_18 : decode cX10_kindIn 18 = .ok (.iload_n 2, 1) := by decide +kernel
theorem dX10_kindIn_19 : decode cX10_kindIn 19 = .ok (.iadd, 1) := by decide +kernel
theorem dX10_kindIn_20 : decode cX10_kindIn 20 = .ok (.iaload, 1) := by decide +kernel
theorem dX10_kindIn_21 : decode cX10_kindIn 21 = .ok (.goto 4, 3) := by decide +kernel
theorem dX10_kindIn_24 : decode cX10_kindIn 24 = .ok (.iconst (-1), 1) := by decide +kernel
theorem dX10_kindIn_25 : decode cX10_kindIn 25 = .ok (.ireturn, 1) := by decide +kernel
theorem dX10_couldBeOne_0 : decode cX10_couldBeOne 0 = .ok (.iconst 1, 1) := by decide +kernel
theorem dX10_couldBeOne_1 : decode cX10_couldBeOne 1 = .ok (.istore_n 2, 1) := by decide +kernel
theorem dX10_couldBeOne_2 : decode cX10_couldBeOne 2 = .ok (.iconst 0, 1) := by decide +kernel
theorem dX10_couldBeOne_3 : decode cX10_couldBeOne 3 = .ok (.istore_n 3, 1) := by decide +kernel
theorem dX10_couldBeOne_4 : decode cX10_couldBeOne 4 = .ok (.iload_n 3, 1) := by decide +kernel
theorem dX10_couldBeOne_5 : decode cX10_couldBeOne 5 = .ok (.aload_n 0, 1) := by decide +kernel
theorem dX10_couldBeOne_6 : decode cX10_couldBeOne 6 = .ok (.getfield 173, 3) := by decide +kernel
theorem dX10_couldBeOne_9 : decode cX10_couldBeOne 9 = .ok (.if_icmp .ge 62, 3) := by decide +kernel
theorem dX10_couldBeOne_12 : decode cX10_couldBeOne 12 = .ok (.iload_n 2, 1) := by decide +kernel
theorem dX10_couldBeOne_13 : decode cX10_couldBeOne 13 = .ok (.ifCond .eq 50, 3) := by decide +kernel
theorem dX10_couldBeOne_16 : decode cX10_couldBeOne 16 = .ok (.aload_n 0, 1) := by decide +kernel
theorem dX10_couldBeOne_17 : decode cX10_couldBeOne 17 = .ok (.iload_n 1, 1) := by decide +kernel
theorem dX10_couldBeOne_18 : decode cX10_couldBeOne 18 = .ok (.aload_n 0, 1) := by decide +kernel
theorem dX10_couldBeOne_19 : decode cX10_couldBeOne 19 = .ok (.getfield 31, 3) := by decide +kernel
theorem dX10_couldBeOne_22 : decode cX10_couldBeOne 22 = .ok (.iload_n 3, 1) := by decide +kernel
theorem dX10_couldBeOne_23 : decode cX10_couldBeOne 23 = .ok (.iaload, 1) := by decide +kernel
theorem dX10_couldBeOne_24 : decode cX10_couldBeOne 24 = .ok (.invokevirtual 301, 3) := by decide +kernel
theorem dX10_couldBeOne_27 : decode cX10_couldBeOne 27 = .ok (.aload_n 0, 1) := by decide +kernel
theorem dX10_couldBeOne_28 : decode cX10_couldBeOne 28 = .ok (.getfield 34, 3) := by decide +kernel
theorem dX10_couldBeOne_31 : decode cX10_couldBeOne 31 = .ok (.iload_n 3, 1) := by decide +kernel
theorem dX10_couldBeOne_32 : decode cX10_couldBeOne 32 = .ok (.iaload, 1) := by decide +kernel
theorem dX10_couldBeOne_33 : decode cX10_couldBeOne 33 = .ok (.if_icmp .ne 7, 3) := by decide +kernel
theorem dX10_couldBeOne_36 : decode cX10_couldBeOne 36 = .ok (.iconst 1, 1) := by decide +kernel
theorem dX10_couldBeOne_37 : decode cX10_couldBeOne 37 = .ok (.goto 4, 3) := by decide +kernel
theorem dX10_couldBeOne_40 : decode cX10_couldBeOne 40 = .ok (.iconst 0, 1) := by decide +kernel
theorem dX10_couldBeOne_41 : decode cX10_couldBeOne 41 = .ok (.aload_n 0, 1) := by decide +kernel
theorem dX10_couldBeOne_42 : decode cX10_couldBeOne 42 = .ok (.getfield 37, 3) := by decide +kernel
theorem dX10_couldBeOne_45 : decode cX10_couldBeOne 45 = .ok (.iload_n 3, 1) := by decide +kernel
theorem dX10_couldBeOne_46 : decode cX10_couldBeOne 46 = .ok (.iaload, 1) := by decide +kernel
theorem dX10_couldBeOne_47 : decode cX10_couldBeOne 47 = .ok (.iconst 1, 1) := by decide +kernel
theorem dX10_couldBeOne_48 : decode cX10_couldBeOne 48 = .ok (.if_icmp .ne 7, 3) := by decide +kernel
theorem dX10_couldBeOne_51 : decode cX10_couldBeOne 51 = .ok (.iconst 1, 1) := by decide +kernel
theorem dX10_couldBeOne_52 : decode cX10_couldBeOne 52 = .ok (.goto 4, 3) := by decide +kernel
theorem dX10_couldBeOne_55 : decode cX10_couldBeOne 55 = .ok (.iconst 0, 1) := by decide +kernel
theorem dX10_couldBeOne_56 : decode cX10_couldBeOne 56 = .ok (.if_icmp .ne 7, 3) := by decide +kernel
theorem dX10_couldBeOne_59 : decode cX10_couldBeOne 59 = .ok (.iconst 1, 1) := by decide +kernel
theorem dX10_couldBeOne_60 : decode cX10_couldBeOne 60 = .ok (.goto 4, 3) := by decide +kernel
theorem dX10_couldBeOne_63 : decode cX10_couldBeOne 63 = .ok (.iconst 0, 1) := by decide +kernel
theorem dX10_couldBeOne_64 : decode cX10_couldBeOne 64 = .ok (.istore_n 2, 1) := by decide +kernel
theorem dX10_couldBeOne_65 : decode cX10_couldBeOne 65 = .ok (.iinc 3 1, 3) := by decide +kernel
theorem dX10_couldBeOne_68 : decode cX10_couldBeOne 68 = .ok (.goto (-64), 3) := by decide +kernel
theorem dX10_couldBeOne_71 : decode cX10_couldBeOne 71 = .ok (.iload_n 2, 1) := by decide +kernel
theorem dX10_couldBeOne_72 : decode cX10_couldBeOne 72 = .ok (.ireturn, 1) := by decide +kernel
theorem dX10_couldBe_0 : decode cX10_couldBe 0 = .ok (.iconst 0, 1) := by decide +kernel
theorem dX10_couldBe_1 : decode cX10_couldBe 1 = .ok (.istore_n 1, 1) := by decide +kernel
theorem dX10_couldBe_2 : decode cX10_couldBe 2 = .ok (.iconst 0, 1) := by decide +kernel
theorem dX10_couldBe_3 : decode cX10_couldBe 3 = .ok (.istore_n 2, 1) := by decide +kernel
theorem dX10_couldBe_4 : decode cX10_couldBe 4 = .ok (.iload_n 2, 1) := by decide +kernel
theorem dX10_couldBe_5 : decode cX10_couldBe 5 = .ok (.aload_n 0, 1) := by decide +kernel
theorem dX10_couldBe_6 : decode cX10_couldBe 6 = .ok (.getfield 164, 3) := by decide +kernel
theorem dX10_couldBe_9 : decode cX10_couldBe 9 = .ok (.if_icmp .ge 27, 3) := by decide +kernel
theorem dX10_couldBe_12 : decode cX10_couldBe 12 = .ok (.iload_n 1, 1) := by decide +kernel
theorem dX10_couldBe_13 : decode cX10_couldBe 13 = .ok (.aload_n 0, 1) := by decide +kernel
theorem dX10_couldBe_14 : decode cX10_couldBe 14 = .ok (.iload_n 2, 1) := by decide +kernel
theorem dX10_couldBe_15 : decode cX10_couldBe 15 = .ok (.invokevirtual 304, 3) := by decide +kernel
theorem dX10_couldBe_18 : decode cX10_couldBe 18 = .ok (.ifCond .eq 9, 3) := by decide +kernel
theorem dX10_couldBe_21 : decode cX10_couldBe 21 = .ok (.iconst 1, 1) := by decide +kernel
theorem dX10_couldBe_22 : decode cX10_couldBe 22 = .ok (.iload_n 2, 1) := by decide +kernel
theorem dX10_couldBe_23 : decode cX10_couldBe 23 = .ok (.ishl, 1) := by decide +kernel
theorem dX10_couldBe_24 : decode cX10_couldBe 24 = .ok (.goto 4, 3) := by decide +kernel
theorem dX10_couldBe_27 : decode cX10_couldBe 27 = .ok (.iconst 0, 1) := by decide +kernel
theorem dX10_couldBe_28 : decode cX10_couldBe 28 = .ok (.ior, 1) := by decide +kernel
theorem dX10_couldBe_29 : decode cX10_couldBe 29 = .ok (.istore_n 1, 1) := by decide +kernel
theorem dX10_couldBe_30 : decode cX10_couldBe 30 = .ok (.iinc 2 1, 3) := by decide +kernel
theorem dX10_couldBe_33 : decode cX10_couldBe 33 = .ok (.goto (-29), 3) := by decide +kernel
theorem dX10_couldBe_36 : decode cX10_couldBe 36 = .ok (.iload_n 1, 1) := by decide +kernel
theorem dX10_couldBe_37 : decode cX10_couldBe 37 = .ok (.ireturn, 1) := by decide +kernel
theorem dX10_ask_0 : decode cX10_ask 0 = .ok (.aload_n 0, 1) := by decide +kernel
theorem dX10_ask_1 : decode cX10_ask 1 = .ok (.invokevirtual 307, 3) := by decide +kernel
theorem dX10_ask_4 : decode cX10_ask 4 = .ok (.istore_n 1, 1) := by decide +kernel
theorem dX10_ask_5 : decode cX10_ask 5 = .ok (.iconst (-1), 1) := by decide +kernel
theorem dX10_ask_6 : decode cX10_ask 6 = .ok (.istore_n 2, 1) := by decide +kernel
theorem dX10_ask_7 : decode cX10_ask 7 = .ok (.iconst 0, 1) := by decide +kernel
theorem dX10_ask_8 : decode cX10_ask 8 = .ok (.istore_n 3, 1) := by decide +kernel
theorem dX10_ask_9 : decode cX10_ask 9 = .ok (.iconst 0, 1) := by decide +kernel
theorem dX10_ask_10 : decode cX10_ask 10 = .ok (.istore 4, 2) := by decide +kernel
theorem dX10_ask_12 : decode cX10_ask 12 = .ok (.iload 4, 2) := by decide +kernel
theorem dX10_ask_14 : decode cX10_ask 14 = .ok (.aload_n 0, 1) := by decide +kernel
theorem dX10_ask_15 : decode cX10_ask 15 = .ok (.getfield 164, 3) := by decide +kernel
theorem dX10_ask_18 : decode cX10_ask 18 = .ok (.if_icmp .ge 18, 3) := by decide +kernel
theorem dX10_ask_21 : decode cX10_ask 21 = .ok (.iload_n 3, 1) := by decide +kernel
theorem dX10_ask_22 : decode cX10_ask 22 = .ok (.iload_n 1, 1) := by decide +kernel
theorem dX10_ask_23 : decode cX10_ask 23 = .ok (.iload 4, 2) := by decide +kernel
theorem dX10_ask_25 : decode cX10_ask 25 = .ok (.ishr, 1) := by decide +kernel
theorem dX10_ask_26 : decode cX10_ask 26 = .ok (.iconst 1, 1) := by decide +kernel
theorem dX10_ask_27 : decode cX10_ask 27 = .ok (.iand, 1) := by decide +kernel
theorem dX10_ask_28 : decode cX10_ask 28 = .ok (.iadd, 1) := by decide +kernel
theorem dX10_ask_29 : decode cX10_ask 29 = .ok (.istore_n 3, 1) := by decide +kernel
theorem dX10_ask_30 : decode cX10_ask 30 = .ok (.iinc 4 1, 3) := by decide +kernel
theorem dX10_ask_33 : decode cX10_ask 33 = .ok (.goto (-21), 3) := by decide +kernel
theorem dX10_ask_36 : decode cX10_ask 36 = .ok (.iconst 0, 1) := by decide +kernel
theorem dX10_ask_37 : decode cX10_ask 37 = .ok (.istore 4, 2) := by decide +kernel
theorem dX10_ask_39 : decode cX10_ask 39 = .ok (.iload 4, 2) := by decide +kernel
theorem dX10_ask_41 : decode cX10_ask 41 = .ok (.bipush 8, 2) := by decide +kernel
theorem dX10_ask_43 : decode cX10_ask 43 = .ok (.if_icmp .ge 140, 3) := by decide +kernel
theorem dX10_ask_46 : decode cX10_ask 46 = .ok (.iconst 0, 1) := by decide +kernel
theorem dX10_ask_47 : decode cX10_ask 47 = .ok (.istore 5, 2) := by decide +kernel
theorem dX10_ask_49 : decode cX10_ask 49 = .ok (.iconst 0, 1) := by decide +kernel
theorem dX10_ask_50 : decode cX10_ask 50 = .ok (.istore 6, 2) := by decide +kernel
theorem dX10_ask_52 : decode cX10_ask 52 = .ok (.iload 6, 2) := by decide +kernel
theorem dX10_ask_54 : decode cX10_ask 54 = .ok (.aload_n 0, 1) := by decide +kernel
theorem dX10_ask_55 : decode cX10_ask 55 = .ok (.getfield 164, 3) := by decide +kernel
theorem dX10_ask_58 : decode cX10_ask 58 = .ok (.if_icmp .ge 93, 3) := by decide +kernel
theorem dX10_ask_61 : decode cX10_ask 61 = .ok (.iconst 0, 1) := by decide +kernel
theorem dX10_ask_62 : decode cX10_ask 62 = .ok (.istore 7, 2) := by decide +kernel
theorem dX10_ask_64 : decode cX10_ask 64 = .ok (.iconst 0, 1) := by decide +kernel
theorem dX10_ask_65 : decode cX10_ask 65 = .ok (.istore 8, 2) := by decide +kernel
theorem dX10_ask_67 : decode cX10_ask 67 = .ok (.iload 8, 2) := by decide +kernel
theorem dX10_ask_69 : decode cX10_ask 69 = .ok (.aload_n 0, 1) := by decide +kernel
theorem dX10_ask_70 : decode cX10_ask 70 = .ok (.getfield 164, 3) := by decide +kernel
theorem dX10_ask_73 : decode cX10_ask 73 = .ok (.if_icmp .ge 56, 3) := by decide +kernel
theorem dX10_ask_76 : decode cX10_ask 76 = .ok (.iload 7, 2) := by decide +kernel
theorem dX10_ask_78 : decode cX10_ask 78 = .ok (.iload_n 1, 1) := by decide +kernel
theorem dX10_ask_79 : decode cX10_ask 79 = .ok (.iload 6, 2) := by decide +kernel
theorem dX10_ask_81 : decode cX10_ask 81 = .ok (.invokestatic 310, 3) := by decide +kernel
theorem dX10_ask_84 : decode cX10_ask 84 = .ok (.ifCond .eq 35, 3) := by decide +kernel
theorem dX10_ask_87 : decode cX10_ask 87 = .ok (.iload_n 1, 1) := by decide +kernel
theorem dX10_ask_88 : decode cX10_ask 88 = .ok (.iload 8, 2) := by decide +kernel
theorem dX10_ask_90 : decode cX10_ask 90 = .ok (.invokestatic 310, 3) := by decide +kernel
theorem dX10_ask_93 : decode cX10_ask 93 = .ok (.ifCond .eq 26, 3) := by decide +kernel
theorem dX10_ask_96 : decode cX10_ask 96 = .ok (.aload_n 0, 1) := by decide +kernel
theorem dX10_ask_97 : decode cX10_ask 97 = .ok (.iload 6, 2) := by decide +kernel
theorem dX10_ask_99 : decode cX10_ask 99 = .ok (.iload 4, 2) := by decide +kernel
theorem dX10_ask_101 : decode cX10_ask 101 = .ok (.invokevirtual 301, 3) := by decide +kernel
theorem dX10_ask_104 : decode cX10_ask 104 = .ok (.aload_n 0, 1) := by decide +kernel
theorem dX10_ask_105 : decode cX10_ask 105 = .ok (.iload 8, 2) := by decide +kernel
theorem dX10_ask_107 : decode cX10_ask 107 = .ok (.iload 4, 2) := by decide +kernel
theorem dX10_ask_109 : decode cX10_ask 109 = .ok (.invokevirtual 301, 3) := by decide +kernel
theorem dX10_ask_112 : decode cX10_ask 112 = .ok (.if_icmp .ne 7, 3) := by decide +kernel
theorem dX10_ask_115 : decode cX10_ask 115 = .ok (.iconst 1, 1) := by decide +kernel
theorem dX10_ask_116 : decode cX10_ask 116 = .ok (.goto 4, 3) := by decide +kernel
theorem dX10_ask_119 : decode cX10_ask 119 = .ok (.iconst 0, 1) := by decide +kernel
theorem dX10_ask_120 : decode cX10_ask 120 = .ok (.iadd, 1) := by decide +kernel
theorem dX10_ask_121 : decode cX10_ask 121 = .ok (.istore 7, 2) := by decide +kernel
theorem dX10_ask_123 : decode cX10_ask 123 = .ok (.iinc 8 1, 3) := by decide +kernel
theorem dX10_ask_126 : decode cX10_ask 126 = .ok (.goto (-59), 3) := by decide +kernel
theorem dX10_ask_129 : decode cX10_ask 129 = .ok (.iload 7, 2) := by decide +kernel
theorem dX10_ask_131 : decode cX10_ask 131 = .ok (.iload 5, 2) := by decide +kernel
theorem dX10_ask_133 : decode cX10_ask 133 = .ok (.if_icmp .le 8, 3) := by decide +kernel
theorem dX10_ask_136 : decode cX10_ask 136 = .ok (.iload 7, 2) := by decide +kernel
theorem dX10_ask_138 : decode cX10_ask 138 = .ok (.goto 5, 3) := by decide +kernel
theorem dX10_ask_141 : decode cX10_ask 141 = .ok (.iload 5, 2) := by decide +kernel
theorem dX10_ask_143 : decode cX10_ask 143 = .ok (.istore 5, 2) := by decide +kernel
theorem dX10_ask_145 : decode cX10_ask 145 = .ok (.iinc 6 1, 3) := by decide +kernel
theorem dX10_ask_148 : decode cX10_ask 148 = .ok (.goto (-96), 3) := by decide +kernel
theorem dX10_ask_151 : decode cX10_ask 151 = .ok (.iload 5, 2) := by decide +kernel
theorem dX10_ask_153 : decode cX10_ask 153 = .ok (.iload_n 3, 1) := by decide +kernel
theorem dX10_ask_154 : decode cX10_ask 154 = .ok (.if_icmp .ge 8, 3) := by decide +kernel
theorem dX10_ask_157 : decode cX10_ask 157 = .ok (.iload 4, 2) := by decide +kernel
theorem dX10_ask_159 : decode cX10_ask 159 = .ok (.goto 4, 3) := by decide +kernel
theorem dX10_ask_162 : decode cX10_ask 162 = .ok (.iload_n 2, 1) := by decide +kernel
theorem dX10_ask_163 : decode cX10_ask 163 = .ok (.istore_n 2, 1) := by decide +kernel
theorem dX10_ask_164 : decode cX10_ask 164 = .ok (.iload 5, 2) := by decide +kernel
theorem dX10_ask_166 : decode cX10_ask 166 = .ok (.iload_n 3, 1) := by decide +kernel
theorem dX10_ask_167 : decode cX10_ask 167 = .ok (.if_icmp .ge 8, 3) := by decide +kernel
theorem dX10_ask_170 : decode cX10_ask 170 = .ok (.iload 5, 2) := by decide +kernel
theorem dX10_ask_172 : decode cX10_ask 172 = .ok (.goto 4, 3) := by decide +kernel
theorem dX10_ask_175 : decode cX10_ask 175 = .ok (.iload_n 3, 1) := by decide +kernel
theorem dX10_ask_176 : decode cX10_ask 176 = .ok (.istore_n 3, 1) := by decide +kernel
theorem dX10_ask_177 : decode cX10_ask 177 = .ok (.iinc 4 1, 3) := by decide +kernel
theorem dX10_ask_180 : decode cX10_ask 180 = .ok (.goto (-141), 3) := by decide +kernel
theorem dX10_ask_183 : decode cX10_ask 183 = .ok (.iload_n 2, 1) := by decide +kernel
theorem dX10_ask_184 : decode cX10_ask 184 = .ok (.ireturn, 1) := by decide +kernel
theorem dX10_write_0 : decode cX10_write 0 = .ok (.aload_n 0, 1) := by decide +kernel
theorem dX10_write_1 : decode cX10_write 1 = .ok (.iload_n 1, 1) := by decide +kernel
theorem dX10_write_2 : decode cX10_write 2 = .ok (.invokevirtual 230, 3) := by decide +kernel
theorem dX10_write_5 : decode cX10_write 5 = .ok (.ifCond .ne 6, 3) := by decide +kernel
theorem dX10_write_8 : decode cX10_write 8 = .ok (.ldc 223, 2) := by decide +kernel
theorem dX10_write_10 : decode cX10_write 10 = .ok (.ireturn, 1) := by decide +kernel
theorem dX10_write_11 : decode cX10_write 11 = .ok (.iload_n 2, 1) := by decide +kernel
theorem dX10_write_12 : decode cX10_write 12 = .ok (.i2l, 1) := by decide +kernel
theorem dX10_write_13 : decode cX10_write 13 = .ok (.lconst 0, 1) := by decide +kernel
theorem dX10_write_14 : decode cX10_write 14 = .ok (.ldc2_w 313, 3) := by decide +kernel
theorem dX10_write_17 : decode cX10_write 17 = .ok (.invokestatic 87, 3) := by decide +kernel
theorem dX10_write_20 : decode cX10_write 20 = .ok (.ifCond .ne 6, 3) := by decide +kernel
theorem dX10_write_23 : decode cX10_write 23 = .ok (.ldc 96, 2) := by decide +kernel
theorem dX10_write_25 : decode cX10_write 25 = .ok (.ireturn, 1) := by decide +kernel
theorem dX10_write_26 : decode cX10_write 26 = .ok (.aload_n 0, 1) := by decide +kernel
theorem dX10_write_27 : decode cX10_write 27 = .ok (.getfield 176, 3) := by decide +kernel
theorem dX10_write_30 : decode cX10_write 30 = .ok (.bipush 20, 2) := by decide +kernel
theorem dX10_write_32 : decode cX10_write 32 = .ok (.if_icmp .ne 6, 3) := by decide +kernel
theorem dX10_write_35 : decode cX10_write 35 = .ok (.ldc 100, 2) := by decide +kernel
theorem dX10_write_37 : decode cX10_write 37 = .ok (.ireturn, 1) := by decide +kernel
theorem dX10_write_38 : decode cX10_write 38 = .ok (.aload_n 0, 1) := by decide +kernel
theorem dX10_write_39 : decode cX10_write 39 = .ok (.getfield 25, 3) := by decide +kernel
theorem dX10_write_42 : decode cX10_write 42 = .ok (.aload_n 0, 1) := by decide +kernel
theorem dX10_write_43 : decode cX10_write 43 = .ok (.getfield 176, 3) := by decide +kernel
theorem dX10_write_46 : decode cX10_write 46 = .ok (.iload_n 1, 1) := by decide +kernel
theorem dX10_write_47 : decode cX10_write 47 = .ok (.iastore, 1) := by decide +kernel
theorem dX10_write_48 : decode cX10_write 48 = .ok (.aload_n 0, 1) := by decide +kernel
theorem dX10_write_49 : decode cX10_write 49 = .ok (.getfield 28, 3) := by decide +kernel
theorem dX10_write_52 : decode cX10_write 52 = .ok (.aload_n 0, 1) := by decide +kernel
theorem dX10_write_53 : decode cX10_write 53 = .ok (.getfield 176, 3) := by decide +kernel
theorem dX10_write_56 : decode cX10_write 56 = .ok (.iload_n 2, 1) := by decide +kernel
theorem dX10_write_57 : decode cX10_write 57 = .ok (.iastore, 1) := by decide +kernel
theorem dX10_write_58 : decode cX10_write 58 = .ok (.aload_n 0, 1) := by decide +kernel
theorem dX10_write_59 : decode cX10_write 59 = .ok (.dup, 1) := by decide +kernel
theorem dX10_write_60 : decode cX10_write 60 = .ok (.getfield 176, 3) := by decide +kernel
theorem dX10_write_63 : decode cX10_write 63 = .ok (.iconst 1, 1) := by decide +kernel
theorem dX10_write_64 : decode cX10_write 64 = .ok (.iadd, 1) := by decide +kernel
theorem dX10_write_65 : decode cX10_write 65 = .ok (.putfield 176, 3) := by decide +kernel
theorem dX10_write_68 : decode cX10_write 68 = .ok (.aload_n 0, 1) := by decide +kernel
theorem dX10_write_69 : decode cX10_write 69 = .ok (.getfield 176, 3) := by decide +kernel
theorem dX10_write_72 : decode cX10_write 72 = .ok (.ireturn, 1) := by decide +kernel
theorem dX10_judge_0 : decode cX10_judge 0 = .ok (.iconst 0, 1) := by decide +kernel
theorem dX10_judge_1 : decode cX10_judge 1 = .ok (.istore_n 1, 1) := by decide +kernel
theorem dX10_judge_2 : decode cX10_judge 2 = .ok (.iload_n 1, 1) := by decide +kernel
theorem dX10_judge_3 : decode cX10_judge 3 = .ok (.aload_n 0, 1) := by decide +kernel
theorem dX10_judge_4 : decode cX10_judge 4 = .ok (.getfield 176, 3) := by decide +kernel
theorem dX10_judge_7 : decode cX10_judge 7 = .ok (.if_icmp .ge 34, 3) := by decide +kernel
theorem dX10_judge_10 : decode cX10_judge 10 = .ok (.aload_n 0, 1) := by decide +kernel
theorem dX10_judge_11 : decode cX10_judge 11 = .ok (.getfield 22, 3) := by decide +kernel
theorem dX10_judge_14 : decode cX10_judge 14 = .ok (.bipush 29, 2) := by decide +kernel
theorem dX10_judge_16 : decode cX10_judge 16 = .ok (.aload_n 0, 1) := by decide +kernel
theorem dX10_judge_17 : decode cX10_judge 17 = .ok (.getfield 25, 3) := by decide +kernel
theorem dX10_judge_20 : decode cX10_judge 20 = .ok (.iload_n 1, 1) := by decide +kernel
theorem dX10_judge_21 : decode cX10_judge 21 = .ok (.iaload, 1) := by decide +kernel
theorem dX10_judge_22 : decode cX10_judge 22 = .ok (.iadd, 1) := by decide +kernel
theorem dX10_judge_23 : decode cX10_judge 23 = .ok (.iaload, 1) := by decide +kernel
theorem dX10_judge_24 : decode cX10_judge 24 = .ok (.aload_n 0, 1) := by decide +kernel
theorem dX10_judge_25 : decode cX10_judge 25 = .ok (.getfield 28, 3) := by decide +kernel
theorem dX10_judge_28 : decode cX10_judge 28 = .ok (.iload_n 1, 1) := by decide +kernel
theorem dX10_judge_29 : decode cX10_judge 29 = .ok (.iaload, 1) := by decide +kernel
theorem dX10_judge_30 : decode cX10_judge 30 = .ok (.if_icmp .eq 5, 3) := by decide +kernel
theorem dX10_judge_33 : decode cX10_judge 33 = .ok (.iload_n 1, 1) := by decide +kernel
theorem dX10_judge_34 : decode cX10_judge 34 = .ok (.ireturn, 1) := by decide +kernel
theorem dX10_judge_35 : decode cX10_judge 35 = .ok (.iinc 1 1, 3) := by decide +kernel
theorem dX10_judge_38 : decode cX10_judge 38 = .ok (.goto (-36), 3) := by decide +kernel
theorem dX10_judge_41 : decode cX10_judge 41 = .ok (.iconst (-1), 1) := by decide +kernel
theorem dX10_judge_42 : decode cX10_judge 42 = .ok (.ireturn, 1) := by decide +kernel
theorem dX10_tear_0 : decode cX10_tear 0 = .ok (.aload_n 0, 1) := by decide +kernel
theorem dX10_tear_1 : decode cX10_tear 1 = .ok (.getfield 173, 3) := by decide +kernel
theorem dX10_tear_4 : decode cX10_tear 4 = .ok (.aload_n 0, 1) := by decide +kernel
theorem dX10_tear_5 : decode cX10_tear 5 = .ok (.getfield 176, 3) := by decide +kernel
theorem dX10_tear_8 : decode cX10_tear 8 = .ok (.iadd, 1) := by decide +kernel
theorem dX10_tear_9 : decode cX10_tear 9 = .ok (.istore_n 1, 1) := by decide +kernel
theorem dX10_tear_10 : decode cX10_tear 10 = .ok (.aload_n 0, 1) := by decide +kernel
theorem dX10_tear_11 : decode cX10_tear 11 = .ok (.iconst 0, 1) := by decide +kernel
theorem dX10_tear_12 : decode cX10_tear 12 = .ok (.putfield 173, 3) := by decide +kernel
theorem dX10_tear_15 : decode cX10_tear 15 = .ok (.aload_n 0, 1) := by decide +kernel
theorem dX10_tear_16 : decode cX10_tear 16 = .ok (.iconst 0, 1) := by decide +kernel
theorem dX10_tear_17 : decode cX10_tear 17 = .ok (.putfield 176, 3) := by decide +kernel
theorem dX10_tear_20 : decode cX10_tear 20 = .ok (.iload_n 1, 1) := by decide +kernel
theorem dX10_tear_21 : decode cX10_tear 21 = .ok (.ireturn, 1) := by decide +kernel
theorem dX10_seed_0 : decode cX10_seed 0 = .ok (.iload_n 1, 1) := by decide +kernel
theorem dX10_seed_1 : decode cX10_seed 1 = .ok (.ifCond .ge 6, 3) := by decide +kernel
theorem dX10_seed_4 : decode cX10_seed 4 = .ok (.ldc 96, 2) := by decide +kernel
theorem dX10_seed_6 : decode cX10_seed 6 = .ok (.ireturn, 1) := by decide +kernel
theorem dX10_seed_7 : decode cX10_seed 7 = .ok (.aload_n 0, 1) := by decide +kernel
theorem dX10_seed_8 : decode cX10_seed 8 = .ok (.getfield 266, 3) := by decide +kernel
theorem dX10_seed_11 : decode cX10_seed 11 = .ok (.istore_n 2, 1) := by decide +kernel
theorem dX10_seed_12 : decode cX10_seed 12 = .ok (.aload_n 0, 1) := by decide +kernel
theorem dX10_seed_13 : decode cX10_seed 13 = .ok (.iload_n 1, 1) := by decide +kernel
theorem dX10_seed_14 : decode cX10_seed 14 = .ok (.putfield 266, 3) := by decide +kernel
theorem dX10_seed_17 : decode cX10_seed 17 = .ok (.iload_n 2, 1) := by decide +kernel
theorem dX10_seed_18 : decode cX10_seed 18 = .ok (.ireturn, 1) := by decide +kernel
theorem dX10_keep_0 : decode cX10_keep 0 = .ok (.iload_n 1, 1) := by decide +kernel
theorem dX10_keep_1 : decode cX10_keep 1 = .ok (.i2l, 1) := by decide +kernel
theorem dX10_keep_2 : decode cX10_keep 2 = .ok (.lconst 0, 1) := by decide +kernel
theorem dX10_keep_3 : decode cX10_keep 3 = .ok (.lconst 1, 1) := by decide +kernel
theorem dX10_keep_4 : decode cX10_keep 4 = .ok (.invokestatic 87, 3) := by decide +kernel
theorem dX10_keep_7 : decode cX10_keep 7 = .ok (.ifCond .ne 6, 3) := by decide +kernel
theorem dX10_keep_10 : decode cX10_keep 10 = .ok (.ldc 223, 2) := by decide +kernel
theorem dX10_keep_12 : decode cX10_keep 12 = .ok (.ireturn, 1) := by decide +kernel
theorem dX10_keep_13 : decode cX10_keep 13 = .ok (.iconst 0, 1) := by decide +kernel
theorem dX10_keep_14 : decode cX10_keep 14 = .ok (.istore_n 2, 1) := by decide +kernel
theorem dX10_keep_15 : decode cX10_keep 15 = .ok (.iload_n 2, 1) := by decide +kernel
theorem dX10_keep_16 : decode cX10_keep 16 = .ok (.bipush 125, 2) := by decide +kernel
theorem dX10_keep_18 : decode cX10_keep 18 = .ok (.if_icmp .ge 26, 3) := by decide +kernel
theorem dX10_keep_21 : decode cX10_keep 21 = .ok (.aload_n 0, 1) := by decide +kernel
theorem dX10_keep_22 : decode cX10_keep 22 = .ok (.getfield 77, 3) := by decide +kernel
theorem dX10_keep_25 : decode cX10_keep 25 = .ok (.bipush 126, 2) := by decide +kernel
theorem dX10_keep_27 : decode cX10_keep 27 = .ok (.iload_n 1, 1) := by decide +kernel
theorem dX10_keep_28 : decode cX10_keep 28 = .ok (.imul, 1) := by decide +kernel
theorem dX10_keep_29 : decode cX10_keep 29 = .ok (.iload_n 2, 1) := by decide +kernel
theorem dX10_keep_30 : decode cX10_keep 30 = .ok (.iadd, 1) := by decide +kernel
theorem dX10_keep_31 : decode cX10_keep 31 = .ok (.aload_n 0, 1) := by decide +kernel
theorem dX10_keep_32 : decode cX10_keep 32 = .ok (.getfield 22, 3) := by decide +kernel
theorem dX10_keep_35 : decode cX10_keep 35 = .ok (.iload_n 2, 1) := by decide +kernel
theorem dX10_keep_36 : decode cX10_keep 36 = .ok (.iaload, 1) := by decide +kernel
theorem dX10_keep_37 : decode cX10_keep 37 = .ok (.iastore, 1) := by decide +kernel
theorem dX10_keep_38 : decode cX10_keep 38 = .ok (.iinc 2 1, 3) := by decide +kernel
theorem dX10_keep_41 : decode cX10_keep 41 = .ok (.goto (-26), 3) := by decide +kernel
theorem dX10_keep_44 : decode cX10_keep 44 = .ok (.aload_n 0, 1) := by decide +kernel
theorem dX10_keep_45 : decode cX10_keep 45 = .ok (.getfield 77, 3) := by decide +kernel
theorem dX10_keep_48 : decode cX10_keep 48 = .ok (.bipush 126, 2) := by decide +kernel
theorem dX10_keep_50 : decode cX10_keep 50 = .ok (.iload_n 1, 1) := by decide +kernel
theorem dX10_keep_51 : decode cX10_keep 51 = .ok (.imul, 1) := by decide +kernel
theorem dX10_keep_52 : decode cX10_keep 52 = .ok (.bipush 125, 2) := by decide +kernel
theorem dX10_keep_54 : decode cX10_keep 54 = .ok (.iadd, 1) := by decide +kernel
theorem dX10_keep_55 : decode cX10_keep 55 = .ok (.aload_n 0, 1) := by decide +kernel
theorem dX10_keep_56 : decode cX10_keep 56 = .ok (.getfield 266, 3) := by decide +kernel
theorem dX10_keep_59 : decode cX10_keep 59 = .ok (.iastore, 1) := by decide +kernel
theorem dX10_keep_60 : decode cX10_keep 60 = .ok (.aload_n 0, 1) := by decide +kernel
theorem dX10_keep_61 : decode cX10_keep 61 = .ok (.getfield 80, 3) := by decide +kernel
theorem dX10_keep_64 : decode cX10_keep 64 = .ok (.iload_n 1, 1) := by decide +kernel
theorem dX10_keep_65 : decode cX10_keep 65 = .ok (.iconst 1, 1) := by decide +kernel
theorem dX10_keep_66 : decode cX10_keep 66 = .ok (.bastore, 1) := by decide +kernel
theorem dX10_keep_67 : decode cX10_keep 67 = .ok (.aload_n 0, 1) := by decide +kernel
theorem dX10_keep_68 : decode cX10_keep 68 = .ok (.iconst 0, 1) := by decide +kernel
theorem dX10_keep_69 : decode cX10_keep 69 = .ok (.putfield 179, 3) := by decide +kernel
theorem dX10_keep_72 : decode cX10_keep 72 = .ok (.iconst 1, 1) := by decide +kernel
theorem dX10_keep_73 : decode cX10_keep 73 = .ok (.ireturn, 1) := by decide +kernel
theorem dX10_goBack_0 : decode cX10_goBack 0 = .ok (.iload_n 1, 1) := by decide +kernel
theorem dX10_goBack_1 : decode cX10_goBack 1 = .ok (.i2l, 1) := by decide +kernel
theorem dX10_goBack_2 : decode cX10_goBack 2 = .ok (.lconst 0, 1) := by decide +kernel
theorem dX10_goBack_3 : decode cX10_goBack 3 = .ok (.lconst 1, 1) := by decide +kernel
theorem dX10_goBack_4 : decode cX10_goBack 4 = .ok (.invokestatic 87, 3) := by decide +kernel
theorem dX10_goBack_7 : decode cX10_goBack 7 = .ok (.ifCond .ne 6, 3) := by decide +kernel
theorem dX10_goBack_10 : decode cX10_goBack 10 = .ok (.ldc 223, 2) := by decide +kernel
theorem dX10_goBack_12 : decode cX10_goBack 12 = .ok (.ireturn, 1) := by decide +kernel
theorem dX10_goBack_13 : decode cX10_goBack 13 = .ok (.aload_n 0, 1) := by decide +kernel
theorem dX10_goBack_14 : decode cX10_goBack 14 = .ok (.getfield 80, 3) := by decide +kernel
theorem dX10_goBack_17 : decode cX10_goBack 17 = .ok (.iload_n 1, 1) := by decide +kernel
theorem dX10_goBack_18 : decode cX10_goBack 18 = .ok (.baload, 1) := by decide +kernel
theorem dX10_goBack_19 : decode cX10_goBack 19 = .ok (.ifCond .ne 6, 3) := by decide +kernel
theorem dX10_goBack_22 : decode cX10_goBack 22 = .ok (.ldc 248, 2) := by decide +kernel
theorem dX10_goBack_24 : decode cX10_goBack 24 = .ok (.ireturn, 1) := by decide +kernel
theorem dX10_goBack_25 : decode cX10_goBack 25 = .ok (.iconst 0, 1) := by decide +kernel
theorem dX10_goBack_26 : decode cX10_goBack 26 = .ok (.istore_n 2, 1) := by decide +kernel
theorem dX10_goBack_27 : decode cX10_goBack 27 = .ok (.iload_n 2, 1) := by decide +kernel
theorem dX10_goBack_28 : decode cX10_goBack 28 = .ok (.bipush 125, 2) := by decide +kernel
theorem dX10_goBack_30 : decode cX10_goBack 30 = .ok (.if_icmp .ge 26, 3) := by decide +kernel
theorem dX10_goBack_33 : decode cX10_goBack 33 = .ok (.aload_n 0, 1) := by decide +kernel
theorem dX10_goBack_34 : decode cX10_goBack 34 = .ok (.getfield 22, 3) := by decide +kernel
theorem dX10_goBack_37 : decode cX10_goBack 37 = .ok (.iload_n 2, 1) := by decide +kernel
theorem dX10_goBack_38 : decode cX10_goBack 38 = .ok (.aload_n 0, 1) := by decide +kernel
theorem dX10_goBack_39 : decode cX10_goBack 39 = .ok (.getfield 77, 3) := by decide +kernel
theorem dX10_goBack_42 : decode cX10_goBack 42 = .ok (.bipush 126, 2) := by decide +kernel
theorem dX10_goBack_44 : decode cX10_goBack 44 = .ok (.iload_n 1, 1) := by decide +kernel
theorem dX10_goBack_45 : decode cX10_goBack 45 = .ok (.imul, 1) := by decide +kernel
theorem dX10_goBack_46 : decode cX10_goBack 46 = .ok (.iload_n 2, 1) := by decide +kernel
theorem dX10_goBack_47 : decode cX10_goBack 47 = .ok (.iadd, 1) := by decide +kernel
theorem dX10_goBack_48 : decode cX10_goBack 48 = .ok (.iaload, 1) := by decide +kernel
theorem dX10_goBack_49 : decode cX10_goBack 49 = .ok (.iastore, 1) := by decide +kernel
theorem dX10_goBack_50 : decode cX10_goBack 50 = .ok (.iinc 2 1, 3) := by decide +kernel
theorem dX10_goBack_53 : decode cX10_goBack 53 = .ok (.goto (-26), 3) := by decide +kernel
theorem dX10_goBack_56 : decode cX10_goBack 56 = .ok (.aload_n 0, 1) := by decide +kernel
theorem dX10_goBack_57 : decode cX10_goBack 57 = .ok (.aload_n 0, 1) := by decide +kernel
theorem dX10_goBack_58 : decode cX10_goBack 58 = .ok (.getfield 77, 3) := by decide +kernel
theorem dX10_goBack_61 : decode cX10_goBack 61 = .ok (.bipush 126, 2) := by decide +kernel
theorem dX10_goBack_63 : decode cX10_goBack 63 = .ok (.iload_n 1, 1) := by decide +kernel
theorem dX10_goBack_64 : decode cX10_goBack 64 = .ok (.imul, 1) := by decide +kernel
theorem dX10_goBack_65 : decode cX10_goBack 65 = .ok (.bipush 125, 2) := by decide +kernel
theorem dX10_goBack_67 : decode cX10_goBack 67 = .ok (.iadd, 1) := by decide +kernel
theorem dX10_goBack_68 : decode cX10_goBack 68 = .ok (.iaload, 1) := by decide +kernel
theorem dX10_goBack_69 : decode cX10_goBack 69 = .ok (.putfield 266, 3) := by decide +kernel
theorem dX10_goBack_72 : decode cX10_goBack 72 = .ok (.aload_n 0, 1) := by decide +kernel
theorem dX10_goBack_73 : decode cX10_goBack 73 = .ok (.iconst 0, 1) := by decide +kernel
theorem dX10_goBack_74 : decode cX10_goBack 74 = .ok (.putfield 179, 3) := by decide +kernel
theorem dX10_goBack_77 : decode cX10_goBack 77 = .ok (.iconst 1, 1) := by decide +kernel
theorem dX10_goBack_78 : decode cX10_goBack 78 = .ok (.ireturn, 1) := by decide +kernel
end
section
theorem dL_law_0 : decode cL_law 0 = .ok (.new 7, 3) := by decide +kernel
theorem dL_law_3 : decode cL_law 3 = .ok (.dup, 1) := by decide +kernel
theorem dL_law_4 : decode cL_law 4 = .ok (.invokespecial 9, 3) := by decide +kernel
theorem dL_law_7 : decode cL_law 7 = .ok (.astore_n 1, 1) := by decide +kernel
theorem dL_law_8 : decode cL_law 8 = .ok (.new 10, 3) := by decide +kernel
theorem dL_law_11 : decode cL_law 11 = .ok (.dup, 1) := by decide +kernel
theorem dL_law_12 : decode cL_law 12 = .ok (.invokespecial 12, 3) := by decide +kernel
theorem dL_law_15 : decode cL_law 15 = .ok (.astore_n 2, 1) := by decide +kernel
theorem dL_law_16 : decode cL_law 16 = .ok (.iconst 0, 1) := by decide +kernel
theorem dL_law_17 : decode cL_law 17 = .ok (.istore_n 3, 1) := by decide +kernel
theorem dL_law_18 : decode cL_law 18 = .ok (.iload_n 3, 1) := by decide +kernel
theorem dL_law_19 : decode cL_law 19 = .ok (.aload_n 0, 1) := by decide +kernel
theorem dL_law_20 : decode cL_law 20 = .ok (.arraylength, 1) := by decide +kernel
theorem dL_law_21 : decode cL_law 21 = .ok (.iconst 4, 1) := by decide +kernel
theorem dL_law_22 : decode cL_law 22 = .ok (.isub, 1) := by decide +kernel
theorem dL_law_23 : decode cL_law 23 = .ok (.if_icmp .gt 957, 3) := by decide +kernel
theorem dL_law_26 : decode cL_law 26 = .ok (.aload_n 0, 1) := by decide +kernel
theorem dL_law_27 : decode cL_law 27 = .ok (.iload_n 3, 1) := by decide +kernel
theorem dL_law_28 : decode cL_law 28 = .ok (.iaload, 1) := by decide +kernel
theorem dL_law_29 : decode cL_law 29 = .ok (.bipush 31, 2) := by decide +kernel
theorem dL_law_31 : decode cL_law 31 = .ok (.iand, 1) := by decide +kernel
theorem dL_law_32 : decode cL_law 32 = .ok (.tableswitch 942 0 31 #[144, 167, 180, 193, 216, 249, 282, 315, 348, 371, 410, 423, 446, 469, 492, 525, 558, 581, 604, 627, 650, 673, 696, 729, 788, 801, 814, 847, 860, 873, 896, 919], 144) := by decide +kernel
theorem dL_law_176 : decode cL_law 176 = .ok (.aload_n 1, 1) := by decide +kernel
theorem dL_law_177 : decode cL_law 177 = .ok (.aload_n 0, 1) := by decide +kernel
theorem dL_law_178 : decode cL_law 178 = .ok (.iload_n 3, 1) := by decide +kernel
theorem dL_law_179 : decode cL_law 179 = .ok (.iconst 1, 1) := by decide +kernel
theorem dL_law_180 : decode cL_law 180 = .ok (.iadd, 1) := by decide +kernel
theorem dL_law_181 : decode cL_law 181 = .ok (.iaload, 1) := by decide +kernel
theorem dL_law_182 : decode cL_law 182 = .ok (.invokevirtual 13, 3) := by decide +kernel
theorem dL_law_185 : decode cL_law 185 = .ok (.aload_n 2, 1) := by decide +kernel
theorem dL_law_186 : decode cL_law 186 = .ok (.aload_n 0, 1) := by decide +kernel
theorem dL_law_187 : decode cL_law 187 = .ok (.iload_n 3, 1) := by decide +kernel
theorem dL_law_188 : decode cL_law 188 = .ok (.iconst 1, 1) := by decide +kernel
theorem dL_law_189 : decode cL_law 189 = .ok (.iadd, 1) := by decide +kernel
theorem dL_law_190 : decode cL_law 190 = .ok (.iaload, 1) := by decide +kernel
theorem dL_law_191 : decode cL_law 191 = .ok (.invokevirtual 17, 3) := by decide +kernel
theorem dL_law_194 : decode cL_law 194 = .ok (.if_icmp .eq 780, 3) := by decide +kernel
theorem dL_law_197 : decode cL_law 197 = .ok (.iconst 0, 1) := by decide +kernel
theorem dL_law_198 : decode cL_law 198 = .ok (.ireturn, 1) := by decide +kernel
theorem dL_law_199 : decode cL_law 199 = .ok (.aload_n 1, 1) := by decide +kernel
theorem dL_law_200 : decode cL_law 200 = .ok (.invokevirtual 18, 3) := by decide +kernel
theorem dL_law_203 : decode cL_law 203 = .ok (.aload_n 2, 1) := by decide +kernel
theorem dL_law_204 : decode cL_law 204 = .ok (.invokevirtual 22, 3) := by decide +kernel
theorem dL_law_207 : decode cL_law 207 = .ok (.if_icmp .eq 767, 3) := by decide +kernel
theorem dL_law_210 : decode cL_law 210 = .ok (.iconst 0, 1) := by decide +kernel
theorem dL_law_211 : decode cL_law 211 = .ok (.ireturn, 1) := by decide +kernel
theorem dL_law_212 : decode cL_law 212 = .ok (.aload_n 1, 1) := by decide +kernel
theorem dL_law_213 : decode cL_law 213 = .ok (.invokevirtual 23, 3) := by decide +kernel
theorem dL_law_216 : decode cL_law 216 = .ok (.aload_n 2, 1) := by decide +kernel
theorem dL_law_217 : decode cL_law 217 = .ok (.invokevirtual 26, 3) := by decide +kernel
theorem dL_law_220 : decode cL_law 220 = .ok (.if_icmp .eq 754, 3) := by decide +kernel
theorem dL_law_223 : decode cL_law 223 = .ok (.iconst 0, 1) := by decide +kernel
theorem dL_law_224 : decode cL_law 224 = .ok (.ireturn, 1) := by decide +kernel
theorem dL_law_225 : decode cL_law 225 = .ok (.aload_n 1, 1) := by decide +kernel
theorem dL_law_226 : decode cL_law 226 = .ok (.aload_n 0, 1) := by decide +kernel
theorem dL_law_227 : decode cL_law 227 = .ok (.iload_n 3, 1) := by decide +kernel
theorem dL_law_228 : decode cL_law 228 = .ok (.iconst 1, 1) := by decide +kernel
theorem dL_law_229 : decode cL_law 229 = .ok (.iadd, 1) := by decide +kernel
theorem dL_law_230 : decode cL_law 230 = .ok (.iaload, 1) := by decide +kernel
theorem dL_law_231 : decode cL_law 231 = .ok (.invokevirtual 27, 3) := by decide +kernel
theorem dL_law_234 : decode cL_law 234 = .ok (.aload_n 2, 1) := by decide +kernel
theorem dL_law_235 : decode cL_law 235 = .ok (.aload_n 0, 1) := by decide +kernel
theorem dL_law_236 : decode cL_law 236 = .ok (.iload_n 3, 1) := by decide +kernel
theorem dL_law_237 : decode cL_law 237 = .ok (.iconst 1, 1) := by decide +kernel
theorem dL_law_238 : decode cL_law 238 = .ok (.iadd, 1) := by decide +kernel
theorem dL_law_239 : decode cL_law 239 = .ok (.iaload, 1) := by decide +kernel
theorem dL_law_240 : decode cL_law 240 = .ok (.invokevirtual 30, 3) := by decide +kernel
theorem dL_law_243 : decode cL_law 243 = .ok (.if_icmp .eq 731, 3) := by decide +kernel
theorem dL_law_246 : decode cL_law 246 = .ok (.iconst 0, 1) := by decide +kernel
theorem dL_law_247 : decode cL_law 247 = .ok (.ireturn, 1) := by decide +kernel
theorem dL_law_248 : decode cL_law 248 = .ok (.aload_n 1, 1) := by decide +kernel
theorem dL_law_249 : decode cL_law 249 = .ok (.aload_n 0, 1) := by decide +kernel
theorem dL_law_250 : decode cL_law 250 = .ok (.iload_n 3, 1) := by decide +kernel
theorem dL_law_251 : decode cL_law 251 = .ok (.iconst 1, 1) := by decide +kernel
theorem dL_law_252 : decode cL_law 252 = .ok (.iadd, 1) := by decide +kernel
theorem dL_law_253 : decode cL_law 253 = .ok (.iaload, 1) := by decide +kernel
theorem dL_law_254 : decode cL_law 254 = .ok (.aload_n 0, 1) := by decide +kernel
theorem dL_law_255 : decode cL_law 255 = .ok (.iload_n 3, 1) := by decide +kernel
theorem dL_law_256 : decode cL_law 256 = .ok (.iconst 2, 1) := by decide +kernel
theorem dL_law_257 : decode cL_law 257 = .ok (.iadd, 1) := by decide +kernel
theorem dL_law_258 : decode cL_law 258 = .ok (.iaload, 1) := by decide +kernel
theorem dL_law_259 : decode cL_law 259 = .ok (.invokevirtual 31, 3) := by decide +kernel
theorem dL_law_262 : decode cL_law 262 = .ok (.aload_n 2, 1) := by decide +kernel
theorem dL_law_263 : decode cL_law 263 = .ok (.aload_n 0, 1) := by decide +kernel
theorem dL_law_264 : decode cL_law 264 = .ok (.iload_n 3, 1) := by decide +kernel
theorem dL_law_265 : decode cL_law 265 = .ok (.iconst 1, 1) := by decide +kernel
theorem dL_law_266 : decode cL_law 266 = .ok (.iadd, 1) := by decide +kernel
theorem dL_law_267 : decode cL_law 267 = .ok (.iaload, 1) := by decide +kernel
theorem dL_law_268 : decode cL_law 268 = .ok (.aload_n 0, 1) := by decide +kernel
theorem dL_law_269 : decode cL_law 269 = .ok (.iload_n 3, 1) := by decide +kernel
theorem dL_law_270 : decode cL_law 270 = .ok (.iconst 2, 1) := by decide +kernel
theorem dL_law_271 : decode cL_law 271 = .ok (.iadd, 1) := by decide +kernel
theorem dL_law_272 : decode cL_law 272 = .ok (.iaload, 1) := by decide +kernel
theorem dL_law_273 : decode cL_law 273 = .ok (.invokevirtual 35, 3) := by decide +kernel
theorem dL_law_276 : decode cL_law 276 = .ok (.if_icmp .eq 698, 3) := by decide +kernel
theorem dL_law_279 : decode cL_law 279 = .ok (.iconst 0, 1) := by decide +kernel
theorem dL_law_280 : decode cL_law 280 = .ok (.ireturn, 1) := by decide +kernel
theorem dL_law_281 : decode cL_law 281 = .ok (.aload_n 1, 1) := by decide +kernel
theorem dL_law_282 : decode cL_law 282 = .ok (.aload_n 0, 1) := by decide +kernel
theorem dL_law_283 : decode cL_law 283 = .ok (.iload_n 3, 1) := by decide +kernel
theorem dL_law_284 : decode cL_law 284 = .ok (.iconst 1, 1) := by decide +kernel
theorem dL_law_285 : decode cL_law 285 = .ok (.iadd, 1) := by decide +kernel
theorem dL_law_286 : decode cL_law 286 = .ok (.iaload, 1) := by decide +kernel
theorem dL_law_287 : decode cL_law 287 = .ok (.aload_n 0, 1) := by decide +kernel
theorem dL_law_288 : decode cL_law 288 = .ok (.iload_n 3, 1) := by decide +kernel
theorem dL_law_289 : decode cL_law 289 = .ok (.iconst 2, 1) := by decide +kernel
theorem dL_law_290 : decode cL_law 290 = .ok (.iadd, 1) := by decide +kernel
theorem dL_law_291 : decode cL_law 291 = .ok (.iaload, 1) := by decide +kernel
theorem dL_law_292 : decode cL_law 292 = .ok (.invokevirtual 36, 3) := by decide +kernel
theorem dL_law_295 : decode cL_law 295 = .ok (.aload_n 2, 1) := by decide +kernel
theorem dL_law_296 : decode cL_law 296 = .ok (.aload_n 0, 1) := by decide +kernel
theorem dL_law_297 : decode cL_law 297 = .ok (.iload_n 3, 1) := by decide +kernel
theorem dL_law_298 : decode cL_law 298 = .ok (.iconst 1, 1) := by decide +kernel
theorem dL_law_299 : decode cL_law 299 = .ok (.iadd, 1) := by decide +kernel
theorem dL_law_300 : decode cL_law 300 = .ok (.iaload, 1) := by decide +kernel
theorem dL_law_301 : decode cL_law 301 = .ok (.aload_n 0, 1) := by decide +kernel
theorem dL_law_302 : decode cL_law 302 = .ok (.iload_n 3, 1) := by decide +kernel
theorem dL_law_303 : decode cL_law 303 = .ok (.iconst 2, 1) := by decide +kernel
theorem dL_law_304 : decode cL_law 304 = .ok (.iadd, 1) := by decide +kernel
theorem dL_law_305 : decode cL_law 305 = .ok (.iaload, 1) := by decide +kernel
theorem dL_law_306 : decode cL_law 306 = .ok (.invokevirtual 39, 3) := by decide +kernel
theorem dL_law_309 : decode cL_law 309 = .ok (.if_icmp .eq 665, 3) := by decide +kernel
theorem dL_law_312 : decode cL_law 312 = .ok (.iconst 0, 1) := by decide +kernel
theorem dL_law_313 : decode cL_law 313 = .ok (.ireturn, 1) := by decide +kernel
theorem dL_law_314 : decode cL_law 314 = .ok (.aload_n 1, 1) := by decide +kernel
theorem dL_law_315 : decode cL_law 315 = .ok (.aload_n 0, 1) := by decide +kernel
theorem dL_law_316 : decode cL_law 316 = .ok (.iload_n 3, 1) := by decide +kernel
theorem dL_law_317 : decode cL_law 317 = .ok (.iconst 1, 1) := by decide +kernel
theorem dL_law_318 : decode cL_law 318 = .ok (.iadd, 1) := by decide +kernel
theorem dL_law_319 : decode cL_law 319 = .ok (.iaload, 1) := by decide +kernel
theorem dL_law_320 : decode cL_law 320 = .ok (.aload_n 0, 1) := by decide +kernel
theorem dL_law_321 : decode cL_law 321 = .ok (.iload_n 3, 1) := by decide +kernel
theorem dL_law_322 : decode cL_law 322 = .ok (.iconst 2, 1) := by decide +kernel
theorem dL_law_323 : decode cL_law 323 = .ok (.iadd, 1) := by decide +kernel
theorem dL_law_324 : decode cL_law 324 = .ok (.iaload, 1) := by decide +kernel
theorem dL_law_325 : decode cL_law 325 = .ok (.invokevirtual 40, 3) := by decide +kernel
theorem dL_law_328 : decode cL_law 328 = .ok (.aload_n 2, 1) := by decide +kernel
theorem dL_law_329 : decode cL_law 329 = .ok (.aload_n 0, 1) := by decide +kernel
theorem dL_law_330 : decode cL_law 330 = .ok (.iload_n 3, 1) := by decide +kernel
theorem dL_law_331 : decode cL_law 331 = .ok (.iconst 1, 1) := by decide +kernel
theorem dL_law_332 : decode cL_law 332 = .ok (.iadd, 1) := by decide +kernel
theorem dL_law_333 : decode cL_law 333 = .ok (.iaload, 1) := by decide +kernel
theorem dL_law_334 : decode cL_law 334 = .ok (.aload_n 0, 1) := by decide +kernel
theorem dL_law_335 : decode cL_law 335 = .ok (.iload_n 3, 1) := by decide +kernel
theorem dL_law_336 : decode cL_law 336 = .ok (.iconst 2, 1) := by decide +kernel
theorem dL_law_337 : decode cL_law 337 = .ok (.iadd, 1) := by decide +kernel
theorem dL_law_338 : decode cL_law 338 = .ok (.iaload, 1) := by decide +kernel
theorem dL_law_339 : decode cL_law 339 = .ok (.invokevirtual 43, 3) := by decide +kernel
theorem dL_law_342 : decode cL_law 342 = .ok (.if_icmp .eq 632, 3) := by decide +kernel
theorem dL_law_345 : decode cL_law 345 = .ok (.iconst 0, 1) := by decide +kernel
theorem dL_law_346 : decode cL_law 346 = .ok (.ireturn, 1) := by decide +kernel
theorem dL_law_347 : decode cL_law 347 = .ok (.aload_n 1, 1) := by decide +kernel
theorem dL_law_348 : decode cL_law 348 = .ok (.aload_n 0, 1) := by decide +kernel
theorem dL_law_349 : decode cL_law 349 = .ok (.iload_n 3, 1) := by decide +kernel
theorem dL_law_350 : decode cL_law 350 = .ok (.iconst 1, 1) := by decide +kernel
theorem dL_law_351 : decode cL_law 351 = .ok (.iadd, 1) := by decide +kernel
theorem dL_law_352 : decode cL_law 352 = .ok (.iaload, 1) := by decide +kernel
theorem dL_law_353 : decode cL_law 353 = .ok (.aload_n 0, 1) := by decide +kernel
theorem dL_law_354 : decode cL_law 354 = .ok (.iload_n 3, 1) := by decide +kernel
theorem dL_law_355 : decode cL_law 355 = .ok (.iconst 2, 1) := by decide +kernel
theorem dL_law_356 : decode cL_law 356 = .ok (.iadd, 1) := by decide +kernel
theorem dL_law_357 : decode cL_law 357 = .ok (.iaload, 1) := by decide +kernel
theorem dL_law_358 : decode cL_law 358 = .ok (.invokevirtual 44, 3) := by decide +kernel
theorem dL_law_361 : decode cL_law 361 = .ok (.aload_n 2, 1) := by decide +kernel
theorem dL_law_362 : decode cL_law 362 = .ok (.aload_n 0, 1) := by decide +kernel
theorem dL_law_363 : decode cL_law 363 = .ok (.iload_n 3, 1) := by decide +kernel
theorem dL_law_364 : decode cL_law 364 = .ok (.iconst 1, 1) := by decide +kernel
theorem dL_law_365 : decode cL_law 365 = .ok (.iadd, 1) := by decide +kernel
theorem dL_law_366 : decode cL_law 366 = .ok (.iaload, 1) := by decide +kernel
theorem dL_law_367 : decode cL_law 367 = .ok (.aload_n 0, 1) := by decide +kernel
theorem dL_law_368 : decode cL_law 368 = .ok (.iload_n 3, 1) := by decide +kernel
theorem dL_law_369 : decode cL_law 369 = .ok (.iconst 2, 1) := by decide +kernel
theorem dL_law_370 : decode cL_law 370 = .ok (.iadd, 1) := by decide +kernel
theorem dL_law_371 : decode cL_law 371 = .ok (.iaload, 1) := by decide +kernel
theorem dL_law_372 : decode cL_law 372 = .ok (.invokevirtual 47, 3) := by decide +kernel
theorem dL_law_375 : decode cL_law 375 = .ok (.if_icmp .eq 599, 3) := by decide +kernel
theorem dL_law_378 : decode cL_law 378 = .ok (.iconst 0, 1) := by decide +kernel
theorem dL_law_379 : decode cL_law 379 = .ok (.ireturn, 1) := by decide +kernel
theorem dL_law_380 : decode cL_law 380 = .ok (.aload_n 1, 1) := by decide +kernel
theorem dL_law_381 : decode cL_law 381 = .ok (.aload_n 0, 1) := by decide +kernel
theorem dL_law_382 : decode cL_law 382 = .ok (.iload_n 3, 1) := by decide +kernel
theorem dL_law_383 : decode cL_law 383 = .ok (.iconst 1, 1) := by decide +kernel
theorem dL_law_384 : decode cL_law 384 = .ok (.iadd, 1) := by decide +kernel
theorem dL_law_385 : decode cL_law 385 = .ok (.iaload, 1) := by decide +kernel
theorem dL_law_386 : decode cL_law 386 = .ok (.invokevirtual 48, 3) := by decide +kernel
theorem dL_law_389 : decode cL_law 389 = .ok (.aload_n 2, 1) := by decide +kernel
theorem dL_law_390 : decode cL_law 390 = .ok (.aload_n 0, 1) := by decide +kernel
theorem dL_law_391 : decode cL_law 391 = .ok (.iload_n 3, 1) := by decide +kernel
theorem dL_law_392 : decode cL_law 392 = .ok (.iconst 1, 1) := by decide +kernel
theorem dL_law_393 : decode cL_law 393 = .ok (.iadd, 1) := by decide +kernel
theorem dL_law_394 : decode cL_law 394 = .ok (.iaload, 1) := by decide +kernel
theorem dL_law_395 : decode cL_law 395 = .ok (.invokevirtual 51, 3) := by decide +kernel
theorem dL_law_398 : decode cL_law 398 = .ok (.if_icmp .eq 576, 3) := by decide +kernel
theorem dL_law_401 : decode cL_law 401 = .ok (.iconst 0, 1) := by decide +kernel
theorem dL_law_402 : decode cL_law 402 = .ok (.ireturn, 1) := by decide +kernel
theorem dL_law_403 : decode cL_law 403 = .ok (.aload_n 1, 1) := by decide +kernel
theorem dL_law_404 : decode cL_law 404 = .ok (.aload_n 0, 1) := by decide +kernel
theorem dL_law_405 : decode cL_law 405 = .ok (.iload_n 3, 1) := by decide +kernel
theorem dL_law_406 : decode cL_law 406 = .ok (.iconst 1, 1) := by decide +kernel
theorem dL_law_407 : decode cL_law 407 = .ok (.iadd, 1) := by decide +kernel
theorem dL_law_408 : decode cL_law 408 = .ok (.iaload, 1) := by decide +kernel
theorem dL_law_409 : decode cL_law 409 = .ok (.ifCond .eq 7, 3) := by decide +kernel
theorem dL_law_412 : decode cL_law 412 = .ok (.iconst 1, 1) := by decide +kernel
theorem dL_law_413 : decode cL_law 413 = .ok (.goto 4, 3) := by decide +kernel
theorem dL_law_416 : decode cL_law 416 = .ok (.iconst 0, 1) := by decide +kernel
theorem dL_law_417 : decode cL_law 417 = .ok (.invokevirtual 52, 3) := by decide +kernel
theorem dL_law_420 : decode cL_law 420 = .ok (.aload_n 2, 1) := by decide +kernel
theorem dL_law_421 : decode cL_law 421 = .ok (.aload_n 0, 1) := by decide +kernel
theorem dL_law_422 : decode cL_law 422 = .ok (.iload_n 3, 1) := by decide +kernel
theorem dL_law_423 : decode cL_law 423 = .ok (.iconst 1, 1) := by decide +kernel
theorem dL_law_424 : decode cL_law 424 = .ok (.iadd, 1) := by decide +kernel
theorem dL_law_425 : decode cL_law 425 = .ok (.iaload, 1) := by decide +kernel
theorem dL_law_426 : decode cL_law 426 = .ok (.ifCond .eq 7, 3) := by decide +kernel
theorem dL_law_429 : decode cL_law 429 = .ok (.iconst 1, 1) := by decide +kernel
theorem dL_law_430 : decode cL_law 430 = .ok (.goto 4, 3) := by decide +kernel
theorem dL_law_433 : decode cL_law 433 = .ok (.iconst 0, 1) := by decide +kernel
theorem dL_law_434 : decode cL_law 434 = .ok (.invokevirtual 56, 3) := by decide +kernel
theorem dL_law_437 : decode cL_law 437 = .ok (.if_icmp .eq 537, 3) := by decide +kernel
theorem dL_law_440 : decode cL_law 440 = .ok (.iconst 0, 1) := by decide +kernel
theorem dL_law_441 : decode cL_law 441 = .ok (.ireturn, 1) := by decide +kernel
theorem dL_law_442 : decode cL_law 442 = .ok (.aload_n 1, 1) := by decide +kernel
theorem dL_law_443 : decode cL_law 443 = .ok (.invokevirtual 57, 3) := by decide +kernel
theorem dL_law_446 : decode cL_law 446 = .ok (.aload_n 2, 1) := by decide +kernel
theorem dL_law_447 : decode cL_law 447 = .ok (.invokevirtual 60, 3) := by decide +kernel
theorem dL_law_450 : decode cL_law 450 = .ok (.if_icmp .eq 524, 3) := by decide +kernel
theorem dL_law_453 : decode cL_law 453 = .ok (.iconst 0, 1) := by decide +kernel
theorem dL_law_454 : decode cL_law 454 = .ok (.ireturn, 1) := by decide +kernel
theorem dL_law_455 : decode cL_law 455 = .ok (.aload_n 1, 1) := by decide +kernel
theorem dL_law_456 : decode cL_law 456 = .ok (.aload_n 0, 1) := by decide +kernel
theorem dL_law_457 : decode cL_law 457 = .ok (.iload_n 3, 1) := by decide +kernel
theorem dL_law_458 : decode cL_law 458 = .ok (.iconst 1, 1) := by decide +kernel
theorem dL_law_459 : decode cL_law 459 = .ok (.iadd, 1) := by decide +kernel
theorem dL_law_460 : decode cL_law 460 = .ok (.iaload, 1) := by decide +kernel
theorem dL_law_461 : decode cL_law 461 = .ok (.invokevirtual 61, 3) := by decide +kernel
theorem dL_law_464 : decode cL_law 464 = .ok (.aload_n 2, 1) := by decide +kernel
theorem dL_law_465 : decode cL_law 465 = .ok (.aload_n 0, 1) := by decide +kernel
theorem dL_law_466 : decode cL_law 466 = .ok (.iload_n 3, 1) := by decide +kernel
theorem dL_law_467 : decode cL_law 467 = .ok (.iconst 1, 1) := by decide +kernel
theorem dL_law_468 : decode cL_law 468 = .ok (.iadd, 1) := by decide +kernel
theorem dL_law_469 : decode cL_law 469 = .ok (.iaload, 1) := by decide +kernel
theorem dL_law_470 : decode cL_law 470 = .ok (.invokevirtual 64, 3) := by decide +kernel
theorem dL_law_473 : decode cL_law 473 = .ok (.if_icmp .eq 501, 3) := by decide +kernel
theorem dL_law_476 : decode cL_law 476 = .ok (.iconst 0, 1) := by decide +kernel
theorem dL_law_477 : decode cL_law 477 = .ok (.ireturn, 1) := by decide +kernel
theorem dL_law_478 : decode cL_law 478 = .ok (.aload_n 1, 1) := by decide +kernel
theorem dL_law_479 : decode cL_law 479 = .ok (.aload_n 0, 1) := by decide +kernel
theorem dL_law_480 : decode cL_law 480 = .ok (.iload_n 3, 1) := by decide +kernel
theorem dL_law_481 : decode cL_law 481 = .ok (.iconst 1, 1) := by decide +kernel
theorem dL_law_482 : decode cL_law 482 = .ok (.iadd, 1) := by decide +kernel
theorem dL_law_483 : decode cL_law 483 = .ok (.iaload, 1) := by decide +kernel
theorem dL_law_484 : decode cL_law 484 = .ok (.invokevirtual 65, 3) := by decide +kernel
theorem dL_law_487 : decode cL_law 487 = .ok (.aload_n 2, 1) := by decide +kernel
theorem dL_law_488 : decode cL_law 488 = .ok (.aload_n 0, 1) := by decide +kernel
theorem dL_law_489 : decode cL_law 489 = .ok (.iload_n 3, 1) := by decide +kernel
theorem dL_law_490 : decode cL_law 490 = .ok (.iconst 1, 1) := by decide +kernel
theorem dL_law_491 : decode cL_law 491 = .ok (.iadd, 1) := by decide +kernel
theorem dL_law_492 : decode cL_law 492 = .ok (.iaload, 1) := by decide +kernel
theorem dL_law_493 : decode cL_law 493 = .ok (.invokevirtual 68, 3) := by decide +kernel
theorem dL_law_496 : decode cL_law 496 = .ok (.if_icmp .eq 478, 3) := by decide +kernel
theorem dL_law_499 : decode cL_law 499 = .ok (.iconst 0, 1) := by decide +kernel
theorem dL_law_500 : decode cL_law 500 = .ok (.ireturn, 1) := by decide +kernel
theorem dL_law_501 : decode cL_law 501 = .ok (.aload_n 1, 1) := by decide +kernel
theorem dL_law_502 : decode cL_law 502 = .ok (.aload_n 0, 1) := by decide +kernel
theorem dL_law_503 : decode cL_law 503 = .ok (.iload_n 3, 1) := by decide +kernel
theorem dL_law_504 : decode cL_law 504 = .ok (.iconst 1, 1) := by decide +kernel
theorem dL_law_505 : decode cL_law 505 = .ok (.iadd, 1) := by decide +kernel
theorem dL_law_506 : decode cL_law 506 = .ok (.iaload, 1) := by decide +kernel
theorem dL_law_507 : decode cL_law 507 = .ok (.invokevirtual 69, 3) := by decide +kernel
theorem dL_law_510 : decode cL_law 510 = .ok (.aload_n 2, 1) := by decide +kernel
theorem dL_law_511 : decode cL_law 511 = .ok (.aload_n 0, 1) := by decide +kernel
theorem dL_law_512 : decode cL_law 512 = .ok (.iload_n 3, 1) := by decide +kernel
theorem dL_law_513 : decode cL_law 513 = .ok (.iconst 1, 1) := by decide +kernel
theorem dL_law_514 : decode cL_law 514 = .ok (.iadd, 1) := by decide +kernel
theorem dL_law_515 : decode cL_law 515 = .ok (.iaload, 1) := by decide +kernel
theorem dL_law_516 : decode cL_law 516 = .ok (.invokevirtual 72, 3) := by decide +kernel
theorem dL_law_519 : decode cL_law 519 = .ok (.if_icmp .eq 455, 3) := by decide +kernel
theorem dL_law_522 : decode cL_law 522 = .ok (.iconst 0, 1) := by decide +kernel
theorem dL_law_523 : decode cL_law 523 = .ok (.ireturn, 1) := by decide +kernel
theorem dL_law_524 : decode cL_law 524 = .ok (.aload_n 1, 1) := by decide +kernel
theorem dL_law_525 : decode cL_law 525 = .ok (.aload_n 0, 1) := by decide +kernel
theorem dL_law_526 : decode cL_law 526 = .ok (.iload_n 3, 1) := by decide +kernel
theorem dL_law_527 : decode cL_law 527 = .ok (.iconst 1, 1) := by decide +kernel
theorem dL_law_528 : decode cL_law 528 = .ok (.iadd, 1) := by decide +kernel
theorem dL_law_529 : decode cL_law 529 = .ok (.iaload, 1) := by decide +kernel
theorem dL_law_530 : decode cL_law 530 = .ok (.aload_n 0, 1) := by decide +kernel
theorem dL_law_531 : decode cL_law 531 = .ok (.iload_n 3, 1) := by decide +kernel
theorem dL_law_532 : decode cL_law 532 = .ok (.iconst 2, 1) := by decide +kernel
theorem dL_law_533 : decode cL_law 533 = .ok (.iadd, 1) := by decide +kernel
theorem dL_law_534 : decode cL_law 534 = .ok (.iaload, 1) := by decide +kernel
theorem dL_law_535 : decode cL_law 535 = .ok (.invokevirtual 73, 3) := by decide +kernel
theorem dL_law_538 : decode cL_law 538 = .ok (.aload_n 2, 1) := by decide +kernel
theorem dL_law_539 : decode cL_law 539 = .ok (.aload_n 0, 1) := by decide +kernel
theorem dL_law_540 : decode cL_law 540 = .ok (.iload_n 3, 1) := by decide +kernel
theorem dL_law_541 : decode cL_law 541 = .ok (.iconst 1, 1) := by decide +kernel
theorem dL_law_542 : decode cL_law 542 = .ok (.iadd, 1) := by decide +kernel
theorem dL_law_543 : decode cL_law 543 = .ok (.iaload, 1) := by decide +kernel
theorem dL_law_544 : decode cL_law 544 = .ok (.aload_n 0, 1) := by decide +kernel
theorem dL_law_545 : decode cL_law 545 = .ok (.iload_n 3, 1) := by decide +kernel
theorem dL_law_546 : decode cL_law 546 = .ok (.iconst 2, 1) := by decide +kernel
theorem dL_law_547 : decode cL_law 547 = .ok (.iadd, 1) := by decide +kernel
theorem dL_law_548 : decode cL_law 548 = .ok (.iaload, 1) := by decide +kernel
theorem dL_law_549 : decode cL_law 549 = .ok (.invokevirtual 76, 3) := by decide +kernel
theorem dL_law_552 : decode cL_law 552 = .ok (.if_icmp .eq 422, 3) := by decide +kernel
theorem dL_law_555 : decode cL_law 555 = .ok (.iconst 0, 1) := by decide +kernel
theorem dL_law_556 : decode cL_law 556 = .ok (.ireturn, 1) := by decide +kernel
theorem dL_law_557 : decode cL_law 557 = .ok (.aload_n 1, 1) := by decide +kernel
theorem dL_law_558 : decode cL_law 558 = .ok (.aload_n 0, 1) := by decide +kernel
theorem dL_law_559 : decode cL_law 559 = .ok (.iload_n 3, 1) := by decide +kernel
theorem dL_law_560 : decode cL_law 560 = .ok (.iconst 1, 1) := by decide +kernel
theorem dL_law_561 : decode cL_law 561 = .ok (.iadd, 1) := by decide +kernel
theorem dL_law_562 : decode cL_law 562 = .ok (.iaload, 1) := by decide +kernel
theorem dL_law_563 : decode cL_law 563 = .ok (.aload_n 0, 1) := by decide +kernel
theorem dL_law_564 : decode cL_law 564 = .ok (.iload_n 3, 1) := by decide +kernel
theorem dL_law_565 : decode cL_law 565 = .ok (.iconst 2, 1) := by decide +kernel
theorem dL_law_566 : decode cL_law 566 = .ok (.iadd, 1) := by decide +kernel
theorem dL_law_567 : decode cL_law 567 = .ok (.iaload, 1) := by decide +kernel
theorem dL_law_568 : decode cL_law 568 = .ok (.invokevirtual 77, 3) := by decide +kernel
theorem dL_law_571 : decode cL_law 571 = .ok (.aload_n 2, 1) := by decide +kernel
theorem dL_law_572 : decode cL_law 572 = .ok (.aload_n 0, 1) := by decide +kernel
theorem dL_law_573 : decode cL_law 573 = .ok (.iload_n 3, 1) := by decide +kernel
theorem dL_law_574 : decode cL_law 574 = .ok (.iconst 1, 1) := by decide +kernel
theorem dL_law_575 : decode cL_law 575 = .ok (.iadd, 1) := by decide +kernel
theorem dL_law_576 : decode cL_law 576 = .ok (.iaload, 1) := by decide +kernel
theorem dL_law_577 : decode cL_law 577 = .ok (.aload_n 0, 1) := by decide +kernel
theorem dL_law_578 : decode cL_law 578 = .ok (.iload_n 3, 1) := by decide +kernel
theorem dL_law_579 : decode cL_law 579 = .ok (.iconst 2, 1) := by decide +kernel
theorem dL_law_580 : decode cL_law 580 = .ok (.iadd, 1) := by decide +kernel
theorem dL_law_581 : decode cL_law 581 = .ok (.iaload, 1) := by decide +kernel
theorem dL_law_582 : decode cL_law 582 = .ok (.invokevirtual 80, 3) := by decide +kernel
theorem dL_law_585 : decode cL_law 585 = .ok (.if_icmp .eq 389, 3) := by decide +kernel
theorem dL_law_588 : decode cL_law 588 = .ok (.iconst 0, 1) := by decide +kernel
theorem dL_law_589 : decode cL_law 589 = .ok (.ireturn, 1) := by decide +kernel
theorem dL_law_590 : decode cL_law 590 = .ok (.aload_n 1, 1) := by decide +kernel
theorem dL_law_591 : decode cL_law 591 = .ok (.aload_n 0, 1) := by decide +kernel
theorem dL_law_592 : decode cL_law 592 = .ok (.iload_n 3, 1) := by decide +kernel
theorem dL_law_593 : decode cL_law 593 = .ok (.iconst 1, 1) := by decide +kernel
theorem dL_law_594 : decode cL_law 594 = .ok (.iadd, 1) := by decide +kernel
theorem dL_law_595 : decode cL_law 595 = .ok (.iaload, 1) := by decide +kernel
theorem dL_law_596 : decode cL_law 596 = .ok (.invokevirtual 81, 3) := by decide +kernel
theorem dL_law_599 : decode cL_law 599 = .ok (.aload_n 2, 1) := by decide +kernel
theorem dL_law_600 : decode cL_law 600 = .ok (.aload_n 0, 1) := by decide +kernel
theorem dL_law_601 : decode cL_law 601 = .ok (.iload_n 3, 1) := by decide +kernel
theorem dL_law_602 : decode cL_law 602 = .ok (.iconst 1, 1) := by decide +kernel
theorem dL_law_603 : decode cL_law 603 = .ok (.iadd, 1) := by decide +kernel
theorem dL_law_604 : decode cL_law 604 = .ok (.iaload, 1) := by decide +kernel
theorem dL_law_605 : decode cL_law 605 = .ok (.invokevirtual 84, 3) := by decide +kernel
theorem dL_law_608 : decode cL_law 608 = .ok (.if_icmp .eq 366, 3) := by decide +kernel
theorem dL_law_611 : decode cL_law 611 = .ok (.iconst 0, 1) := by decide +kernel
theorem dL_law_612 : decode cL_law 612 = .ok (.ireturn, 1) := by decide +kernel
theorem dL_law_613 : decode cL_law 613 = .ok (.aload_n 1, 1) := by decide +kernel
theorem dL_law_614 : decode cL_law 614 = .ok (.aload_n 0, 1) := by decide +kernel
theorem dL_law_615 : decode cL_law 615 = .ok (.iload_n 3, 1) := by decide +kernel
theorem dL_law_616 : decode cL_law 616 = .ok (.iconst 1, 1) := by decide +kernel
theorem dL_law_617 : decode cL_law 617 = .ok (.iadd, 1) := by decide +kernel
theorem dL_law_618 : decode cL_law 618 = .ok (.iaload, 1) := by decide +kernel
theorem dL_law_619 : decode cL_law 619 = .ok (.invokevirtual 85, 3) := by decide +kernel
theorem dL_law_622 : decode cL_law 622 = .ok (.aload_n 2, 1) := by decide +kernel
theorem dL_law_623 : decode cL_law 623 = .ok (.aload_n 0, 1) := by decide +kernel
theorem dL_law_624 : decode cL_law 624 = .ok (.iload_n 3, 1) := by decide +kernel
theorem dL_law_625 : decode cL_law 625 = .ok (.iconst 1, 1) := by decide +kernel
theorem dL_law_626 : decode cL_law 626 = .ok (.iadd, 1) := by decide +kernel
theorem dL_law_627 : decode cL_law 627 = .ok (.iaload, 1) := by decide +kernel
theorem dL_law_628 : decode cL_law 628 = .ok (.invokevirtual 88, 3) := by decide +kernel
theorem dL_law_631 : decode cL_law 631 = .ok (.if_icmp .eq 343, 3) := by decide +kernel
theorem dL_law_634 : decode cL_law 634 = .ok (.iconst 0, 1) := by decide +kernel
theorem dL_law_635 : decode cL_law 635 = .ok (.ireturn, 1) := by decide +kernel
theorem dL_law_636 : decode cL_law 636 = .ok (.aload_n 1, 1) := by decide +kernel
theorem dL_law_637 : decode cL_law 637 = .ok (.aload_n 0, 1) := by decide +kernel
theorem dL_law_638 : decode cL_law 638 = .ok (.iload_n 3, 1) := by decide +kernel
theorem dL_law_639 : decode cL_law 639 = .ok (.iconst 1, 1) := by decide +kernel
theorem dL_law_640 : decode cL_law 640 = .ok (.iadd, 1) := by decide +kernel
theorem dL_law_641 : decode cL_law 641 = .ok (.iaload, 1) := by decide +kernel
theorem dL_law_642 : decode cL_law 642 = .ok (.invokevirtual 89, 3) := by decide +kernel
theorem dL_law_645 : decode cL_law 645 = .ok (.aload_n 2, 1) := by decide +kernel
theorem dL_law_646 : decode cL_law 646 = .ok (.aload_n 0, 1) := by decide +kernel
theorem dL_law_647 : decode cL_law 647 = .ok (.iload_n 3, 1) := by decide +kernel
theorem dL_law_648 : decode cL_law 648 = .ok (.iconst 1, 1) := by decide +kernel
theorem dL_law_649 : decode cL_law 649 = .ok (.iadd, 1) := by decide +kernel
theorem dL_law_650 : decode cL_law 650 = .ok (.iaload, 1) := by decide +kernel
theorem dL_law_651 : decode cL_law 651 = .ok (.invokevirtual 92, 3) := by decide +kernel
theorem dL_law_654 : decode cL_law 654 = .ok (.if_icmp .eq 320, 3) := by decide +kernel
theorem dL_law_657 : decode cL_law 657 = .ok (.iconst 0, 1) := by decide +kernel
theorem dL_law_658 : decode cL_law 658 = .ok (.ireturn, 1) := by decide +kernel
theorem dL_law_659 : decode cL_law 659 = .ok (.aload_n 1, 1) := by decide +kernel
theorem dL_law_660 : decode cL_law 660 = .ok (.aload_n 0, 1) := by decide +kernel
theorem dL_law_661 : decode cL_law 661 = .ok (.iload_n 3, 1) := by decide +kernel
theorem dL_law_662 : decode cL_law 662 = .ok (.iconst 1, 1) := by decide +kernel
theorem dL_law_663 : decode cL_law 663 = .ok (.iadd, 1) := by decide +kernel
theorem dL_law_664 : decode cL_law 664 = .ok (.iaload, 1) := by decide +kernel
theorem dL_law_665 : decode cL_law 665 = .ok (.invokevirtual 93, 3) := by decide +kernel
theorem dL_law_668 : decode cL_law 668 = .ok (.aload_n 2, 1) := by decide +kernel
theorem dL_law_669 : decode cL_law 669 = .ok (.aload_n 0, 1) := by decide +kernel
theorem dL_law_670 : decode cL_law 670 = .ok (.iload_n 3, 1) := by decide +kernel
theorem dL_law_671 : decode cL_law 671 = .ok (.iconst 1, 1) := by decide +kernel
theorem dL_law_672 : decode cL_law 672 = .ok (.iadd, 1) := by decide +kernel
theorem dL_law_673 : decode cL_law 673 = .ok (.iaload, 1) := by decide +kernel
theorem dL_law_674 : decode cL_law 674 = .ok (.invokevirtual 96, 3) := by decide +kernel
theorem dL_law_677 : decode cL_law 677 = .ok (.if_icmp .eq 297, 3) := by decide +kernel
theorem dL_law_680 : decode cL_law 680 = .ok (.iconst 0, 1) := by decide +kernel
theorem dL_law_681 : decode cL_law 681 = .ok (.ireturn, 1) := by decide +kernel
theorem dL_law_682 : decode cL_law 682 = .ok (.aload_n 1, 1) := by decide +kernel
theorem dL_law_683 : decode cL_law 683 = .ok (.aload_n 0, 1) := by decide +kernel
theorem dL_law_684 : decode cL_law 684 = .ok (.iload_n 3, 1) := by decide +kernel
theorem dL_law_685 : decode cL_law 685 = .ok (.iconst 1, 1) := by decide +kernel
theorem dL_law_686 : decode cL_law 686 = .ok (.iadd, 1) := by decide +kernel
theorem dL_law_687 : decode cL_law 687 = .ok (.iaload, 1) := by decide +kernel
theorem dL_law_688 : decode cL_law 688 = .ok (.invokevirtual 97, 3) := by decide +kernel
theorem dL_law_691 : decode cL_law 691 = .ok (.aload_n 2, 1) := by decide +kernel
theorem dL_law_692 : decode cL_law 692 = .ok (.aload_n 0, 1) := by decide +kernel
theorem dL_law_693 : decode cL_law 693 = .ok (.iload_n 3, 1) := by decide +kernel
theorem dL_law_694 : decode cL_law 694 = .ok (.iconst 1, 1) := by decide +kernel
theorem dL_law_695 : decode cL_law 695 = .ok (.iadd, 1) := by decide +kernel
theorem dL_law_696 : decode cL_law 696 = .ok (.iaload, 1) := by decide +kernel
theorem dL_law_697 : decode cL_law 697 = .ok (.invokevirtual 100, 3) := by decide +kernel
theorem dL_law_700 : decode cL_law 700 = .ok (.if_icmp .eq 274, 3) := by decide +kernel
theorem dL_law_703 : decode cL_law 703 = .ok (.iconst 0, 1) := by decide +kernel
theorem dL_law_704 : decode cL_law 704 = .ok (.ireturn, 1) := by decide +kernel
theorem dL_law_705 : decode cL_law 705 = .ok (.aload_n 1, 1) := by decide +kernel
theorem dL_law_706 : decode cL_law 706 = .ok (.aload_n 0, 1) := by decide +kernel
theorem dL_law_707 : decode cL_law 707 = .ok (.iload_n 3, 1) := by decide +kernel
theorem dL_law_708 : decode cL_law 708 = .ok (.iconst 1, 1) := by decide +kernel
theorem dL_law_709 : decode cL_law 709 = .ok (.iadd, 1) := by decide +kernel
theorem dL_law_710 : decode cL_law 710 = .ok (.iaload, 1) := by decide +kernel
theorem dL_law_711 : decode cL_law 711 = .ok (.invokevirtual 101, 3) := by decide +kernel
theorem dL_law_714 : decode cL_law 714 = .ok (.aload_n 2, 1) := by decide +kernel
theorem dL_law_715 : decode cL_law 715 = .ok (.aload_n 0, 1) := by decide +kernel
theorem dL_law_716 : decode cL_law 716 = .ok (.iload_n 3, 1) := by decide +kernel
theorem dL_law_717 : decode cL_law 717 = .ok (.iconst 1, 1) := by decide +kernel
theorem dL_law_718 : decode cL_law 718 = .ok (.iadd, 1) := by decide +kernel
theorem dL_law_719 : decode cL_law 719 = .ok (.iaload, 1) := by decide +kernel
theorem dL_law_720 : decode cL_law 720 = .ok (.invokevirtual 104, 3) := by decide +kernel
theorem dL_law_723 : decode cL_law 723 = .ok (.if_icmp .eq 251, 3) := by decide +kernel
theorem dL_law_726 : decode cL_law 726 = .ok (.iconst 0, 1) := by decide +kernel
theorem dL_law_727 : decode cL_law 727 = .ok (.ireturn, 1) := by decide +kernel
theorem dL_law_728 : decode cL_law 728 = .ok (.aload_n 1, 1) := by decide +kernel
theorem dL_law_729 : decode cL_law 729 = .ok (.aload_n 0, 1) := by decide +kernel
theorem dL_law_730 : decode cL_law 730 = .ok (.iload_n 3, 1) := by decide +kernel
theorem dL_law_731 : decode cL_law 731 = .ok (.iconst 1, 1) := by decide +kernel
theorem dL_law_732 : decode cL_law 732 = .ok (.iadd, 1) := by decide +kernel
theorem dL_law_733 : decode cL_law 733 = .ok (.iaload, 1) := by decide +kernel
theorem dL_law_734 : decode cL_law 734 = .ok (.aload_n 0, 1) := by decide +kernel
theorem dL_law_735 : decode cL_law 735 = .ok (.iload_n 3, 1) := by decide +kernel
theorem dL_law_736 : decode cL_law 736 = .ok (.iconst 2, 1) := by decide +kernel
theorem dL_law_737 : decode cL_law 737 = .ok (.iadd, 1) := by decide +kernel
theorem dL_law_738 : decode cL_law 738 = .ok (.iaload, 1) := by decide +kernel
theorem dL_law_739 : decode cL_law 739 = .ok (.invokevirtual 105, 3) := by decide +kernel
theorem dL_law_742 : decode cL_law 742 = .ok (.aload_n 2, 1) := by decide +kernel
theorem dL_law_743 : decode cL_law 743 = .ok (.aload_n 0, 1) := by decide +kernel
theorem dL_law_744 : decode cL_law 744 = .ok (.iload_n 3, 1) := by decide +kernel
theorem dL_law_745 : decode cL_law 745 = .ok (.iconst 1, 1) := by decide +kernel
theorem dL_law_746 : decode cL_law 746 = .ok (.iadd, 1) := by decide +kernel
theorem dL_law_747 : decode cL_law 747 = .ok (.iaload, 1) := by decide +kernel
theorem dL_law_748 : decode cL_law 748 = .ok (.aload_n 0, 1) := by decide +kernel
theorem dL_law_749 : decode cL_law 749 = .ok (.iload_n 3, 1) := by decide +kernel
theorem dL_law_750 : decode cL_law 750 = .ok (.iconst 2, 1) := by decide +kernel
theorem dL_law_751 : decode cL_law 751 = .ok (.iadd, 1) := by decide +kernel
theorem dL_law_752 : decode cL_law 752 = .ok (.iaload, 1) := by decide +kernel
theorem dL_law_753 : decode cL_law 753 = .ok (.invokevirtual 108, 3) := by decide +kernel
theorem dL_law_756 : decode cL_law 756 = .ok (.if_icmp .eq 218, 3) := by decide +kernel
theorem dL_law_759 : decode cL_law 759 = .ok (.iconst 0, 1) := by decide +kernel
theorem dL_law_760 : decode cL_law 760 = .ok (.ireturn, 1) := by decide +kernel
theorem dL_law_761 : decode cL_law 761 = .ok (.aload_n 1, 1) := by decide +kernel
theorem dL_law_762 : decode cL_law 762 = .ok (.aload_n 0, 1) := by decide +kernel
theorem dL_law_763 : decode cL_law 763 = .ok (.iload_n 3, 1) := by decide +kernel
theorem dL_law_764 : decode cL_law 764 = .ok (.iconst 1, 1) := by decide +kernel
theorem dL_law_765 : decode cL_law 765 = .ok (.iadd, 1) := by decide +kernel
theorem dL_law_766 : decode cL_law 766 = .ok (.iaload, 1) := by decide +kernel
theorem dL_law_767 : decode cL_law 767 = .ok (.aload_n 0, 1) := by decide +kernel
theorem dL_law_768 : decode cL_law 768 = .ok (.iload_n 3, 1) := by decide +kernel
theorem dL_law_769 : decode cL_law 769 = .ok (.iconst 2, 1) := by decide +kernel
theorem dL_law_770 : decode cL_law 770 = .ok (.iadd, 1) := by decide +kernel
theorem dL_law_771 : decode cL_law 771 = .ok (.iaload, 1) := by decide +kernel
theorem dL_law_772 : decode cL_law 772 = .ok (.aload_n 0, 1) := by decide +kernel
theorem dL_law_773 : decode cL_law 773 = .ok (.iload_n 3, 1) := by decide +kernel
theorem dL_law_774 : decode cL_law 774 = .ok (.iconst 3, 1) := by decide +kernel
theorem dL_law_775 : decode cL_law 775 = .ok (.iadd, 1) := by decide +kernel
theorem dL_law_776 : decode cL_law 776 = .ok (.iaload, 1) := by decide +kernel
theorem dL_law_777 : decode cL_law 777 = .ok (.ifCond .eq 7, 3) := by decide +kernel
theorem dL_law_780 : decode cL_law 780 = .ok (.iconst 1, 1) := by decide +kernel
theorem dL_law_781 : decode cL_law 781 = .ok (.goto 4, 3) := by decide +kernel
theorem dL_law_784 : decode cL_law 784 = .ok (.iconst 0, 1) := by decide +kernel
theorem dL_law_785 : decode cL_law 785 = .ok (.invokevirtual 109, 3) := by decide +kernel
theorem dL_law_788 : decode cL_law 788 = .ok (.aload_n 2, 1) := by decide +kernel
theorem dL_law_789 : decode cL_law 789 = .ok (.aload_n 0, 1) := by decide +kernel
theorem dL_law_790 : decode cL_law 790 = .ok (.iload_n 3, 1) := by decide +kernel
theorem dL_law_791 : decode cL_law 791 = .ok (.iconst 1, 1) := by decide +kernel
theorem dL_law_792 : decode cL_law 792 = .ok (.iadd, 1) := by decide +kernel
theorem dL_law_793 : decode cL_law 793 = .ok (.iaload, 1) := by decide +kernel
theorem dL_law_794 : decode cL_law 794 = .ok (.aload_n 0, 1) := by decide +kernel
theorem dL_law_795 : decode cL_law 795 = .ok (.iload_n 3, 1) := by decide +kernel
theorem dL_law_796 : decode cL_law 796 = .ok (.iconst 2, 1) := by decide +kernel
theorem dL_law_797 : decode cL_law 797 = .ok (.iadd, 1) := by decide +kernel
theorem dL_law_798 : decode cL_law 798 = .ok (.iaload, 1) := by decide +kernel
theorem dL_law_799 : decode cL_law 799 = .ok (.aload_n 0, 1) := by decide +kernel
theorem dL_law_800 : decode cL_law 800 = .ok (.iload_n 3, 1) := by decide +kernel
theorem dL_law_801 : decode cL_law 801 = .ok (.iconst 3, 1) := by decide +kernel
theorem dL_law_802 : decode cL_law 802 = .ok (.iadd, 1) := by decide +kernel
theorem dL_law_803 : decode cL_law 803 = .ok (.iaload, 1) := by decide +kernel
theorem dL_law_804 : decode cL_law 804 = .ok (.ifCond .eq 7, 3) := by decide +kernel
theorem dL_law_807 : decode cL_law 807 = .ok (.iconst 1, 1) := by decide +kernel
theorem dL_law_808 : decode cL_law 808 = .ok (.goto 4, 3) := by decide +kernel
theorem dL_law_811 : decode cL_law 811 = .ok (.iconst 0, 1) := by decide +kernel
theorem dL_law_812 : decode cL_law 812 = .ok (.invokevirtual 113, 3) := by decide +kernel
theorem dL_law_815 : decode cL_law 815 = .ok (.if_icmp .eq 159, 3) := by decide +kernel
theorem dL_law_818 : decode cL_law 818 = .ok (.iconst 0, 1) := by decide +kernel
theorem dL_law_819 : decode cL_law 819 = .ok (.ireturn, 1) := by decide +kernel
theorem dL_law_820 : decode cL_law 820 = .ok (.aload_n 1, 1) := by decide +kernel
theorem dL_law_821 : decode cL_law 821 = .ok (.invokevirtual 114, 3) := by decide +kernel
theorem dL_law_824 : decode cL_law 824 = .ok (.aload_n 2, 1) := by decide +kernel
theorem dL_law_825 : decode cL_law 825 = .ok (.invokevirtual 117, 3) := by decide +kernel
theorem dL_law_828 : decode cL_law 828 = .ok (.if_icmp .eq 146, 3) := by decide +kernel
theorem dL_law_831 : decode cL_law 831 = .ok (.iconst 0, 1) := by decide +kernel
theorem dL_law_832 : decode cL_law 832 = .ok (.ireturn, 1) := by decide +kernel
theorem dL_law_833 : decode cL_law 833 = .ok (.aload_n 1, 1) := by decide +kernel
theorem dL_law_834 : decode cL_law 834 = .ok (.invokevirtual 118, 3) := by decide +kernel
theorem dL_law_837 : decode cL_law 837 = .ok (.aload_n 2, 1) := by decide +kernel
theorem dL_law_838 : decode cL_law 838 = .ok (.invokevirtual 121, 3) := by decide +kernel
theorem dL_law_841 : decode cL_law 841 = .ok (.if_icmp .eq 133, 3) := by decide +kernel
theorem dL_law_844 : decode cL_law 844 = .ok (.iconst 0, 1) := by decide +kernel
theorem dL_law_845 : decode cL_law 845 = .ok (.ireturn, 1) := by decide +kernel
theorem dL_law_846 : decode cL_law 846 = .ok (.aload_n 1, 1) := by decide +kernel
theorem dL_law_847 : decode cL_law 847 = .ok (.aload_n 0, 1) := by decide +kernel
theorem dL_law_848 : decode cL_law 848 = .ok (.iload_n 3, 1) := by decide +kernel
theorem dL_law_849 : decode cL_law 849 = .ok (.iconst 1, 1) := by decide +kernel
theorem dL_law_850 : decode cL_law 850 = .ok (.iadd, 1) := by decide +kernel
theorem dL_law_851 : decode cL_law 851 = .ok (.iaload, 1) := by decide +kernel
theorem dL_law_852 : decode cL_law 852 = .ok (.aload_n 0, 1) := by decide +kernel
theorem dL_law_853 : decode cL_law 853 = .ok (.iload_n 3, 1) := by decide +kernel
theorem dL_law_854 : decode cL_law 854 = .ok (.iconst 2, 1) := by decide +kernel
theorem dL_law_855 : decode cL_law 855 = .ok (.iadd, 1) := by decide +kernel
theorem dL_law_856 : decode cL_law 856 = .ok (.iaload, 1) := by decide +kernel
theorem dL_law_857 : decode cL_law 857 = .ok (.invokevirtual 122, 3) := by decide +kernel
theorem dL_law_860 : decode cL_law 860 = .ok (.aload_n 2, 1) := by decide +kernel
theorem dL_law_861 : decode cL_law 861 = .ok (.aload_n 0, 1) := by decide +kernel
theorem dL_law_862 : decode cL_law 862 = .ok (.iload_n 3, 1) := by decide +kernel
theorem dL_law_863 : decode cL_law 863 = .ok (.iconst 1, 1) := by decide +kernel
theorem dL_law_864 : decode cL_law 864 = .ok (.iadd, 1) := by decide +kernel
theorem dL_law_865 : decode cL_law 865 = .ok (.iaload, 1) := by decide +kernel
theorem dL_law_866 : decode cL_law 866 = .ok (.aload_n 0, 1) := by decide +kernel
theorem dL_law_867 : decode cL_law 867 = .ok (.iload_n 3, 1) := by decide +kernel
theorem dL_law_868 : decode cL_law 868 = .ok (.iconst 2, 1) := by decide +kernel
theorem dL_law_869 : decode cL_law 869 = .ok (.iadd, 1) := by decide +kernel
theorem dL_law_870 : decode cL_law 870 = .ok (.iaload, 1) := by decide +kernel
theorem dL_law_871 : decode cL_law 871 = .ok (.invokevirtual 125, 3) := by decide +kernel
theorem dL_law_874 : decode cL_law 874 = .ok (.if_icmp .eq 100, 3) := by decide +kernel
theorem dL_law_877 : decode cL_law 877 = .ok (.iconst 0, 1) := by decide +kernel
theorem dL_law_878 : decode cL_law 878 = .ok (.ireturn, 1) := by decide +kernel
theorem dL_law_879 : decode cL_law 879 = .ok (.aload_n 1, 1) := by decide +kernel
theorem dL_law_880 : decode cL_law 880 = .ok (.invokevirtual 126, 3) := by decide +kernel
theorem dL_law_883 : decode cL_law 883 = .ok (.aload_n 2, 1) := by decide +kernel
theorem dL_law_884 : decode cL_law 884 = .ok (.invokevirtual 129, 3) := by decide +kernel
theorem dL_law_887 : decode cL_law 887 = .ok (.if_icmp .eq 87, 3) := by decide +kernel
theorem dL_law_890 : decode cL_law 890 = .ok (.iconst 0, 1) := by decide +kernel
theorem dL_law_891 : decode cL_law 891 = .ok (.ireturn, 1) := by decide +kernel
theorem dL_law_892 : decode cL_law 892 = .ok (.aload_n 1, 1) := by decide +kernel
theorem dL_law_893 : decode cL_law 893 = .ok (.invokevirtual 130, 3) := by decide +kernel
theorem dL_law_896 : decode cL_law 896 = .ok (.aload_n 2, 1) := by decide +kernel
theorem dL_law_897 : decode cL_law 897 = .ok (.invokevirtual 133, 3) := by decide +kernel
theorem dL_law_900 : decode cL_law 900 = .ok (.if_icmp .eq 74, 3) := by decide +kernel
theorem dL_law_903 : decode cL_law 903 = .ok (.iconst 0, 1) := by decide +kernel
theorem dL_law_904 : decode cL_law 904 = .ok (.ireturn, 1) := by decide +kernel
theorem dL_law_905 : decode cL_law 905 = .ok (.aload_n 1, 1) := by decide +kernel
theorem dL_law_906 : decode cL_law 906 = .ok (.aload_n 0, 1) := by decide +kernel
theorem dL_law_907 : decode cL_law 907 = .ok (.iload_n 3, 1) := by decide +kernel
theorem dL_law_908 : decode cL_law 908 = .ok (.iconst 1, 1) := by decide +kernel
theorem dL_law_909 : decode cL_law 909 = .ok (.iadd, 1) := by decide +kernel
theorem dL_law_910 : decode cL_law 910 = .ok (.iaload, 1) := by decide +kernel
theorem dL_law_911 : decode cL_law 911 = .ok (.invokevirtual 134, 3) := by decide +kernel
theorem dL_law_914 : decode cL_law 914 = .ok (.aload_n 2, 1) := by decide +kernel
theorem dL_law_915 : decode cL_law 915 = .ok (.aload_n 0, 1) := by decide +kernel
theorem dL_law_916 : decode cL_law 916 = .ok (.iload_n 3, 1) := by decide +kernel
theorem dL_law_917 : decode cL_law 917 = .ok (.iconst 1, 1) := by decide +kernel
theorem dL_law_918 : decode cL_law 918 = .ok (.iadd, 1) := by decide +kernel
theorem dL_law_919 : decode cL_law 919 = .ok (.iaload, 1) := by decide +kernel
theorem dL_law_920 : decode cL_law 920 = .ok (.invokevirtual 137, 3) := by decide +kernel
theorem dL_law_923 : decode cL_law 923 = .ok (.if_icmp .eq 51, 3) := by decide +kernel
theorem dL_law_926 : decode cL_law 926 = .ok (.iconst 0, 1) := by decide +kernel
theorem dL_law_927 : decode cL_law 927 = .ok (.ireturn, 1) := by decide +kernel
theorem dL_law_928 : decode cL_law 928 = .ok (.aload_n 1, 1) := by decide +kernel
theorem dL_law_929 : decode cL_law 929 = .ok (.aload_n 0, 1) := by decide +kernel
theorem dL_law_930 : decode cL_law 930 = .ok (.iload_n 3, 1) := by decide +kernel
theorem dL_law_931 : decode cL_law 931 = .ok (.iconst 1, 1) := by decide +kernel
theorem dL_law_932 : decode cL_law 932 = .ok (.iadd, 1) := by decide +kernel
theorem dL_law_933 : decode cL_law 933 = .ok (.iaload, 1) := by decide +kernel
theorem dL_law_934 : decode cL_law 934 = .ok (.invokevirtual 138, 3) := by decide +kernel
theorem dL_law_937 : decode cL_law 937 = .ok (.aload_n 2, 1) := by decide +kernel
theorem dL_law_938 : decode cL_law 938 = .ok (.aload_n 0, 1) := by decide +kernel
theorem dL_law_939 : decode cL_law 939 = .ok (.iload_n 3, 1) := by decide +kernel
theorem dL_law_940 : decode cL_law 940 = .ok (.iconst 1, 1) := by decide +kernel
theorem dL_law_941 : decode cL_law 941 = .ok (.iadd, 1) := by decide +kernel
theorem dL_law_942 : decode cL_law 942 = .ok (.iaload, 1) := by decide +kernel
theorem dL_law_943 : decode cL_law 943 = .ok (.invokevirtual 141, 3) := by decide +kernel
theorem dL_law_946 : decode cL_law 946 = .ok (.if_icmp .eq 28, 3) := by decide +kernel
theorem dL_law_949 : decode cL_law 949 = .ok (.iconst 0, 1) := by decide +kernel
theorem dL_law_950 : decode cL_law 950 = .ok (.ireturn, 1) := by decide +kernel
theorem dL_law_951 : decode cL_law 951 = .ok (.aload_n 1, 1) := by decide +kernel
theorem dL_law_952 : decode cL_law 952 = .ok (.aload_n 0, 1) := by decide +kernel
theorem dL_law_953 : decode cL_law 953 = .ok (.iload_n 3, 1) := by decide +kernel
theorem dL_law_954 : decode cL_law 954 = .ok (.iconst 1, 1) := by decide +kernel
theorem dL_law_955 : decode cL_law 955 = .ok (.iadd, 1) := by decide +kernel
theorem dL_law_956 : decode cL_law 956 = .ok (.iaload, 1) := by decide +kernel
theorem dL_law_957 : decode cL_law 957 = .ok (.invokevirtual 142, 3) := by decide +kernel
theorem dL_law_960 : decode cL_law 960 = .ok (.aload_n 2, 1) := by decide +kernel
theorem dL_law_961 : decode cL_law 961 = .ok (.aload_n 0, 1) := by decide +kernel
theorem dL_law_962 : decode cL_law 962 = .ok (.iload_n 3, 1) := by decide +kernel
theorem dL_law_963 : decode cL_law 963 = .ok (.iconst 1, 1) := by decide +kernel
theorem dL_law_964 : decode cL_law 964 = .ok (.iadd, 1) := by decide +kernel
theorem dL_law_965 : decode cL_law 965 = .ok (.iaload, 1) := by decide +kernel
theorem dL_law_966 : decode cL_law 966 = .ok (.invokevirtual 145, 3) := by decide +kernel
theorem dL_law_969 : decode cL_law 969 = .ok (.if_icmp .eq 5, 3) := by decide +kernel
theorem dL_law_972 : decode cL_law 972 = .ok (.iconst 0, 1) := by decide +kernel
theorem dL_law_973 : decode cL_law 973 = .ok (.ireturn, 1) := by decide +kernel
theorem dL_law_974 : decode cL_law 974 = .ok (.iinc 3 4, 3) := by decide +kernel
theorem dL_law_977 : decode cL_law 977 = .ok (.goto (-959), 3) := by decide +kernel
theorem dL_law_980 : decode cL_law 980 = .ok (.iconst 1, 1) := by decide +kernel
theorem dL_law_981 : decode cL_law 981 = .ok (.ireturn, 1) := by decide +kernel
end
section
/-! ===== the cells that the law makes, by number: kinds (a class's number in vwCl; 11 int[], 12 boolean[], 13 Onion[], 14 Image[], 15 int[][]) and lengths ===== -/
def kdT : List (Nat × Nat) := [(9, 0), (7, 0), (11, 240), (11, 8), (1, 0), (11, 12), (11, 12), (11, 5), (11, 5), (11, 6), (15, 6), (11, 8), (11, 8), (11, 8), (11, 8), (11, 8), (11, 8), (1, 0), (11, 12), (11, 12), (11, 5), (11, 5), (11, 6), (15, 6), (11, 8), (11, 8), (11, 8), (11, 8), (11, 8), (11, 8), (6, 0), (11, 12), (11, 12), (11, 5), (11, 5), (11, 5), (11, 80), (2, 0), (13, 30), (6, 0), (11, 12), (11, 12), (11, 5), (11, 5), (11, 5), (11, 80), (6, 0), (11, 12), (11, 12), (11, 5), (11, 5), (11, 5), (11, 80), (6, 0), (11, 12), (11, 12), (11, 5), (11, 5), (11, 5), (11, 80), (6, 0), (11, 12), (11, 12), (11, 5), (11, 5), (11, 5), (11, 80), (6, 0), (11, 12), (11, 12), (11, 5), (11, 5), (11, 5), (11, 80), (6, 0), (11, 12), (11, 12), (11, 5), (11, 5), (11, 5), (11, 80), (6, 0), (11, 12), (11, 12), (11, 5), (11, 5), (11, 5), (11, 80), (6, 0), (11, 12), (11, 12), (11, 5), (11, 5), (11, 5), (11, 80), (6, 0), (11, 12), (11, 12), (11, 5), (11, 5), (11, 5), (11, 80), (6, 0), (11, 12), (11, 12), (11, 5), (11, 5), (11, 5), (11, 80), (6, 0), (11, 12), (11, 12), (11, 5), (11, 5), (11, 5), (11, 80), (6, 0), (11, 12), (11, 12), (11, 5), (11, 5), (11, 5), (11, 80), (6, 0), (11, 12), (11, 12), (11, 5), (11, 5), (11, 5), (11, 80), (6, 0), (11, 12), (11, 12), (11, 5), (11, 5), (11, 5), (11, 80), (6, 0), (11, 12), (11, 12), (11, 5), (11, 5), (11, 5), (11, 80), (6, 0), (11, 12), (11, 12), (11, 5), (11, 5), (11, 5), (11, 80), (6, 0), (11, 12), (11, 12), (11, 5), (11, 5), (11, 5), (11, 80), (6, 0), (11, 12), (11, 12), (11, 5), (11, 5), (11, 5), (11, 80), (6, 0), (11, 12), (11, 12), (11, 5), (11, 5), (11, 5), (11, 80), (6, 0), (11, 12), (11, 12), (11, 5), (11, 5), (11, 5), (11, 80), (6, 0), (11, 12), (11, 12), (11, 5), (11, 5), (11, 5), (11, 80), (6, 0), (11, 12), (11, 12), (11, 5), (11, 5), (11, 5), (11, 80), (6, 0), (11, 12), (11, 12), (11, 5), (11, 5), (11, 5), (11, 80), (6, 0), (11, 12), (11, 12), (11, 5), (11, 5), (11, 5), (11, 80), (6, 0), (11, 12), (11, 12), (11, 5), (11, 5), (11, 5), (11, 80), (6, 0), (11, 12), (11, 12), (11, 5), (11, 5), (11, 5), (11, 80), (6, 0), (11, 12), (11, 12), (11, 5), (11, 5), (11, 5), (11, 80), (6, 0), (11, 12), (11, 12), (11, 5), (11, 5), (11, 5), (11, 80), (6, 0), (11, 12), (11, 12), (11, 5), (11, 5), (11, 5), (11, 80), (6, 0), (11, 12), (11, 12), (11, 5), (11, 5), (11, 5), (11, 80), (14, 2), (5, 0), (6, 0), (11, 12), (11, 12), (11, 5), (11, 5), (11, 5), (11, 80), (5, 0), (6, 0), (11, 12), (11, 12), (11, 5), (11, 5), (11, 5), (11, 80), (4, 0), (11, 6), (11, 6), (12, 6), (0, 0), (11, 20), (11, 20), (8, 0), (11, 13), (11, 13), (11, 5), (11, 6), (3, 0), (10, 0), (11, 5), (11, 5), (11, 6), (11, 48), (11, 125), (11, 20), (11, 20), (11, 6), (11, 6), (11, 6), (11, 240), (11, 12), (11, 12), (11, 5), (11, 5), (11, 6), (11, 48), (11, 3750), (11, 78), (11, 14), (11, 5), (11, 252), (12, 2)]
def kd (k : Nat) : Nat := (kdT.getD k (99, 0)).1
def ln (k : Nat) : Nat := (kdT.getD k (99, 0)).2
def nfT : List Nat := [3, 11, 3, 1, 4, 3, 12, 6, 4, 10, 40]
def nf (c : Nat) : Nat := nfT.getD c 0
def rfT : List (List Bool) := [[true, true, false], [false, false, false, false, false, true, true, true, true, true, true], [true, false, false], [false], [true, true, true, false], [false, true, false], [false, true, true, true, true, true, true, false, false, false, false, false], [true, true, false, false, false, false], [true, true, true, true], [true, true, true, true, true, true, true, true, true, true], [false, false, false, true, true, false, true, true, true, false, false, true, true, false, true, true, true, true, false, false, false, false, false, false, false, true, true, false, true, true, false, true, true, false, true, true, true, true, true, true]]
def rfq (c j : Nat) : Bool := (rfT.getD c []).getD j false
/-! ===== pure values and memory: an int is an Int, a cell of the law's own is its number ===== -/
abbrev PV : Type := Int ⊕ Int ⊕ Nat ⊕ Unit
abbrev vI (z : Int) : PV := .inl z
abbrev vL (z : Int) : PV := .inr (.inl z)
abbrev vR (k : Nat) : PV := .inr (.inr (.inl k))
abbrev vS : PV := .inr (.inr (.inr ()))
abbrev rfm : Type := Nat → Nat → Option Nat
abbrev inm : Type := Nat → Nat → Int
def rv (base b : Nat) (v : PV) : Value := match v with
  | .inl z => .int (Int32.ofInt z)
  | .inr (.inl z) => .long (Int64.ofInt z)
  | .inr (.inr (.inl k)) => .ref (base + k)
  | .inr (.inr (.inr _)) => .ref b
abbrev inR (z : Int) : Prop := -2147483648 ≤ z ∧ z ≤ 2147483647
abbrev inL (z : Int) : Prop := -9223372036854775808 ≤ z ∧ z ≤ 9223372036854775807
def okV (v : PV) : Prop := match v with
  | .inl z => inR z
  | .inr (.inl z) => inL z
  | _ => True
def up2 {α : Type} (f : Nat → Nat → α) (a i : Nat) (v : α) : Nat → Nat → α := fun x y => if x = a ∧ y = i then v else f x y
/-! ===== Int32 and Int ===== -/
theorem oi_toInt {z : Int} (h : inR z) : (Int32.ofInt z).toInt = z := by
  rw [Int32.toInt_ofInt]
  have h1 := h.1
  have h2 := h.2
  first | (rw [Int.bmod_def]; split <;> omega) | (simp [Int.bmod]; omega)
theorem ol_toInt {z : Int} (h : inL z) : (Int64.ofInt z).toInt = z := by
  rw [Int64.toInt_ofInt]
  have h1 := h.1
  have h2 := h.2
  first | (rw [Int.bmod_def]; split <;> omega) | (simp [Int.bmod]; omega)
theorem oi_inj {a b : Int} (ha : inR a) (hb : inR b) : Int32.ofInt a = Int32.ofInt b ↔ a = b := by
  refine ⟨fun h => ?_, fun h => by rw [h]⟩
  have h2 := congrArg Int32.toInt h
  rwa [oi_toInt ha, oi_toInt hb] at h2
theorem oi_lt {a b : Int} (ha : inR a) (hb : inR b) : Int32.ofInt a < Int32.ofInt b ↔ a < b := by
  rw [Int32.lt_iff_toInt_lt, oi_toInt ha, oi_toInt hb]
theorem oi_le {a b : Int} (ha : inR a) (hb : inR b) : Int32.ofInt a ≤ Int32.ofInt b ↔ a ≤ b := by
  rw [Int32.le_iff_toInt_le, oi_toInt ha, oi_toInt hb]
theorem oi_0 : (0 : Int32) = Int32.ofInt 0 := by decide
theorem oi_of {z : Int} {x : Int32} (h : x.toInt = z) : x = Int32.ofInt z := by
  rw [← h, Int32.ofInt_toInt]
theorem oi_range (x : Int32) : inR x.toInt := ⟨by have := x.le_toInt; first | omega | (simpa using this), by have := x.toInt_lt; first | omega | (simp at this; omega)⟩
theorem oi_clamp {z : Int} (h : inR z) : (Int32.ofInt z).toNatClampNeg = z.toNat := by
  show (Int32.ofInt z).toInt.toNat = z.toNat
  rw [oi_toInt h]
theorem oi_in {z : Int} {n : Nat} (h : inR z) (h0 : 0 ≤ z) (h1 : z < n) : vp_in (Int32.ofInt z) n := by
  unfold vp_in
  rw [oi_clamp h, oi_0, oi_lt h (by decide)]
  omega
/-! ===== the world ===== -/
def flds (base : Nat) (P : rfm) (M : inm) (k c : Nat) : List Value := (List.range (nf c)).map (fun j => if rfq c j = true then va_rf ((P k j).map (fun r => base + r)) else .int (Int32.ofInt (M k j)))
def ent (base : Nat) (cy : Nat → ClassId) (P : rfm) (M : inm) (k : Nat) : va_E :=
  if kd k < 11 then .inr (kd k, flds base P M k (kd k))
  else if kd k < 13 then .inl (cy (kd k - 11), ln k, .inl (fun i => Int32.ofInt (M k i)))
  else .inl (cy (kd k - 11), ln k, .inr (.inr (.inr (.inr (fun i => (P k i).map (fun r => base + r))))))
def wsOf (base : Nat) (cy : Nat → ClassId) (n : Nat) (P : rfm) (M : inm) : va_W := (List.range n).map (fun k => (base + k, ent base cy P M k))
def tysOf (cy : Nat → ClassId) : List (ClassId × FieldType) := [(cy 0, .int), (cy 1, .boolean), (cy 2, .object "OnionProbate$Onion"), (cy 3, .object "OnionProbate$Image"), (cy 4, .array .int)]
def Wd (D : va_G) (cy : Nat → ClassId) (base n : Nat) (P : rfm) (M : inm) (s : State) (H : Heap) : Prop :=
  va_K D vwCl (tysOf cy) s ∧ va_P D vwCl (wsOf base cy n P M) H ∧ (n < 303 → H.size = base + n) ∧ (∀ k i, inR (M k i)) ∧ ∀ k i, n ≤ k → M k i = 0 ∧ P k i = none
theorem ws_get {base n k : Nat} {cy : Nat → ClassId} {P : rfm} {M : inm} (h : k < n) : (wsOf base cy n P M)[k]? = some (base + k, ent base cy P M k) := by
  unfold wsOf
  rw [List.getElem?_map, List.getElem?_range h]
  rfl
theorem ws_none {base n k : Nat} {cy : Nat → ClassId} {P : rfm} {M : inm} (h : n ≤ k) : (wsOf base cy n P M)[k]? = none := by
  unfold wsOf
  exact List.getElem?_eq_none (by simpa using h)
theorem ws_inv {base n k : Nat} {cy : Nat → ClassId} {P : rfm} {M : inm} {q : Nat × va_E} (h : (wsOf base cy n P M)[k]? = some q) : k < n ∧ q = (base + k, ent base cy P M k) := by
  by_cases hk : k < n
  · rw [ws_get hk] at h
    exact ⟨hk, (Option.some.inj h).symm⟩
  · rw [ws_none (by omega)] at h
    cases h
theorem ws_set {base n k : Nat} {cy : Nat → ClassId} {P P' : rfm} {M M' : inm} {e : va_E} (h : k < n) (he : ent base cy P' M' k = e) (ho : ∀ j, j ≠ k → ent base cy P' M' j = ent base cy P M j) : (wsOf base cy n P M).set k (base + k, e) = wsOf base cy n P' M' := by
  apply List.ext_getElem?
  intro i
  by_cases hi : i < n
  · rw [ws_get hi]
    by_cases hik : i = k
    · subst hik
      rw [List.getElem?_set_self (by unfold wsOf; simpa using h), he]
    · rw [List.getElem?_set_ne (Ne.symm hik), ws_get hi, ho i hik]
  · rw [ws_none (by omega)]
    exact List.getElem?_eq_none (by unfold wsOf; simp; omega)
theorem ws_D {base n : Nat} {cy : Nat → ClassId} {P : rfm} {M : inm} : va_D (fun q => base ≤ q) (wsOf base cy n P M) := by
  refine ⟨fun i j x y hi hj hxy => ?_, fun k q hk => ?_⟩
  · obtain ⟨-, rfl⟩ := ws_inv hi
    obtain ⟨-, rfl⟩ := ws_inv hj
    have h : base + i = base + j := hxy
    omega
  · obtain ⟨-, rfl⟩ := ws_inv hk
    exact Nat.le_add_right base k
theorem ent_obj {base k c : Nat} {cy : Nat → ClassId} {P : rfm} {M : inm} (h : kd k = c) (hc : c < 11) : ent base cy P M k = .inr (c, flds base P M k c) := by
  unfold ent
  rw [h, if_pos hc]
theorem ent_ints {base k : Nat} {cy : Nat → ClassId} {P : rfm} {M : inm} (h : kd k = 11) : ent base cy P M k = .inl (cy 0, ln k, .inl (fun i => Int32.ofInt (M k i))) := by
  unfold ent
  rw [h, if_neg (by decide), if_pos (by decide)]
theorem ent_bools {base k : Nat} {cy : Nat → ClassId} {P : rfm} {M : inm} (h : kd k = 12) : ent base cy P M k = .inl (cy 1, ln k, .inl (fun i => Int32.ofInt (M k i))) := by
  unfold ent
  rw [h, if_neg (by decide), if_pos (by decide)]
theorem ent_refs {base k c : Nat} {cy : Nat → ClassId} {P : rfm} {M : inm} (h : kd k = c + 11) (hc : 2 ≤ c) : ent base cy P M k = .inl (cy c, ln k, .inr (.inr (.inr (.inr (fun i => (P k i).map (fun r => base + r)))))) := by
  unfold ent
  rw [h, if_neg (by omega), if_neg (by omega), show c + 11 - 11 = c by omega]
theorem flds_at {base k c j : Nat} {P : rfm} {M : inm} (h : j < nf c) : (flds base P M k c)[j]? = some (if rfq c j = true then va_rf ((P k j).map (fun r => base + r)) else .int (Int32.ofInt (M k j))) := by
  unfold flds
  rw [List.getElem?_map, List.getElem?_range h]
  rfl
theorem flds_len {base k c : Nat} {P : rfm} {M : inm} : (flds base P M k c).length = nf c := by
  unfold flds
  simp
theorem flds_setI {base k c j : Nat} {P : rfm} {M : inm} {z : Int} (h : rfq c j = false) : (flds base P M k c).set j (.int (Int32.ofInt z)) = flds base P (up2 M k j z) k c := by
  apply List.ext_getElem?
  intro i
  by_cases hi : i < nf c
  · rw [flds_at hi]
    by_cases hij : i = j
    · subst hij
      rw [List.getElem?_set_self (by rw [flds_len]; exact hi), if_neg (by rw [h]; decide)]
      simp [up2]
    · rw [List.getElem?_set_ne (Ne.symm hij), flds_at hi]
      simp [up2, hij]
  · rw [List.getElem?_eq_none (by rw [List.length_set, flds_len]; omega), List.getElem?_eq_none (by rw [flds_len]; omega)]
theorem flds_setR {base k c j r : Nat} {P : rfm} {M : inm} (h : rfq c j = true) : (flds base P M k c).set j (.ref (base + r)) = flds base (up2 P k j (some r)) M k c := by
  apply List.ext_getElem?
  intro i
  by_cases hi : i < nf c
  · rw [flds_at hi]
    by_cases hij : i = j
    · subst hij
      rw [List.getElem?_set_self (by rw [flds_len]; exact hi), if_pos h]
      simp [up2, va_rf]
    · rw [List.getElem?_set_ne (Ne.symm hij), flds_at hi]
      simp [up2, hij]
  · rw [List.getElem?_eq_none (by rw [List.length_set, flds_len]; omega), List.getElem?_eq_none (by rw [flds_len]; omega)]
theorem ent_otherI {base a i j : Nat} {cy : Nat → ClassId} {P : rfm} {M : inm} {z : Int} (h : j ≠ a) : ent base cy P (up2 M a i z) j = ent base cy P M j := by
  have e : ∀ x, up2 M a i z j x = M j x := fun x => by simp [up2, h]
  unfold ent flds
  simp only [e]
theorem ent_otherR {base a i j : Nat} {cy : Nat → ClassId} {P : rfm} {M : inm} {r : Option Nat} (h : j ≠ a) : ent base cy (up2 P a i r) M j = ent base cy P M j := by
  have e : ∀ x, up2 P a i r j x = P j x := fun x => by simp [up2, h]
  unfold ent flds
  simp only [e]
/-! ===== the judgement ===== -/
def TB : List Cond := lw_tbl.filter goodWord
def Cx (y : MethodName) (cc : ByteArray) (nL t : Nat) (ret : Option FieldType) (p : Program) (R : Room) (s : State) (m : MethodId) (args : Array Value) (meth : Method) (c : Code) : Prop :=
  p.tables.exec = Jvm.exec ∧ c.code = cc ∧ c.maxLocals = nL ∧ s.vm.findClass y.cls = some m.cls ∧ (∀ w ∈ TB, w.before args s = true) ∧ meth.sig.returnType = ret ∧ meth.locks = false ∧ (y.name = "<init>" → meth.name = "<init>") ∧ t ≤ R.frames ∧ 35 * t ≤ R.locals
def retAt (cc : ByteArray) (ret : Option FieldType) (pc : Nat) (v : Option PV) : Prop := match v, ret with
  | none, none => decode cc pc = .ok (.return_, 1)
  | some (.inl z), some ty => decode cc pc = .ok (.ireturn, 1) ∧ narrow ty (.int (Int32.ofInt z)) = .int (Int32.ofInt z)
  | _, _ => False
abbrev Post : Type := Option PV → Nat → rfm → inm → Prop
def Eg (cc : ByteArray) (ret : Option FieldType) (p : Program) (l : Launch) (e : Env) (R : Room) (s : State) (m : MethodId) (args : Array Value) (below : List Frame) (meth : Method) (c : Code) (base b : Nat) (D : va_G) (cy : Nat → ClassId) (Qf : State → Prop) (Q : Post) : Prop :=
  ∀ (v : Option PV) (n : Nat) (P : rfm) (M : inm) (H : Heap) (locs : List Loc) (cells slots pc : Nat) (ls : Array Slot), Q v n P M → Wd D cy base n P M s H → va_S (fun q => base ≤ q) s.heap H locs → cells ≤ R.cells → slots ≤ R.slots → (∀ x ∈ v.toList, okV x) → retAt cc ret pc v →
    W p l e R s m args below meth c H locs cells slots Qf (F0 m pc ls (v.toList.map (rv base b)))
def Hy (S : Nat × (Nat → Int32)) (y : MethodName) (cc : ByteArray) (nL t mc ms : Nat) (ret : Option FieldType) (p : Program) (l : Launch) (e : Env) (R : Room) (s : State) (m : MethodId) (args : Array Value) (below : List Frame) (meth : Method) (c : Code) (H : Heap) (locs : List Loc) (cells slots base b : Nat) (D : va_G) (cy : Nat → ClassId) (Qf : State → Prop) (n : Nat) (P : rfm) (M : inm) (Q : Post) : Prop :=
  Cx y cc nL t ret p R s m args meth c ∧ (y.cls = "OnionProbateLaw" → va_X b S.1 S.2 s s.heap ∧ b < base) ∧ base ≤ s.heap.size ∧ Wd D cy base n P M s H ∧ va_S (fun q => base ≤ q) s.heap H locs ∧ (cells + mc ≤ R.cells ∧ slots + ms ≤ R.slots) ∧ Eg cc ret p l e R s m args below meth c base b D cy Qf Q
/-- the method y, at pc with these locals, this stack and this memory, comes to an end with Q -/
def Go (S : Nat × (Nat → Int32)) (y : MethodName) (cc : ByteArray) (nL t mc ms : Nat) (ret : Option FieldType) (pc : Nat) (lv : List (Nat × PV)) (st : List PV) (n : Nat) (P : rfm) (M : inm) (Q : Post) : Prop :=
  ∀ (p : Program) (l : Launch) (e : Env) (R : Room) (s : State) (m : MethodId) (args : Array Value) (below : List Frame) (meth : Method) (c : Code) (H : Heap) (locs : List Loc) (cells slots base b : Nat) (D : va_G) (cy : Nat → ClassId) (ls : Array Slot) (Qf : State → Prop),
    Hy S y cc nL t mc ms ret p l e R s m args below meth c H locs cells slots base b D cy Qf n P M Q → lv_has ls nL (lv.map (fun q => (q.1, rv base b q.2))) → (∀ q ∈ lv, okV q.2) → (∀ v ∈ st, okV v) →
    W p l e R s m args below meth c H locs cells slots Qf (F0 m pc ls (st.map (rv base b)))
section GoRows
variable {S : Nat × (Nat → Int32)} {y : MethodName} {cc : ByteArray} {nL t mc ms : Nat} {ret : Option FieldType} {pc : Nat} {lv : List (Nat × PV)} {st : List PV} {n : Nat} {P : rfm} {M : inm} {Q : Post}
theorem ok_cons {v : PV} {st : List PV} (h : okV v) (hs : ∀ x ∈ st, okV x) : ∀ x ∈ v :: st, okV x := fun x hx => by
  rcases List.mem_cons.mp hx with rfl | hx
  · exact h
  · exact hs x hx
theorem ok_tail {v : PV} {st : List PV} (hs : ∀ x ∈ v :: st, okV x) : ∀ x ∈ st, okV x := fun x hx => hs x (List.mem_cons_of_mem _ hx)
theorem ok_head {v : PV} {st : List PV} (hs : ∀ x ∈ v :: st, okV x) : okV v := hs v List.mem_cons_self
theorem lvm_at {lv : List (Nat × PV)} {j i base b : Nat} {v : PV} (h : lv[j]? = some (i, v)) : (lv.map (fun q => (q.1, rv base b q.2)))[j]? = some (i, rv base b v) := by
  rw [List.getElem?_map, h]
  rfl
theorem ok_at {lv : List (Nat × PV)} {j i : Nat} {v : PV} (ol : ∀ q ∈ lv, okV q.2) (h : lv[j]? = some (i, v)) : okV v := ol (i, v) (List.mem_of_getElem? h)
/-- a name for what is known of the ints in reach -/
theorem go_rng (k : (∀ a i, inR (M a i)) → Go S y cc nL t mc ms ret pc lv st n P M Q) : Go S y cc nL t mc ms ret pc lv st n P M Q := by
  intro p l e R s m args below meth c H locs cells slots base b D cy ls Qf hy hl ol os
  exact k hy.2.2.2.1.2.2.2.1 p l e R s m args below meth c H locs cells slots base b D cy ls Qf hy hl ol os
theorem go_top {z : Int} (k : inR z → Go S y cc nL t mc ms ret pc lv (vI z :: st) n P M Q) : Go S y cc nL t mc ms ret pc lv (vI z :: st) n P M Q := by
  intro p l e R s m args below meth c H locs cells slots base b D cy ls Qf hy hl ol os
  exact k (ok_head os) p l e R s m args below meth c H locs cells slots base b D cy ls Qf hy hl ol os
theorem go_loc {z : Int} (j : Nat) {i : Nat} (h : lv[j]? = some (i, vI z)) (k : inR z → Go S y cc nL t mc ms ret pc lv st n P M Q) : Go S y cc nL t mc ms ret pc lv st n P M Q := by
  intro p l e R s m args below meth c H locs cells slots base b D cy ls Qf hy hl ol os
  exact k (ok_at ol h) p l e R s m args below meth c H locs cells slots base b D cy ls Qf hy hl ol os
/-- fewer locals, or in another order -/
theorem go_lv {lv' : List (Nat × PV)} (ks : List Nat) (h : ks.filterMap (fun k => lv[k]?) = lv') (k : Go S y cc nL t mc ms ret pc lv' st n P M Q) : Go S y cc nL t mc ms ret pc lv st n P M Q := by
  intro p l e R s m args below meth c H locs cells slots base b D cy ls Qf hy hl ol os
  have hm : ∀ q ∈ lv', q ∈ lv := fun q hq => by
    rw [← h] at hq
    obtain ⟨i, -, hi⟩ := List.mem_filterMap.mp hq
    exact List.mem_of_getElem? hi
  refine k p l e R s m args below meth c H locs cells slots base b D cy ls Qf hy ⟨hl.1, hl.2.1, fun q hq => ?_⟩ (fun q hq => ol q (hm q hq)) os
  obtain ⟨q0, h0, rfl⟩ := List.mem_map.mp hq
  exact hl.2.2 _ (List.mem_map.mpr ⟨q0, hm q0 h0, rfl⟩)
theorem go_eq {lv' : List (Nat × PV)} {st' : List PV} {n' : Nat} {P' : rfm} {M' : inm} (h1 : lv = lv') (h2 : st = st') (h3 : n = n') (h4 : P = P') (h5 : M = M') (k : Go S y cc nL t mc ms ret pc lv' st' n' P' M' Q) : Go S y cc nL t mc ms ret pc lv st n P M Q := by
  subst h1; subst h2; subst h3; subst h4; subst h5
  exact k
theorem go_m {M' : inm} (h5 : M = M') (k : Go S y cc nL t mc ms ret pc lv st n P M' Q) : Go S y cc nL t mc ms ret pc lv st n P M Q := by
  subst h5
  exact k
theorem go_post {Q' : Post} (h : ∀ v n P M, Q' v n P M → Q v n P M) (k : Go S y cc nL t mc ms ret pc lv st n P M Q') : Go S y cc nL t mc ms ret pc lv st n P M Q := by
  intro p l e R s m args below meth c H locs cells slots base b D cy ls Qf hy hl ol os
  exact k p l e R s m args below meth c H locs cells slots base b D cy ls Qf ⟨hy.1, hy.2.1, hy.2.2.1, hy.2.2.2.1, hy.2.2.2.2.1, hy.2.2.2.2.2.1, fun v n P M H locs cells slots pc ls q => hy.2.2.2.2.2.2 v n P M H locs cells slots pc ls (h v n P M q)⟩ hl ol os
end GoRows
end
section
/-! ===== rows of the judgement: an instruction each ===== -/
theorem bm32 {z : Int} (h : inR z) : Int.bmod z (2 ^ 32) = z := by
  have h1 := h.1
  have h2 := h.2
  rw [Int.bmod_def]
  split <;> omega
theorem bm64 {z : Int} (h : inL z) : Int.bmod z (2 ^ 64) = z := by
  have h1 := h.1
  have h2 := h.2
  rw [Int.bmod_def]
  split <;> omega
theorem ol_of {z : Int} {x : Int64} (h : x.toInt = z) : x = Int64.ofInt z := by
  rw [← h, Int64.ofInt_toInt]
theorem oi_nat (z : Int) (h : 0 ≤ z) : Int32.ofInt z = nI z.toNat := by
  obtain ⟨k, rfl⟩ := Int.eq_ofNat_of_zero_le h
  show Int32.ofInt (k : Int) = Int32.ofNat k
  exact Int32.ofInt_eq_ofNat
theorem oi_div {a b : Int} (ha : inR a) (hb : inR b) (h0 : 0 ≤ a) (h1 : 0 < b) : Int32.ofInt a / Int32.ofInt b = Int32.ofInt (a / b) := by
  apply oi_of
  rw [Int32.toInt_div, oi_toInt ha, oi_toInt hb, Int.tdiv_eq_ediv_of_nonneg h0]
  have h2 := Int.ediv_le_self b h0
  have h3 : 0 ≤ a / b := Int.ediv_nonneg h0 (by omega)
  exact bm32 ⟨by omega, by have := ha.2; omega⟩
theorem ol_div {a b : Int} (ha : inL a) (hb : inL b) (h0 : 0 ≤ a) (h1 : 0 < b) : Int64.ofInt a / Int64.ofInt b = Int64.ofInt (a / b) := by
  apply ol_of
  rw [Int64.toInt_div, ol_toInt ha, ol_toInt hb, Int.tdiv_eq_ediv_of_nonneg h0]
  have h2 := Int.ediv_le_self b h0
  have h3 : 0 ≤ a / b := Int.ediv_nonneg h0 (by omega)
  exact bm64 ⟨by omega, by have := ha.2; omega⟩
theorem emod_eq (a b : Int) : a - a / b * b = a % b := by
  have := Int.mul_ediv_add_emod a b
  rw [Int.mul_comm] at this
  omega
theorem oi_rem {a b : Int} (ha : inR a) (hb : inR b) (h0 : 0 ≤ a) (h1 : 0 < b) : Int32.ofInt a - Int32.ofInt a / Int32.ofInt b * Int32.ofInt b = Int32.ofInt (a % b) := by
  rw [oi_div ha hb h0 h1, ← Int32.ofInt_mul, ← Int32.ofInt_sub, emod_eq]
theorem ol_rem {a b : Int} (ha : inL a) (hb : inL b) (h0 : 0 ≤ a) (h1 : 0 < b) : Int64.ofInt a - Int64.ofInt a / Int64.ofInt b * Int64.ofInt b = Int64.ofInt (a % b) := by
  rw [ol_div ha hb h0 h1, ← Int64.ofInt_mul, ← Int64.ofInt_sub, emod_eq]
theorem oi_shl1 {k : Int} (h0 : 0 ≤ k) (h1 : k ≤ 30) : Int32.ofInt 1 <<< (Int32.ofInt k &&& 31) = Int32.ofInt ((2 ^ k.toNat : Nat) : Int) := by
  obtain ⟨j, rfl⟩ := Int.eq_ofNat_of_zero_le h0
  have h : ∀ j : Nat, j < 31 → Int32.ofInt 1 <<< (Int32.ofInt (j : Int) &&& 31) = Int32.ofInt ((2 ^ j : Nat) : Int) := by decide +kernel
  exact h j (by omega)
theorem oi_or {a b : Int} (ha : 0 ≤ a) (hb : 0 ≤ b) : Int32.ofInt a ||| Int32.ofInt b = Int32.ofInt ((a.toNat ||| b.toNat : Nat) : Int) := by
  rw [oi_nat a ha, oi_nat b hb, oi_nat _ (Int.natCast_nonneg _), Int.toNat_natCast]
  apply Int32.toBitVec_inj.1
  show BitVec.ofNat 32 _ ||| BitVec.ofNat 32 _ = BitVec.ofNat 32 _
  apply BitVec.eq_of_getLsbD_eq
  intro i hi
  simp [hi]
theorem oi_and {a b : Int} (ha : 0 ≤ a) (hb : 0 ≤ b) : Int32.ofInt a &&& Int32.ofInt b = Int32.ofInt ((a.toNat &&& b.toNat : Nat) : Int) := by
  rw [oi_nat a ha, oi_nat b hb, oi_nat _ (Int.natCast_nonneg _), Int.toNat_natCast]
  apply Int32.toBitVec_inj.1
  show BitVec.ofNat 32 _ &&& BitVec.ofNat 32 _ = BitVec.ofNat 32 _
  apply BitVec.eq_of_getLsbD_eq
  intro i hi
  simp [hi]
theorem or_in {a b : Int} (ha : inR a) (hb : inR b) (h0 : 0 ≤ a) (h1 : 0 ≤ b) : inR ((a.toNat ||| b.toNat : Nat) : Int) := by
  have h2 : a.toNat ||| b.toNat < 2 ^ 31 := Nat.or_lt_two_pow (by have := ha.2; omega) (by have := hb.2; omega)
  exact ⟨by omega, by omega⟩
theorem and_in {a b : Int} (ha : inR a) (h0 : 0 ≤ a) : inR ((a.toNat &&& b.toNat : Nat) : Int) := by
  have h2 : a.toNat &&& b.toNat ≤ a.toNat := Nat.and_le_left
  have := ha.2
  exact ⟨by omega, by omega⟩
theorem oi_bv (a : Int) : (Int32.ofInt a).toBitVec.toNat = (a % 4294967296).toNat := by
  show (BitVec.ofInt 32 a).toNat = _
  rw [BitVec.toNat_ofInt]
  rfl
theorem oi_mask {a m : Int} (k : Nat) (hm : (Int32.ofInt m).toBitVec.toNat = 2 ^ k - 1) (hk : k ≤ 31) : Int32.ofInt a &&& Int32.ofInt m = Int32.ofInt (a % ((2 ^ k : Nat) : Int)) := by
  rw [pk_and _ k hm, oi_bv, oi_nat _ (Int.emod_nonneg _ (by have : 0 < 2 ^ k := Nat.two_pow_pos k; omega))]
  congr 1
  have h1 : 0 ≤ a % 4294967296 := Int.emod_nonneg _ (by decide)
  have h2 : a % ((2 ^ k : Nat) : Int) = (a % 4294967296) % ((2 ^ k : Nat) : Int) := by
    rw [Int.emod_emod_of_dvd]
    have : (4294967296 : Int) = ((2 ^ 32 : Nat) : Int) := by decide
    rw [this]
    exact Int.ofNat_dvd.mpr (Nat.pow_dvd_pow 2 (by omega))
  rw [h2]
  obtain ⟨j, hj⟩ := Int.eq_ofNat_of_zero_le h1
  rw [hj]
  rfl
theorem oi_shr {a k : Int} (ha : inR a) (h0 : 0 ≤ a) (h1 : 0 ≤ k) (h2 : k ≤ 31) : Int32.ofInt a >>> (Int32.ofInt k &&& 31) = Int32.ofInt (a / ((2 ^ k.toNat : Nat) : Int)) := by
  have hs : ∀ j : Nat, j < 32 → ((Int32.ofInt (j : Int) &&& 31).toBitVec.smod 32).toNat = j := by decide +kernel
  obtain ⟨j, rfl⟩ := Int.eq_ofNat_of_zero_le h1
  obtain ⟨i, rfl⟩ := Int.eq_ofNat_of_zero_le h0
  rw [oi_nat _ (Int.natCast_nonneg i), Int.toNat_natCast, Int.toNat_natCast, pk_shrN (by have := ha.2; omega) _ j (hs j (by omega)), ← Int.natCast_ediv, oi_nat _ (Int.natCast_nonneg (i / 2 ^ j))]
  rfl
theorem oi_ushr {a k : Int} (ha : inR a) (h0 : 0 ≤ a) (h1 : 0 ≤ k) (h2 : k ≤ 31) : ((Int32.ofInt a).toUInt32 >>> ((Int32.ofInt k).toUInt32 &&& Int32.toUInt32 31)).toInt32 = Int32.ofInt (a / ((2 ^ k.toNat : Nat) : Int)) := by
  have hs : ∀ j : Nat, j < 32 → (((Int32.ofInt (j : Int)).toUInt32 &&& Int32.toUInt32 31).toBitVec % 32).toNat = j := by decide +kernel
  obtain ⟨j, rfl⟩ := Int.eq_ofNat_of_zero_le h1
  obtain ⟨i, rfl⟩ := Int.eq_ofNat_of_zero_le h0
  rw [oi_nat _ (Int.natCast_nonneg i), Int.toNat_natCast, Int.toNat_natCast, pk_ushrN (by have := ha.2; omega) _ j (hs j (by omega)), ← Int.natCast_ediv, oi_nat _ (Int.natCast_nonneg (i / 2 ^ j))]
  rfl
theorem shr_in {a : Int} (ha : inR a) (h0 : 0 ≤ a) (d : Nat) : inR (a / (d : Int)) := by
  have h2 := Int.ediv_le_self (d : Int) h0
  have h3 : 0 ≤ a / (d : Int) := Int.ediv_nonneg h0 (by omega)
  have := ha.2
  exact ⟨by omega, by omega⟩
theorem oi_l {a : Int} (h : inR a) : (Int32.ofInt a).toInt64 = Int64.ofInt a := by
  apply ol_of
  rw [Int32.toInt_toInt64, oi_toInt h]
theorem ol_i {a : Int} (h : inL a) : (Int64.ofInt a).toInt32 = Int32.ofInt a := by
  first
    | exact Int64.toInt32_ofInt a
    | (apply Int32.toInt_inj.mp; rw [Int64.toInt_toInt32, ol_toInt h, Int32.toInt_ofInt])
def lcm (a b : Int) : Int := if b < a then 1 else if a = b then 0 else -1
theorem ol_cmp {a b : Int} (ha : inL a) (hb : inL b) : lg_cmp (Int64.ofInt a) (Int64.ofInt b) = Int32.ofInt (lcm a b) := by
  unfold lg_cmp lcm
  simp only [gt_iff_lt, Int64.lt_iff_toInt_lt, ← Int64.toInt_inj, ol_toInt ha, ol_toInt hb]
  split
  · rfl
  · split <;> rfl
theorem lcm_in (a b : Int) : inR (lcm a b) := by
  unfold lcm
  split
  · decide
  · split <;> decide
def isL (v : PV) : Bool := match v with
  | .inr (.inl _) => true
  | _ => false
theorem rv_cat (base b : Nat) (v : PV) : ((rv base b v).category == 2) = isL v := by
  match v with
  | .inl _ => rfl
  | .inr (.inl _) => rfl
  | .inr (.inr (.inl _)) => rfl
  | .inr (.inr (.inr _)) => rfl
theorem lv_filt (lv : List (Nat × PV)) (base b i : Nat) : (lv.map (fun q => (q.1, rv base b q.2))).filter (fun q => !(q.1 == i) && !(q.1 + 1 == i && q.2.category == 2)) = (lv.filter (fun q => !(q.1 == i) && !(q.1 + 1 == i && isL q.2))).map (fun q => (q.1, rv base b q.2)) := by
  rw [List.filter_map]
  congr 2
  funext q
  simp only [Function.comp, rv_cat]
theorem lv_filtL (lv : List (Nat × PV)) (base b i : Nat) : (lv.map (fun q => (q.1, rv base b q.2))).filter (fun q => !(q.1 == i) && (!(q.1 == i + 1) && !(q.1 + 1 == i && q.2.category == 2))) = (lv.filter (fun q => !(q.1 == i) && (!(q.1 == i + 1) && !(q.1 + 1 == i && isL q.2)))).map (fun q => (q.1, rv base b q.2)) := by
  rw [List.filter_map]
  congr 2
  funext q
  simp only [Function.comp, rv_cat]
theorem ok_filt {lv lv' : List (Nat × PV)} {i : Nat} {v : PV} {f : Nat × PV → Bool} (h : (i, v) :: lv.filter f = lv') (ov : okV v) (ol : ∀ q ∈ lv, okV q.2) : ∀ q ∈ lv', okV q.2 := fun q hq => by
  rw [← h] at hq
  rcases List.mem_cons.mp hq with rfl | hq
  · exact ov
  · exact ol q (List.mem_filter.mp hq).1
section GoStep
variable {S : Nat × (Nat → Int32)} {y : MethodName} {cc : ByteArray} {nL t mc ms : Nat} {ret : Option FieldType} {pc : Nat} {lv : List (Nat × PV)} {st : List PV} {n : Nat} {P : rfm} {M : inm} {Q : Post}
theorem go_iconst {z : Int} (d : decode cc pc = .ok (.iconst z, 1)) (hz : inR z) (k : Go S y cc nL t mc ms ret (pc + 1) lv (vI z :: st) n P M Q) : Go S y cc nL t mc ms ret pc lv st n P M Q := by
  intro p l e R s m args below meth c H locs cells slots base b D cy ls Qf hy hl ol os
  exact lv_iconst hy.1.1 hy.1.2.1 d rfl (k _ _ _ _ _ _ _ _ _ _ _ _ _ _ _ _ _ _ _ _ hy hl ol (ok_cons hz os))
theorem go_bipush {z : Int} (d : decode cc pc = .ok (.bipush z, 2)) (hv : (Int8.ofInt z).toInt32 = Int32.ofInt z) (hz : inR z) (k : Go S y cc nL t mc ms ret (pc + 2) lv (vI z :: st) n P M Q) : Go S y cc nL t mc ms ret pc lv st n P M Q := by
  intro p l e R s m args below meth c H locs cells slots base b D cy ls Qf hy hl ol os
  exact lv_bipush hy.1.1 hy.1.2.1 d hv (k _ _ _ _ _ _ _ _ _ _ _ _ _ _ _ _ _ _ _ _ hy hl ol (ok_cons hz os))
theorem go_sipush {z : Int} (d : decode cc pc = .ok (.sipush z, 3)) (hv : (Int16.ofInt z).toInt32 = Int32.ofInt z) (hz : inR z) (k : Go S y cc nL t mc ms ret (pc + 3) lv (vI z :: st) n P M Q) : Go S y cc nL t mc ms ret pc lv st n P M Q := by
  intro p l e R s m args below meth c H locs cells slots base b D cy ls Qf hy hl ol os
  exact lv_sipush hy.1.1 hy.1.2.1 d hv (k _ _ _ _ _ _ _ _ _ _ _ _ _ _ _ _ _ _ _ _ hy hl ol (ok_cons hz os))
theorem go_lconst {q : Fin 2} {z : Int} (d : decode cc pc = .ok (.lconst q, 1)) (hv : Int64.ofNat (q : Nat) = Int64.ofInt z) (hz : inL z) (k : Go S y cc nL t mc ms ret (pc + 1) lv (vL z :: st) n P M Q) : Go S y cc nL t mc ms ret pc lv st n P M Q := by
  intro p l e R s m args below meth c H locs cells slots base b D cy ls Qf hy hl ol os
  exact lv_lconst hy.1.1 hy.1.2.1 d hv (k _ _ _ _ _ _ _ _ _ _ _ _ _ _ _ _ _ _ _ _ hy hl ol (ok_cons hz os))
theorem go_ldc {idx : Nat} {z : Int} (d : decode cc pc = .ok (.ldc idx, 2)) (hc : Cond.constant y.cls idx (Int32.ofInt z) ∈ TB) (hz : inR z) (k : Go S y cc nL t mc ms ret (pc + 2) lv (vI z :: st) n P M Q) : Go S y cc nL t mc ms ret pc lv st n P M Q := by
  intro p l e R s m args below meth c H locs cells slots base b D cy ls Qf hy hl ol os
  exact lv_ldc hy.1.1 hy.1.2.1 hy.1.2.2.2.1 (hy.1.2.2.2.2.1 _ hc) d (k _ _ _ _ _ _ _ _ _ _ _ _ _ _ _ _ _ _ _ _ hy hl ol (ok_cons hz os))
theorem go_ldcw {idx : Nat} {z : Int} (d : decode cc pc = .ok (.ldc_w idx, 3)) (hc : Cond.constant y.cls idx (Int32.ofInt z) ∈ TB) (hz : inR z) (k : Go S y cc nL t mc ms ret (pc + 3) lv (vI z :: st) n P M Q) : Go S y cc nL t mc ms ret pc lv st n P M Q := by
  intro p l e R s m args below meth c H locs cells slots base b D cy ls Qf hy hl ol os
  exact lv_ldcw hy.1.1 hy.1.2.1 hy.1.2.2.2.1 (hy.1.2.2.2.2.1 _ hc) d (k _ _ _ _ _ _ _ _ _ _ _ _ _ _ _ _ _ _ _ _ hy hl ol (ok_cons hz os))
theorem go_ldc2 {idx : Nat} {z : Int} (d : decode cc pc = .ok (.ldc2_w idx, 3)) (hc : Cond.constantLong y.cls idx (Int64.ofInt z) ∈ TB) (hz : inL z) (k : Go S y cc nL t mc ms ret (pc + 3) lv (vL z :: st) n P M Q) : Go S y cc nL t mc ms ret pc lv st n P M Q := by
  intro p l e R s m args below meth c H locs cells slots base b D cy ls Qf hy hl ol os
  exact lv_ldc2 hy.1.1 hy.1.2.1 hy.1.2.2.2.1 (hy.1.2.2.2.2.1 _ hc) d (k _ _ _ _ _ _ _ _ _ _ _ _ _ _ _ _ _ _ _ _ hy hl ol (ok_cons hz os))
theorem go_iload_n {q : Fin 4} {i : Nat} {z : Int} (j : Nat) (d : decode cc pc = .ok (.iload_n q, 1)) (hi : (q : Nat) = i) (h : lv[j]? = some (i, vI z)) (k : Go S y cc nL t mc ms ret (pc + 1) lv (vI z :: st) n P M Q) : Go S y cc nL t mc ms ret pc lv st n P M Q := by
  intro p l e R s m args below meth c H locs cells slots base b D cy ls Qf hy hl ol os
  exact lv_iload_n hy.1.1 hy.1.2.1 d hi (lv_at hl j (lvm_at h)) (k _ _ _ _ _ _ _ _ _ _ _ _ _ _ _ _ _ _ _ _ hy hl ol (ok_cons (ok_at ol h) os))
theorem go_iload {i : Nat} {z : Int} (j : Nat) (d : decode cc pc = .ok (.iload i, 2)) (h : lv[j]? = some (i, vI z)) (k : Go S y cc nL t mc ms ret (pc + 2) lv (vI z :: st) n P M Q) : Go S y cc nL t mc ms ret pc lv st n P M Q := by
  intro p l e R s m args below meth c H locs cells slots base b D cy ls Qf hy hl ol os
  exact lv_iload hy.1.1 hy.1.2.1 d (lv_at hl j (lvm_at h)) (k _ _ _ _ _ _ _ _ _ _ _ _ _ _ _ _ _ _ _ _ hy hl ol (ok_cons (ok_at ol h) os))
theorem go_lload_n {q : Fin 4} {i : Nat} {z : Int} (j : Nat) (d : decode cc pc = .ok (.lload_n q, 1)) (hi : (q : Nat) = i) (h : lv[j]? = some (i, vL z)) (k : Go S y cc nL t mc ms ret (pc + 1) lv (vL z :: st) n P M Q) : Go S y cc nL t mc ms ret pc lv st n P M Q := by
  intro p l e R s m args below meth c H locs cells slots base b D cy ls Qf hy hl ol os
  exact lv_lload_n hy.1.1 hy.1.2.1 d hi (lv_at hl j (lvm_at h)) (k _ _ _ _ _ _ _ _ _ _ _ _ _ _ _ _ _ _ _ _ hy hl ol (ok_cons (ok_at ol h) os))
theorem go_lload {i : Nat} {z : Int} (j : Nat) (d : decode cc pc = .ok (.lload i, 2)) (h : lv[j]? = some (i, vL z)) (k : Go S y cc nL t mc ms ret (pc + 2) lv (vL z :: st) n P M Q) : Go S y cc nL t mc ms ret pc lv st n P M Q := by
  intro p l e R s m args below meth c H locs cells slots base b D cy ls Qf hy hl ol os
  exact lv_lload hy.1.1 hy.1.2.1 d (lv_at hl j (lvm_at h)) (k _ _ _ _ _ _ _ _ _ _ _ _ _ _ _ _ _ _ _ _ hy hl ol (ok_cons (ok_at ol h) os))
theorem go_aload_n {q : Fin 4} {i : Nat} {z : Nat} (j : Nat) (d : decode cc pc = .ok (.aload_n q, 1)) (hi : (q : Nat) = i) (h : lv[j]? = some (i, vR z)) (k : Go S y cc nL t mc ms ret (pc + 1) lv (vR z :: st) n P M Q) : Go S y cc nL t mc ms ret pc lv st n P M Q := by
  intro p l e R s m args below meth c H locs cells slots base b D cy ls Qf hy hl ol os
  exact lv_aload_n hy.1.1 hy.1.2.1 d hi (lv_at hl j (lvm_at h)) (k _ _ _ _ _ _ _ _ _ _ _ _ _ _ _ _ _ _ _ _ hy hl ol (ok_cons (ok_at ol h) os))
theorem go_aload {i : Nat} {z : Nat} (j : Nat) (d : decode cc pc = .ok (.aload i, 2)) (h : lv[j]? = some (i, vR z)) (k : Go S y cc nL t mc ms ret (pc + 2) lv (vR z :: st) n P M Q) : Go S y cc nL t mc ms ret pc lv st n P M Q := by
  intro p l e R s m args below meth c H locs cells slots base b D cy ls Qf hy hl ol os
  exact lv_aload hy.1.1 hy.1.2.1 d (lv_at hl j (lvm_at h)) (k _ _ _ _ _ _ _ _ _ _ _ _ _ _ _ _ _ _ _ _ hy hl ol (ok_cons (ok_at ol h) os))
theorem go_aload_nS {q : Fin 4} {i : Nat} (j : Nat) (d : decode cc pc = .ok (.aload_n q, 1)) (hi : (q : Nat) = i) (h : lv[j]? = some (i, vS)) (k : Go S y cc nL t mc ms ret (pc + 1) lv (vS :: st) n P M Q) : Go S y cc nL t mc ms ret pc lv st n P M Q := by
  intro p l e R s m args below meth c H locs cells slots base b D cy ls Qf hy hl ol os
  exact lv_aload_n hy.1.1 hy.1.2.1 d hi (lv_at hl j (lvm_at h)) (k _ _ _ _ _ _ _ _ _ _ _ _ _ _ _ _ _ _ _ _ hy hl ol (ok_cons (ok_at ol h) os))
theorem go_istore_n {q : Fin 4} {i : Nat} {z : Int} {lv' : List (Nat × PV)} (d : decode cc pc = .ok (.istore_n q, 1)) (hi : (q : Nat) = i) (hn : i < nL) (h : (i, vI z) :: lv.filter (fun q => !(q.1 == i) && !(q.1 + 1 == i && isL q.2)) = lv') (k : Go S y cc nL t mc ms ret (pc + 1) lv' st n P M Q) : Go S y cc nL t mc ms ret pc lv (vI z :: st) n P M Q := by
  intro p l e R s m args below meth c H locs cells slots base b D cy ls Qf hy hl ol os
  refine lv_istore_n (lv' := lv'.map (fun q => (q.1, rv base b q.2))) hy.1.1 hy.1.2.1 d hi hl hn ?_ (fun ls' hl' => k _ _ _ _ _ _ _ _ _ _ _ _ _ _ _ _ _ _ _ _ hy hl' (ok_filt h (ok_head os) ol) (ok_tail os))
  rw [← h, List.map_cons, lv_filt]
  rfl
theorem go_istore {i : Nat} {z : Int} {lv' : List (Nat × PV)} (d : decode cc pc = .ok (.istore i, 2)) (hn : i < nL) (h : (i, vI z) :: lv.filter (fun q => !(q.1 == i) && !(q.1 + 1 == i && isL q.2)) = lv') (k : Go S y cc nL t mc ms ret (pc + 2) lv' st n P M Q) : Go S y cc nL t mc ms ret pc lv (vI z :: st) n P M Q := by
  intro p l e R s m args below meth c H locs cells slots base b D cy ls Qf hy hl ol os
  refine lv_istore (lv' := lv'.map (fun q => (q.1, rv base b q.2))) hy.1.1 hy.1.2.1 d hl hn ?_ (fun ls' hl' => k _ _ _ _ _ _ _ _ _ _ _ _ _ _ _ _ _ _ _ _ hy hl' (ok_filt h (ok_head os) ol) (ok_tail os))
  rw [← h, List.map_cons, lv_filt]
  rfl
theorem go_astore_n {q : Fin 4} {i : Nat} {z : Nat} {lv' : List (Nat × PV)} (d : decode cc pc = .ok (.astore_n q, 1)) (hi : (q : Nat) = i) (hn : i < nL) (h : (i, vR z) :: lv.filter (fun q => !(q.1 == i) && !(q.1 + 1 == i && isL q.2)) = lv') (k : Go S y cc nL t mc ms ret (pc + 1) lv' st n P M Q) : Go S y cc nL t mc ms ret pc lv (vR z :: st) n P M Q := by
  intro p l e R s m args below meth c H locs cells slots base b D cy ls Qf hy hl ol os
  refine lv_astore_n (lv' := lv'.map (fun q => (q.1, rv base b q.2))) hy.1.1 hy.1.2.1 d hi hl hn ?_ (fun ls' hl' => k _ _ _ _ _ _ _ _ _ _ _ _ _ _ _ _ _ _ _ _ hy hl' (ok_filt h (ok_head os) ol) (ok_tail os))
  rw [← h, List.map_cons, lv_filt]
  rfl
theorem go_astore {i : Nat} {z : Nat} {lv' : List (Nat × PV)} (d : decode cc pc = .ok (.astore i, 2)) (hn : i < nL) (h : (i, vR z) :: lv.filter (fun q => !(q.1 == i) && !(q.1 + 1 == i && isL q.2)) = lv') (k : Go S y cc nL t mc ms ret (pc + 2) lv' st n P M Q) : Go S y cc nL t mc ms ret pc lv (vR z :: st) n P M Q := by
  intro p l e R s m args below meth c H locs cells slots base b D cy ls Qf hy hl ol os
  refine lv_astore (lv' := lv'.map (fun q => (q.1, rv base b q.2))) hy.1.1 hy.1.2.1 d hl hn ?_ (fun ls' hl' => k _ _ _ _ _ _ _ _ _ _ _ _ _ _ _ _ _ _ _ _ hy hl' (ok_filt h (ok_head os) ol) (ok_tail os))
  rw [← h, List.map_cons, lv_filt]
  rfl
theorem go_lstore_n {q : Fin 4} {i : Nat} {z : Int} {lv' : List (Nat × PV)} (d : decode cc pc = .ok (.lstore_n q, 1)) (hi : (q : Nat) = i) (hn : i + 1 < nL) (h : (i, vL z) :: lv.filter (fun q => !(q.1 == i) && (!(q.1 == i + 1) && !(q.1 + 1 == i && isL q.2))) = lv') (k : Go S y cc nL t mc ms ret (pc + 1) lv' st n P M Q) : Go S y cc nL t mc ms ret pc lv (vL z :: st) n P M Q := by
  intro p l e R s m args below meth c H locs cells slots base b D cy ls Qf hy hl ol os
  refine lv_lstore_n (lv' := lv'.map (fun q => (q.1, rv base b q.2))) hy.1.1 hy.1.2.1 d hi hl hn ?_ (fun ls' hl' => k _ _ _ _ _ _ _ _ _ _ _ _ _ _ _ _ _ _ _ _ hy hl' (ok_filt h (ok_head os) ol) (ok_tail os))
  rw [← h, List.map_cons, lv_filtL]
  rfl
theorem go_lstore {i : Nat} {z : Int} {lv' : List (Nat × PV)} (d : decode cc pc = .ok (.lstore i, 2)) (hn : i + 1 < nL) (h : (i, vL z) :: lv.filter (fun q => !(q.1 == i) && (!(q.1 == i + 1) && !(q.1 + 1 == i && isL q.2))) = lv') (k : Go S y cc nL t mc ms ret (pc + 2) lv' st n P M Q) : Go S y cc nL t mc ms ret pc lv (vL z :: st) n P M Q := by
  intro p l e R s m args below meth c H locs cells slots base b D cy ls Qf hy hl ol os
  refine lv_lstore (lv' := lv'.map (fun q => (q.1, rv base b q.2))) hy.1.1 hy.1.2.1 d hl hn ?_ (fun ls' hl' => k _ _ _ _ _ _ _ _ _ _ _ _ _ _ _ _ _ _ _ _ hy hl' (ok_filt h (ok_head os) ol) (ok_tail os))
  rw [← h, List.map_cons, lv_filtL]
  rfl
theorem go_iinc {i : Nat} {z dz : Int} {lv' : List (Nat × PV)} (j : Nat) (d : decode cc pc = .ok (.iinc i dz, 3)) (hj : lv[j]? = some (i, vI z)) (hz : inR (z + dz)) (hn : i < nL) (h : (i, vI (z + dz)) :: lv.filter (fun q => !(q.1 == i) && !(q.1 + 1 == i && isL q.2)) = lv') (k : Go S y cc nL t mc ms ret (pc + 3) lv' st n P M Q) : Go S y cc nL t mc ms ret pc lv st n P M Q := by
  intro p l e R s m args below meth c H locs cells slots base b D cy ls Qf hy hl ol os
  refine lv_iinc (lv' := lv'.map (fun q => (q.1, rv base b q.2))) (v := Int32.ofInt (z + dz)) hy.1.1 hy.1.2.1 d hl (lvm_at hj) (Int32.ofInt_add ..).symm hn ?_ (fun ls' hl' => k _ _ _ _ _ _ _ _ _ _ _ _ _ _ _ _ _ _ _ _ hy hl' (ok_filt h hz ol) os)
  rw [← h, List.map_cons, lv_filt]
  rfl
theorem go_iadd {x z : Int} (d : decode cc pc = .ok (.iadd, 1)) (h : inR (x + z)) (k : Go S y cc nL t mc ms ret (pc + 1) lv (vI (x + z) :: st) n P M Q) : Go S y cc nL t mc ms ret pc lv (vI z :: vI x :: st) n P M Q := by
  intro p l e R s m args below meth c H locs cells slots base b D cy ls Qf hy hl ol os
  have hz : inR z := ok_head os
  have hx : inR x := ok_head (ok_tail os)
  refine lv_iadd hy.1.1 hy.1.2.1 d ?_
  rw [← Int32.ofInt_add]
  exact k _ _ _ _ _ _ _ _ _ _ _ _ _ _ _ _ _ _ _ _ hy hl ol (ok_cons (v := vI (x + z)) h (ok_tail (ok_tail os)))
theorem go_isub {x z : Int} (d : decode cc pc = .ok (.isub, 1)) (h : inR (x - z)) (k : Go S y cc nL t mc ms ret (pc + 1) lv (vI (x - z) :: st) n P M Q) : Go S y cc nL t mc ms ret pc lv (vI z :: vI x :: st) n P M Q := by
  intro p l e R s m args below meth c H locs cells slots base b D cy ls Qf hy hl ol os
  have hz : inR z := ok_head os
  have hx : inR x := ok_head (ok_tail os)
  refine lv_isub hy.1.1 hy.1.2.1 d ?_
  rw [← Int32.ofInt_sub]
  exact k _ _ _ _ _ _ _ _ _ _ _ _ _ _ _ _ _ _ _ _ hy hl ol (ok_cons (v := vI (x - z)) h (ok_tail (ok_tail os)))
theorem go_imul {x z : Int} (d : decode cc pc = .ok (.imul, 1)) (h : inR (x * z)) (k : Go S y cc nL t mc ms ret (pc + 1) lv (vI (x * z) :: st) n P M Q) : Go S y cc nL t mc ms ret pc lv (vI z :: vI x :: st) n P M Q := by
  intro p l e R s m args below meth c H locs cells slots base b D cy ls Qf hy hl ol os
  have hz : inR z := ok_head os
  have hx : inR x := ok_head (ok_tail os)
  refine lv_imul hy.1.1 hy.1.2.1 d ?_
  rw [← Int32.ofInt_mul]
  exact k _ _ _ _ _ _ _ _ _ _ _ _ _ _ _ _ _ _ _ _ hy hl ol (ok_cons (v := vI (x * z)) h (ok_tail (ok_tail os)))
def wr (z : Int) : Int := Int.bmod z 4294967296
theorem wr_in (z : Int) : inR (wr z) := by
  unfold wr
  have h1 := Int.le_bmod (x := z) (m := 4294967296) (by decide)
  have h2 := Int.bmod_lt (x := z) (m := 4294967296) (by decide)
  exact ⟨by omega, by omega⟩
theorem wr_eq (z : Int) : Int32.ofInt z = Int32.ofInt (wr z) := by
  apply Int32.toInt_inj.mp
  rw [oi_toInt (wr_in z), Int32.toInt_ofInt]
  rfl
theorem go_iaddW {x z : Int} (d : decode cc pc = .ok (.iadd, 1))  (k : Go S y cc nL t mc ms ret (pc + 1) lv (vI (wr (x + z)) :: st) n P M Q) : Go S y cc nL t mc ms ret pc lv (vI z :: vI x :: st) n P M Q := by
  intro p l e R s m args below meth c H locs cells slots base b D cy ls Qf hy hl ol os
  have hz : inR z := ok_head os
  have hx : inR x := ok_head (ok_tail os)
  refine lv_iadd hy.1.1 hy.1.2.1 d ?_
  rw [← Int32.ofInt_add, wr_eq]
  exact k _ _ _ _ _ _ _ _ _ _ _ _ _ _ _ _ _ _ _ _ hy hl ol (ok_cons (v := vI (wr (x + z))) (wr_in _) (ok_tail (ok_tail os)))
theorem go_imulW {x z : Int} (d : decode cc pc = .ok (.imul, 1))  (k : Go S y cc nL t mc ms ret (pc + 1) lv (vI (wr (x * z)) :: st) n P M Q) : Go S y cc nL t mc ms ret pc lv (vI z :: vI x :: st) n P M Q := by
  intro p l e R s m args below meth c H locs cells slots base b D cy ls Qf hy hl ol os
  have hz : inR z := ok_head os
  have hx : inR x := ok_head (ok_tail os)
  refine lv_imul hy.1.1 hy.1.2.1 d ?_
  rw [← Int32.ofInt_mul, wr_eq]
  exact k _ _ _ _ _ _ _ _ _ _ _ _ _ _ _ _ _ _ _ _ hy hl ol (ok_cons (v := vI (wr (x * z))) (wr_in _) (ok_tail (ok_tail os)))
theorem go_idiv {x z : Int} (d : decode cc pc = .ok (.idiv, 1)) (h0 : 0 ≤ x) (h1 : 0 < z) (k : Go S y cc nL t mc ms ret (pc + 1) lv (vI (x / z) :: st) n P M Q) : Go S y cc nL t mc ms ret pc lv (vI z :: vI x :: st) n P M Q := by
  intro p l e R s m args below meth c H locs cells slots base b D cy ls Qf hy hl ol os
  have hz : inR z := ok_head os
  have hx : inR x := ok_head (ok_tail os)
  refine lv_idiv hy.1.1 hy.1.2.1 d (fun q => by rw [oi_0] at q; have := (oi_inj hz (by decide)).mp q; omega) ?_
  rw [oi_div hx hz h0 h1]
  exact k _ _ _ _ _ _ _ _ _ _ _ _ _ _ _ _ _ _ _ _ hy hl ol (ok_cons (v := vI (x / z)) ⟨by have := Int.ediv_nonneg h0 (show 0 ≤ z by omega); omega, by have := Int.ediv_le_self z h0; have := hx.2; omega⟩ (ok_tail (ok_tail os)))
theorem go_irem {x z : Int} (d : decode cc pc = .ok (.irem, 1)) (h0 : 0 ≤ x) (h1 : 0 < z) (k : Go S y cc nL t mc ms ret (pc + 1) lv (vI (x % z) :: st) n P M Q) : Go S y cc nL t mc ms ret pc lv (vI z :: vI x :: st) n P M Q := by
  intro p l e R s m args below meth c H locs cells slots base b D cy ls Qf hy hl ol os
  have hz : inR z := ok_head os
  have hx : inR x := ok_head (ok_tail os)
  refine lv_irem hy.1.1 hy.1.2.1 d (fun q => by rw [oi_0] at q; have := (oi_inj hz (by decide)).mp q; omega) ?_
  rw [oi_rem hx hz h0 h1]
  exact k _ _ _ _ _ _ _ _ _ _ _ _ _ _ _ _ _ _ _ _ hy hl ol (ok_cons (v := vI (x % z)) ⟨by have := Int.emod_nonneg x (show z ≠ 0 by omega); omega, by have := Int.emod_lt_of_pos x h1; have := hz.2; omega⟩ (ok_tail (ok_tail os)))
theorem go_ior {x z : Int} (d : decode cc pc = .ok (.ior, 1)) (h0 : 0 ≤ x) (h1 : 0 ≤ z) (k : Go S y cc nL t mc ms ret (pc + 1) lv (vI (((x.toNat ||| z.toNat : Nat) : Int)) :: st) n P M Q) : Go S y cc nL t mc ms ret pc lv (vI z :: vI x :: st) n P M Q := by
  intro p l e R s m args below meth c H locs cells slots base b D cy ls Qf hy hl ol os
  have hz : inR z := ok_head os
  have hx : inR x := ok_head (ok_tail os)
  refine lv_ior hy.1.1 hy.1.2.1 d ?_
  rw [oi_or h0 h1]
  exact k _ _ _ _ _ _ _ _ _ _ _ _ _ _ _ _ _ _ _ _ hy hl ol (ok_cons (v := vI (((x.toNat ||| z.toNat : Nat) : Int))) (or_in hx hz h0 h1) (ok_tail (ok_tail os)))
theorem go_iand {x z : Int} (d : decode cc pc = .ok (.iand, 1)) (h0 : 0 ≤ x) (h1 : 0 ≤ z) (k : Go S y cc nL t mc ms ret (pc + 1) lv (vI (((x.toNat &&& z.toNat : Nat) : Int)) :: st) n P M Q) : Go S y cc nL t mc ms ret pc lv (vI z :: vI x :: st) n P M Q := by
  intro p l e R s m args below meth c H locs cells slots base b D cy ls Qf hy hl ol os
  have hz : inR z := ok_head os
  have hx : inR x := ok_head (ok_tail os)
  refine lv_iand hy.1.1 hy.1.2.1 d ?_
  rw [oi_and h0 h1]
  exact k _ _ _ _ _ _ _ _ _ _ _ _ _ _ _ _ _ _ _ _ hy hl ol (ok_cons (v := vI (((x.toNat &&& z.toNat : Nat) : Int))) (and_in hx h0) (ok_tail (ok_tail os)))
theorem go_imask {x z : Int} (d : decode cc pc = .ok (.iand, 1)) (q : Nat) (hm : (Int32.ofInt z).toBitVec.toNat = 2 ^ q - 1) (hk : q ≤ 31) (k : Go S y cc nL t mc ms ret (pc + 1) lv (vI (x % ((2 ^ q : Nat) : Int)) :: st) n P M Q) : Go S y cc nL t mc ms ret pc lv (vI z :: vI x :: st) n P M Q := by
  intro p l e R s m args below meth c H locs cells slots base b D cy ls Qf hy hl ol os
  have hz : inR z := ok_head os
  have hx : inR x := ok_head (ok_tail os)
  refine lv_iand hy.1.1 hy.1.2.1 d ?_
  rw [oi_mask q hm hk]
  exact k _ _ _ _ _ _ _ _ _ _ _ _ _ _ _ _ _ _ _ _ hy hl ol (ok_cons (v := vI (x % ((2 ^ q : Nat) : Int))) ⟨by have := Int.emod_nonneg x (show ((2 ^ q : Nat) : Int) ≠ 0 by have := Nat.two_pow_pos q; omega); omega, by have h9 := Int.emod_lt_of_pos x (show 0 < ((2 ^ q : Nat) : Int) by have := Nat.two_pow_pos q; omega); have h8 : 2 ^ q ≤ 2 ^ 31 := Nat.pow_le_pow_right (by decide) hk; omega⟩ (ok_tail (ok_tail os)))
theorem go_ishr {x z : Int} (d : decode cc pc = .ok (.ishr, 1)) (h0 : 0 ≤ x) (h1 : 0 ≤ z) (h2 : z ≤ 31) (k : Go S y cc nL t mc ms ret (pc + 1) lv (vI (x / ((2 ^ z.toNat : Nat) : Int)) :: st) n P M Q) : Go S y cc nL t mc ms ret pc lv (vI z :: vI x :: st) n P M Q := by
  intro p l e R s m args below meth c H locs cells slots base b D cy ls Qf hy hl ol os
  have hz : inR z := ok_head os
  have hx : inR x := ok_head (ok_tail os)
  refine lv_ishr hy.1.1 hy.1.2.1 d ?_
  rw [oi_shr hx h0 h1 h2]
  exact k _ _ _ _ _ _ _ _ _ _ _ _ _ _ _ _ _ _ _ _ hy hl ol (ok_cons (v := vI (x / ((2 ^ z.toNat : Nat) : Int))) (shr_in hx h0 _) (ok_tail (ok_tail os)))
theorem go_iushr {x z : Int} (d : decode cc pc = .ok (.iushr, 1)) (h0 : 0 ≤ x) (h1 : 0 ≤ z) (h2 : z ≤ 31) (k : Go S y cc nL t mc ms ret (pc + 1) lv (vI (x / ((2 ^ z.toNat : Nat) : Int)) :: st) n P M Q) : Go S y cc nL t mc ms ret pc lv (vI z :: vI x :: st) n P M Q := by
  intro p l e R s m args below meth c H locs cells slots base b D cy ls Qf hy hl ol os
  have hx : inR x := ok_head (ok_tail os)
  exact lv_iushr hy.1.1 hy.1.2.1 d (oi_ushr hx h0 h1 h2) (k _ _ _ _ _ _ _ _ _ _ _ _ _ _ _ _ _ _ _ _ hy hl ol (ok_cons (v := vI (x / ((2 ^ z.toNat : Nat) : Int))) (shr_in hx h0 _) (ok_tail (ok_tail os))))
theorem go_shl1 {z : Int} (d : decode cc pc = .ok (.ishl, 1)) (h0 : 0 ≤ z) (h1 : z ≤ 30) (k : Go S y cc nL t mc ms ret (pc + 1) lv (vI ((2 ^ z.toNat : Nat) : Int) :: st) n P M Q) : Go S y cc nL t mc ms ret pc lv (vI z :: vI 1 :: st) n P M Q := by
  intro p l e R s m args below meth c H locs cells slots base b D cy ls Qf hy hl ol os
  refine lv_ishl hy.1.1 hy.1.2.1 d ?_
  rw [oi_shl1 h0 h1]
  refine k _ _ _ _ _ _ _ _ _ _ _ _ _ _ _ _ _ _ _ _ hy hl ol (ok_cons (v := vI ((2 ^ z.toNat : Nat) : Int)) ?_ (ok_tail (ok_tail os)))
  have h9 : 2 ^ z.toNat ≤ 2 ^ 30 := Nat.pow_le_pow_right (by decide) (by omega)
  show inR ((2 ^ z.toNat : Nat) : Int)
  generalize 2 ^ z.toNat = v at h9 ⊢
  exact ⟨by omega, by omega⟩
theorem go_ladd {x z : Int} (d : decode cc pc = .ok (.ladd, 1)) (h : inL (x + z)) (k : Go S y cc nL t mc ms ret (pc + 1) lv (vL (x + z) :: st) n P M Q) : Go S y cc nL t mc ms ret pc lv (vL z :: vL x :: st) n P M Q := by
  intro p l e R s m args below meth c H locs cells slots base b D cy ls Qf hy hl ol os
  have hz : inL z := ok_head os
  have hx : inL x := ok_head (ok_tail os)
  refine lv_ladd hy.1.1 hy.1.2.1 d ?_
  rw [← Int64.ofInt_add]
  exact k _ _ _ _ _ _ _ _ _ _ _ _ _ _ _ _ _ _ _ _ hy hl ol (ok_cons (v := vL (x + z)) h (ok_tail (ok_tail os)))
theorem go_lmul {x z : Int} (d : decode cc pc = .ok (.lmul, 1)) (h : inL (x * z)) (k : Go S y cc nL t mc ms ret (pc + 1) lv (vL (x * z) :: st) n P M Q) : Go S y cc nL t mc ms ret pc lv (vL z :: vL x :: st) n P M Q := by
  intro p l e R s m args below meth c H locs cells slots base b D cy ls Qf hy hl ol os
  have hz : inL z := ok_head os
  have hx : inL x := ok_head (ok_tail os)
  refine lv_lmul hy.1.1 hy.1.2.1 d ?_
  rw [← Int64.ofInt_mul]
  exact k _ _ _ _ _ _ _ _ _ _ _ _ _ _ _ _ _ _ _ _ hy hl ol (ok_cons (v := vL (x * z)) h (ok_tail (ok_tail os)))
theorem go_ldiv {x z : Int} (d : decode cc pc = .ok (.ldiv, 1)) (h0 : 0 ≤ x) (h1 : 0 < z) (k : Go S y cc nL t mc ms ret (pc + 1) lv (vL (x / z) :: st) n P M Q) : Go S y cc nL t mc ms ret pc lv (vL z :: vL x :: st) n P M Q := by
  intro p l e R s m args below meth c H locs cells slots base b D cy ls Qf hy hl ol os
  have hz : inL z := ok_head os
  have hx : inL x := ok_head (ok_tail os)
  refine lv_ldiv hy.1.1 hy.1.2.1 d (fun q => by rw [show (0 : Int64) = Int64.ofInt 0 by decide] at q; have := congrArg Int64.toInt q; rw [ol_toInt hz, ol_toInt (by decide)] at this; omega) ?_
  rw [ol_div hx hz h0 h1]
  exact k _ _ _ _ _ _ _ _ _ _ _ _ _ _ _ _ _ _ _ _ hy hl ol (ok_cons (v := vL (x / z)) ⟨by have := Int.ediv_nonneg h0 (show 0 ≤ z by omega); omega, by have := Int.ediv_le_self z h0; have := hx.2; omega⟩ (ok_tail (ok_tail os)))
theorem go_lrem {x z : Int} (d : decode cc pc = .ok (.lrem, 1)) (h0 : 0 ≤ x) (h1 : 0 < z) (k : Go S y cc nL t mc ms ret (pc + 1) lv (vL (x % z) :: st) n P M Q) : Go S y cc nL t mc ms ret pc lv (vL z :: vL x :: st) n P M Q := by
  intro p l e R s m args below meth c H locs cells slots base b D cy ls Qf hy hl ol os
  have hz : inL z := ok_head os
  have hx : inL x := ok_head (ok_tail os)
  refine lv_lrem hy.1.1 hy.1.2.1 d (fun q => by rw [show (0 : Int64) = Int64.ofInt 0 by decide] at q; have := congrArg Int64.toInt q; rw [ol_toInt hz, ol_toInt (by decide)] at this; omega) ?_
  rw [ol_rem hx hz h0 h1]
  exact k _ _ _ _ _ _ _ _ _ _ _ _ _ _ _ _ _ _ _ _ hy hl ol (ok_cons (v := vL (x % z)) ⟨by have := Int.emod_nonneg x (show z ≠ 0 by omega); omega, by have := Int.emod_lt_of_pos x h1; have := hz.2; omega⟩ (ok_tail (ok_tail os)))
theorem go_lcmp {x z : Int} (d : decode cc pc = .ok (.lcmp, 1))  (k : Go S y cc nL t mc ms ret (pc + 1) lv (vI (lcm x z) :: st) n P M Q) : Go S y cc nL t mc ms ret pc lv (vL z :: vL x :: st) n P M Q := by
  intro p l e R s m args below meth c H locs cells slots base b D cy ls Qf hy hl ol os
  have hz : inL z := ok_head os
  have hx : inL x := ok_head (ok_tail os)
  refine W.lcmp hy.1.1 hy.1.2.1 d ?_
  rw [ol_cmp hx hz]
  exact k _ _ _ _ _ _ _ _ _ _ _ _ _ _ _ _ _ _ _ _ hy hl ol (ok_cons (v := vI (lcm x z)) (lcm_in _ _) (ok_tail (ok_tail os)))
theorem go_i2l {x : Int} (d : decode cc pc = .ok (.i2l, 1)) (k : Go S y cc nL t mc ms ret (pc + 1) lv (vL x :: st) n P M Q) : Go S y cc nL t mc ms ret pc lv (vI x :: st) n P M Q := by
  intro p l e R s m args below meth c H locs cells slots base b D cy ls Qf hy hl ol os
  have hx : inR x := ok_head os
  exact lv_i2l hy.1.1 hy.1.2.1 d (oi_l hx) (k _ _ _ _ _ _ _ _ _ _ _ _ _ _ _ _ _ _ _ _ hy hl ol (ok_cons (v := vL x) ⟨by have := hx.1; omega, by have := hx.2; omega⟩ (ok_tail os)))
theorem go_l2i {x : Int} (d : decode cc pc = .ok (.l2i, 1)) (h : inR x) (k : Go S y cc nL t mc ms ret (pc + 1) lv (vI x :: st) n P M Q) : Go S y cc nL t mc ms ret pc lv (vL x :: st) n P M Q := by
  intro p l e R s m args below meth c H locs cells slots base b D cy ls Qf hy hl ol os
  have hx : inL x := ok_head os
  exact lv_l2i hy.1.1 hy.1.2.1 d (ol_i hx) (k _ _ _ _ _ _ _ _ _ _ _ _ _ _ _ _ _ _ _ _ hy hl ol (ok_cons (v := vI x) h (ok_tail os)))
theorem rv_cat1 {base b : Nat} {v : PV} (hv : isL v = false) : (rv base b v).category = 1 := by
  match v, hv with
  | .inl _, _ => rfl
  | .inr (.inr (.inl _)), _ => rfl
  | .inr (.inr (.inr _)), _ => rfl
theorem go_dup {v : PV} (d : decode cc pc = .ok (.dup, 1)) (hv : isL v = false) (k : Go S y cc nL t mc ms ret (pc + 1) lv (v :: v :: st) n P M Q) : Go S y cc nL t mc ms ret pc lv (v :: st) n P M Q := by
  intro p l e R s m args below meth c H locs cells slots base b D cy ls Qf hy hl ol os
  exact lv_dup hy.1.1 hy.1.2.1 d (rv_cat1 hv) (k _ _ _ _ _ _ _ _ _ _ _ _ _ _ _ _ _ _ _ _ hy hl ol (ok_cons (ok_head os) os))
theorem go_pop {v : PV} (d : decode cc pc = .ok (.pop, 1)) (hv : isL v = false) (k : Go S y cc nL t mc ms ret (pc + 1) lv st n P M Q) : Go S y cc nL t mc ms ret pc lv (v :: st) n P M Q := by
  intro p l e R s m args below meth c H locs cells slots base b D cy ls Qf hy hl ol os
  exact lv_pop hy.1.1 hy.1.2.1 d (rv_cat1 hv) (k _ _ _ _ _ _ _ _ _ _ _ _ _ _ _ _ _ _ _ _ hy hl ol (ok_tail os))
theorem go_dup2 {u v : PV} (d : decode cc pc = .ok (.dup2, 1)) (hu : isL u = false) (hv : isL v = false) (k : Go S y cc nL t mc ms ret (pc + 1) lv (u :: v :: u :: v :: st) n P M Q) : Go S y cc nL t mc ms ret pc lv (u :: v :: st) n P M Q := by
  intro p l e R s m args below meth c H locs cells slots base b D cy ls Qf hy hl ol os
  exact lv_dup2_11 hy.1.1 hy.1.2.1 d (rv_cat1 hu) (rv_cat1 hv) (k _ _ _ _ _ _ _ _ _ _ _ _ _ _ _ _ _ _ _ _ hy hl ol (ok_cons (ok_head os) (ok_cons (ok_head (ok_tail os)) os)))
theorem go_if_eq {x : Int} {off : Int} {tgt : Nat} (d : decode cc pc = .ok (.ifCond .eq off, 3)) (ht : (pc : Int) + off = (tgt : Int)) (kt : x = 0 → Go S y cc nL t mc ms ret tgt lv st n P M Q) (kf : ¬ x = 0 → Go S y cc nL t mc ms ret (pc + 3) lv st n P M Q) : Go S y cc nL t mc ms ret pc lv (vI x :: st) n P M Q := by
  intro p l e R s m args below meth c H locs cells slots base b D cy ls Qf hy hl ol os
  have hx : inR x := ok_head os
  exact lv_if_eq hy.1.1 hy.1.2.1 d ht (fun h => kt (by rw [oi_0] at h; exact (oi_inj hx (by decide)).mp h) _ _ _ _ _ _ _ _ _ _ _ _ _ _ _ _ _ _ _ _ hy hl ol (ok_tail os)) (fun h => kf (fun q => h (by rw [oi_0]; exact (oi_inj hx (by decide)).mpr q) ) _ _ _ _ _ _ _ _ _ _ _ _ _ _ _ _ _ _ _ _ hy hl ol (ok_tail os))
theorem go_icmp_eq {x z : Int} {off : Int} {tgt : Nat} (d : decode cc pc = .ok (.if_icmp .eq off, 3)) (ht : (pc : Int) + off = (tgt : Int)) (kt : x = z → Go S y cc nL t mc ms ret tgt lv st n P M Q) (kf : ¬ x = z → Go S y cc nL t mc ms ret (pc + 3) lv st n P M Q) : Go S y cc nL t mc ms ret pc lv (vI z :: vI x :: st) n P M Q := by
  intro p l e R s m args below meth c H locs cells slots base b D cy ls Qf hy hl ol os
  have hz : inR z := ok_head os
  have hx : inR x := ok_head (ok_tail os)
  exact lv_icmp_eq hy.1.1 hy.1.2.1 d ht (fun h => kt (by exact (oi_inj hx hz).mp h) _ _ _ _ _ _ _ _ _ _ _ _ _ _ _ _ _ _ _ _ hy hl ol (ok_tail (ok_tail os))) (fun h => kf (fun q => h (by exact (oi_inj hx hz).mpr q) ) _ _ _ _ _ _ _ _ _ _ _ _ _ _ _ _ _ _ _ _ hy hl ol (ok_tail (ok_tail os)))
theorem go_if_ne {x : Int} {off : Int} {tgt : Nat} (d : decode cc pc = .ok (.ifCond .ne off, 3)) (ht : (pc : Int) + off = (tgt : Int)) (kt : ¬ x = 0 → Go S y cc nL t mc ms ret tgt lv st n P M Q) (kf : x = 0 → Go S y cc nL t mc ms ret (pc + 3) lv st n P M Q) : Go S y cc nL t mc ms ret pc lv (vI x :: st) n P M Q := by
  intro p l e R s m args below meth c H locs cells slots base b D cy ls Qf hy hl ol os
  have hx : inR x := ok_head os
  exact lv_if_ne hy.1.1 hy.1.2.1 d ht (fun h => kt (fun q => h (by rw [oi_0]; exact (oi_inj hx (by decide)).mpr q) ) _ _ _ _ _ _ _ _ _ _ _ _ _ _ _ _ _ _ _ _ hy hl ol (ok_tail os)) (fun h => kf (by rw [oi_0] at h; exact (oi_inj hx (by decide)).mp h) _ _ _ _ _ _ _ _ _ _ _ _ _ _ _ _ _ _ _ _ hy hl ol (ok_tail os))
theorem go_icmp_ne {x z : Int} {off : Int} {tgt : Nat} (d : decode cc pc = .ok (.if_icmp .ne off, 3)) (ht : (pc : Int) + off = (tgt : Int)) (kt : ¬ x = z → Go S y cc nL t mc ms ret tgt lv st n P M Q) (kf : x = z → Go S y cc nL t mc ms ret (pc + 3) lv st n P M Q) : Go S y cc nL t mc ms ret pc lv (vI z :: vI x :: st) n P M Q := by
  intro p l e R s m args below meth c H locs cells slots base b D cy ls Qf hy hl ol os
  have hz : inR z := ok_head os
  have hx : inR x := ok_head (ok_tail os)
  exact lv_icmp_ne hy.1.1 hy.1.2.1 d ht (fun h => kt (fun q => h (by exact (oi_inj hx hz).mpr q) ) _ _ _ _ _ _ _ _ _ _ _ _ _ _ _ _ _ _ _ _ hy hl ol (ok_tail (ok_tail os))) (fun h => kf (by exact (oi_inj hx hz).mp h) _ _ _ _ _ _ _ _ _ _ _ _ _ _ _ _ _ _ _ _ hy hl ol (ok_tail (ok_tail os)))
theorem go_if_lt {x : Int} {off : Int} {tgt : Nat} (d : decode cc pc = .ok (.ifCond .lt off, 3)) (ht : (pc : Int) + off = (tgt : Int)) (kt : x < 0 → Go S y cc nL t mc ms ret tgt lv st n P M Q) (kf : ¬ x < 0 → Go S y cc nL t mc ms ret (pc + 3) lv st n P M Q) : Go S y cc nL t mc ms ret pc lv (vI x :: st) n P M Q := by
  intro p l e R s m args below meth c H locs cells slots base b D cy ls Qf hy hl ol os
  have hx : inR x := ok_head os
  exact lv_if_lt hy.1.1 hy.1.2.1 d ht (fun h => kt (by rw [oi_0] at h; exact (oi_lt hx (by decide)).mp h) _ _ _ _ _ _ _ _ _ _ _ _ _ _ _ _ _ _ _ _ hy hl ol (ok_tail os)) (fun h => kf (fun q => h (by rw [oi_0]; exact (oi_lt hx (by decide)).mpr q) ) _ _ _ _ _ _ _ _ _ _ _ _ _ _ _ _ _ _ _ _ hy hl ol (ok_tail os))
theorem go_icmp_lt {x z : Int} {off : Int} {tgt : Nat} (d : decode cc pc = .ok (.if_icmp .lt off, 3)) (ht : (pc : Int) + off = (tgt : Int)) (kt : x < z → Go S y cc nL t mc ms ret tgt lv st n P M Q) (kf : ¬ x < z → Go S y cc nL t mc ms ret (pc + 3) lv st n P M Q) : Go S y cc nL t mc ms ret pc lv (vI z :: vI x :: st) n P M Q := by
  intro p l e R s m args below meth c H locs cells slots base b D cy ls Qf hy hl ol os
  have hz : inR z := ok_head os
  have hx : inR x := ok_head (ok_tail os)
  exact lv_icmp_lt hy.1.1 hy.1.2.1 d ht (fun h => kt (by exact (oi_lt hx hz).mp h) _ _ _ _ _ _ _ _ _ _ _ _ _ _ _ _ _ _ _ _ hy hl ol (ok_tail (ok_tail os))) (fun h => kf (fun q => h (by exact (oi_lt hx hz).mpr q) ) _ _ _ _ _ _ _ _ _ _ _ _ _ _ _ _ _ _ _ _ hy hl ol (ok_tail (ok_tail os)))
theorem go_if_ge {x : Int} {off : Int} {tgt : Nat} (d : decode cc pc = .ok (.ifCond .ge off, 3)) (ht : (pc : Int) + off = (tgt : Int)) (kt : 0 ≤ x → Go S y cc nL t mc ms ret tgt lv st n P M Q) (kf : ¬ 0 ≤ x → Go S y cc nL t mc ms ret (pc + 3) lv st n P M Q) : Go S y cc nL t mc ms ret pc lv (vI x :: st) n P M Q := by
  intro p l e R s m args below meth c H locs cells slots base b D cy ls Qf hy hl ol os
  have hx : inR x := ok_head os
  exact lv_if_ge hy.1.1 hy.1.2.1 d ht (fun h => kt (by rw [oi_0] at h; exact (oi_le (by decide) hx).mp h) _ _ _ _ _ _ _ _ _ _ _ _ _ _ _ _ _ _ _ _ hy hl ol (ok_tail os)) (fun h => kf (fun q => h (by rw [oi_0]; exact (oi_le (by decide) hx).mpr q) ) _ _ _ _ _ _ _ _ _ _ _ _ _ _ _ _ _ _ _ _ hy hl ol (ok_tail os))
theorem go_icmp_ge {x z : Int} {off : Int} {tgt : Nat} (d : decode cc pc = .ok (.if_icmp .ge off, 3)) (ht : (pc : Int) + off = (tgt : Int)) (kt : z ≤ x → Go S y cc nL t mc ms ret tgt lv st n P M Q) (kf : ¬ z ≤ x → Go S y cc nL t mc ms ret (pc + 3) lv st n P M Q) : Go S y cc nL t mc ms ret pc lv (vI z :: vI x :: st) n P M Q := by
  intro p l e R s m args below meth c H locs cells slots base b D cy ls Qf hy hl ol os
  have hz : inR z := ok_head os
  have hx : inR x := ok_head (ok_tail os)
  exact lv_icmp_ge hy.1.1 hy.1.2.1 d ht (fun h => kt (by exact (oi_le hz hx).mp h) _ _ _ _ _ _ _ _ _ _ _ _ _ _ _ _ _ _ _ _ hy hl ol (ok_tail (ok_tail os))) (fun h => kf (fun q => h (by exact (oi_le hz hx).mpr q) ) _ _ _ _ _ _ _ _ _ _ _ _ _ _ _ _ _ _ _ _ hy hl ol (ok_tail (ok_tail os)))
theorem go_if_gt {x : Int} {off : Int} {tgt : Nat} (d : decode cc pc = .ok (.ifCond .gt off, 3)) (ht : (pc : Int) + off = (tgt : Int)) (kt : 0 < x → Go S y cc nL t mc ms ret tgt lv st n P M Q) (kf : ¬ 0 < x → Go S y cc nL t mc ms ret (pc + 3) lv st n P M Q) : Go S y cc nL t mc ms ret pc lv (vI x :: st) n P M Q := by
  intro p l e R s m args below meth c H locs cells slots base b D cy ls Qf hy hl ol os
  have hx : inR x := ok_head os
  exact lv_if_gt hy.1.1 hy.1.2.1 d ht (fun h => kt (by rw [oi_0] at h; exact (oi_lt (by decide) hx).mp h) _ _ _ _ _ _ _ _ _ _ _ _ _ _ _ _ _ _ _ _ hy hl ol (ok_tail os)) (fun h => kf (fun q => h (by rw [oi_0]; exact (oi_lt (by decide) hx).mpr q) ) _ _ _ _ _ _ _ _ _ _ _ _ _ _ _ _ _ _ _ _ hy hl ol (ok_tail os))
theorem go_icmp_gt {x z : Int} {off : Int} {tgt : Nat} (d : decode cc pc = .ok (.if_icmp .gt off, 3)) (ht : (pc : Int) + off = (tgt : Int)) (kt : z < x → Go S y cc nL t mc ms ret tgt lv st n P M Q) (kf : ¬ z < x → Go S y cc nL t mc ms ret (pc + 3) lv st n P M Q) : Go S y cc nL t mc ms ret pc lv (vI z :: vI x :: st) n P M Q := by
  intro p l e R s m args below meth c H locs cells slots base b D cy ls Qf hy hl ol os
  have hz : inR z := ok_head os
  have hx : inR x := ok_head (ok_tail os)
  exact lv_icmp_gt hy.1.1 hy.1.2.1 d ht (fun h => kt (by exact (oi_lt hz hx).mp h) _ _ _ _ _ _ _ _ _ _ _ _ _ _ _ _ _ _ _ _ hy hl ol (ok_tail (ok_tail os))) (fun h => kf (fun q => h (by exact (oi_lt hz hx).mpr q) ) _ _ _ _ _ _ _ _ _ _ _ _ _ _ _ _ _ _ _ _ hy hl ol (ok_tail (ok_tail os)))
theorem go_if_le {x : Int} {off : Int} {tgt : Nat} (d : decode cc pc = .ok (.ifCond .le off, 3)) (ht : (pc : Int) + off = (tgt : Int)) (kt : x ≤ 0 → Go S y cc nL t mc ms ret tgt lv st n P M Q) (kf : ¬ x ≤ 0 → Go S y cc nL t mc ms ret (pc + 3) lv st n P M Q) : Go S y cc nL t mc ms ret pc lv (vI x :: st) n P M Q := by
  intro p l e R s m args below meth c H locs cells slots base b D cy ls Qf hy hl ol os
  have hx : inR x := ok_head os
  exact lv_if_le hy.1.1 hy.1.2.1 d ht (fun h => kt (by rw [oi_0] at h; exact (oi_le hx (by decide)).mp h) _ _ _ _ _ _ _ _ _ _ _ _ _ _ _ _ _ _ _ _ hy hl ol (ok_tail os)) (fun h => kf (fun q => h (by rw [oi_0]; exact (oi_le hx (by decide)).mpr q) ) _ _ _ _ _ _ _ _ _ _ _ _ _ _ _ _ _ _ _ _ hy hl ol (ok_tail os))
theorem go_icmp_le {x z : Int} {off : Int} {tgt : Nat} (d : decode cc pc = .ok (.if_icmp .le off, 3)) (ht : (pc : Int) + off = (tgt : Int)) (kt : x ≤ z → Go S y cc nL t mc ms ret tgt lv st n P M Q) (kf : ¬ x ≤ z → Go S y cc nL t mc ms ret (pc + 3) lv st n P M Q) : Go S y cc nL t mc ms ret pc lv (vI z :: vI x :: st) n P M Q := by
  intro p l e R s m args below meth c H locs cells slots base b D cy ls Qf hy hl ol os
  have hz : inR z := ok_head os
  have hx : inR x := ok_head (ok_tail os)
  exact lv_icmp_le hy.1.1 hy.1.2.1 d ht (fun h => kt (by exact (oi_le hx hz).mp h) _ _ _ _ _ _ _ _ _ _ _ _ _ _ _ _ _ _ _ _ hy hl ol (ok_tail (ok_tail os))) (fun h => kf (fun q => h (by exact (oi_le hx hz).mpr q) ) _ _ _ _ _ _ _ _ _ _ _ _ _ _ _ _ _ _ _ _ hy hl ol (ok_tail (ok_tail os)))
theorem go_goto {off : Int} {tgt : Nat} (d : decode cc pc = .ok (.goto off, 3)) (ht : (pc : Int) + off = (tgt : Int)) (k : Go S y cc nL t mc ms ret tgt lv st n P M Q) : Go S y cc nL t mc ms ret pc lv st n P M Q := by
  intro p l e R s m args below meth c H locs cells slots base b D cy ls Qf hy hl ol os
  exact lv_goto hy.1.1 hy.1.2.1 d ht (k _ _ _ _ _ _ _ _ _ _ _ _ _ _ _ _ _ _ _ _ hy hl ol os)
theorem go_tblOut {x : Int} {dflt lo hi : Int} {offs : Array Int} {len tgt : Nat} (d : decode cc pc = .ok (.tableswitch dflt lo hi offs, len)) (h : x < lo ∨ hi < x) (ht : (pc : Int) + dflt = (tgt : Int)) (k : Go S y cc nL t mc ms ret tgt lv st n P M Q) : Go S y cc nL t mc ms ret pc lv (vI x :: st) n P M Q := by
  intro p l e R s m args below meth c H locs cells slots base b D cy ls Qf hy hl ol os
  have hx : inR x := ok_head os
  exact lv_tableOut hy.1.1 hy.1.2.1 d (by rw [oi_toInt hx]; exact h) ht (k _ _ _ _ _ _ _ _ _ _ _ _ _ _ _ _ _ _ _ _ hy hl ol (ok_tail os))
theorem go_tblIn {x : Int} {dflt lo hi off : Int} {offs : Array Int} {len tgt : Nat} (d : decode cc pc = .ok (.tableswitch dflt lo hi offs, len)) (h1 : lo ≤ x) (h2 : x ≤ hi) (ho : offs[(x - lo).toNat]? = some off) (ht : (pc : Int) + off = (tgt : Int)) (k : Go S y cc nL t mc ms ret tgt lv st n P M Q) : Go S y cc nL t mc ms ret pc lv (vI x :: st) n P M Q := by
  intro p l e R s m args below meth c H locs cells slots base b D cy ls Qf hy hl ol os
  have hx : inR x := ok_head os
  exact lv_tableIn hy.1.1 hy.1.2.1 d (by rw [oi_toInt hx]; omega) (by rw [oi_toInt hx]; omega) (by rw [oi_toInt hx]; exact ho) ht (k _ _ _ _ _ _ _ _ _ _ _ _ _ _ _ _ _ _ _ _ hy hl ol (ok_tail os))
theorem go_look {x : Int} {dflt off : Int} {ps : Array (Int × Int)} {len tgt : Nat} (d : decode cc pc = .ok (.lookupswitch dflt ps, len)) (hp : (ps.toList.zip (ps.toList.drop 1)).all (fun (a, next) => a.1 < next.1) = true) (ho : Op.lookupswitch.offset ps.toList dflt x = off) (ht : (pc : Int) + off = (tgt : Int)) (k : Go S y cc nL t mc ms ret tgt lv st n P M Q) : Go S y cc nL t mc ms ret pc lv (vI x :: st) n P M Q := by
  intro p l e R s m args below meth c H locs cells slots base b D cy ls Qf hy hl ol os
  have hx : inR x := ok_head os
  exact lv_lookup hy.1.1 hy.1.2.1 d hp (by rw [oi_toInt hx]; exact ho) ht (k _ _ _ _ _ _ _ _ _ _ _ _ _ _ _ _ _ _ _ _ hy hl ol (ok_tail os))
theorem go_iret {z : Int} {ty : FieldType} (d : decode cc pc = .ok (.ireturn, 1)) (hr : ret = some ty) (hn : narrow ty (.int (Int32.ofInt z)) = .int (Int32.ofInt z)) (hq : Q (some (vI z)) n P M) : Go S y cc nL t mc ms ret pc lv [vI z] n P M Q := by
  intro p l e R s m args below meth c H locs cells slots base b D cy ls Qf hy hl ol os
  subst hr
  exact hy.2.2.2.2.2.2 (some (vI z)) n P M H locs cells slots pc ls hq hy.2.2.2.1 hy.2.2.2.2.1 (by have := hy.2.2.2.2.2.1; omega) (by have := hy.2.2.2.2.2.1; omega) os ⟨d, hn⟩
theorem go_ret (d : decode cc pc = .ok (.return_, 1)) (hr : ret = none) (hq : Q none n P M) : Go S y cc nL t mc ms ret pc lv [] n P M Q := by
  intro p l e R s m args below meth c H locs cells slots base b D cy ls Qf hy hl ol os
  subst hr
  exact hy.2.2.2.2.2.2 none n P M H locs cells slots pc ls hq hy.2.2.2.1 hy.2.2.2.2.1 (by have := hy.2.2.2.2.2.1; omega) (by have := hy.2.2.2.2.2.1; omega) os d
end GoStep
end
section
/-! ===== rows of the judgement: fields and arrays ===== -/
def Lk (own : String) (idx ci k : Nat) : Prop := ∃ (C : String) (T : u_T) (N : Nat), vwCl[ci]? = some (C, T, N) ∧ nf ci = N ∧ k < N ∧ ci < 11 ∧ (∀ w ∈ u_ws C T N, w ∈ TB) ∧ (Cond.fieldLink own idx (T k).1 (T k).2.1 (T k).2.2.1 ∈ TB ∨ ∃ host, Cond.fieldLinkNest own idx (T k).1 (T k).2.1 (T k).2.2.1 host ∈ TB)
def Lp (own : String) (idx ci k : Nat) (fin : Bool) (tyk : FieldType) : Prop := ∃ (T : u_T) (N : Nat) (ty : Nat → FieldType), vwCl[ci]? = some (own, T, N) ∧ nf ci = N ∧ k < N ∧ ci < 11 ∧ (∀ w ∈ u_ws own T N, w ∈ TB) ∧ (∀ k, k < N → parseFieldDescriptor (T k).2.2.1 = some (ty k)) ∧ (∀ a, a < N → ∀ b, b < N → a ≠ b → (T a).2.1 ≠ (T b).2.1) ∧ (T k).1 = own ∧ (T k).2.2.2 = fin ∧ ty k = tyk ∧ Cond.fieldLink own idx (T k).1 (T k).2.1 (T k).2.2.1 ∈ TB
def Ln (own : String) (idx ci k : Nat) (tyk : FieldType) : Prop := ∃ (C : String) (T : u_T) (N : Nat) (ty : Nat → FieldType) (host : String), vwCl[ci]? = some (C, T, N) ∧ nf ci = N ∧ k < N ∧ ci < 11 ∧ (∀ w ∈ u_ws C T N, w ∈ TB) ∧ (∀ k, k < N → parseFieldDescriptor (T k).2.2.1 = some (ty k)) ∧ (∀ a, a < N → ∀ b, b < N → a ≠ b → (T a).2.1 ≠ (T b).2.1) ∧ (T k).2.2.2 = false ∧ ty k = tyk ∧ Cond.fieldLinkNest own idx (T k).1 (T k).2.1 (T k).2.2.1 host ∈ TB
theorem Lp.get {own : String} {idx ci k : Nat} {fin : Bool} {ty : FieldType} (h : Lp own idx ci k fin ty) : Lk own idx ci k := by
  obtain ⟨T, N, ty0, h1, h2, h3, h4, h5, h6, h7, h8, h9, h10, h11⟩ := h
  exact ⟨own, T, N, h1, h2, h3, h4, h5, Or.inl h11⟩
theorem Ln.get {own : String} {idx ci k : Nat} {ty : FieldType} (h : Ln own idx ci k ty) : Lk own idx ci k := by
  obtain ⟨C, T, N, ty0, host, h1, h2, h3, h4, h5, h6, h7, h9, h10, h11⟩ := h
  exact ⟨C, T, N, h1, h2, h3, h4, h5, Or.inr ⟨host, h11⟩⟩
theorem mem_TB {w : Cond} (i : Nat) (h : lw_tbl[i]? = some w) (hg : goodWord w = true) : w ∈ TB := List.mem_filter.mpr ⟨List.mem_of_getElem? h, hg⟩
theorem mem_TBs (ws : List Cond) (ps : List Nat) (hp : ws = ps.filterMap (fun i => lw_tbl[i]?)) (h : ws.all goodWord = true) : ∀ w ∈ ws, w ∈ TB := by
  intro w hw
  have h1 := List.all_eq_true.mp h w hw
  rw [hp] at hw
  obtain ⟨i, -, hi⟩ := List.mem_filterMap.mp hw
  exact mem_TB i hi h1
theorem wd_put {D : va_G} {cy : Nat → ClassId} {base n a i : Nat} {P : rfm} {M : inm} {s : State} {H H1 : Heap} {z : Int} (h : Wd D cy base n P M s H) (ha : a < n) (hz : inR z) (hP : va_P D vwCl (wsOf base cy n P (up2 M a i z)) H1) (hs : n < 303 → H1.size = H.size) : Wd D cy base n P (up2 M a i z) s H1 := by
  refine ⟨h.1, hP, fun hn => (hs hn).trans (h.2.2.1 hn), fun k j => ?_, fun k j hk => ?_⟩
  · unfold up2
    split
    · exact hz
    · exact h.2.2.2.1 k j
  · unfold up2
    rw [if_neg (by omega)]
    exact h.2.2.2.2 k j hk
theorem wd_putR {D : va_G} {cy : Nat → ClassId} {base n a i : Nat} {P : rfm} {M : inm} {s : State} {H H1 : Heap} {r : Option Nat} (h : Wd D cy base n P M s H) (ha : a < n) (hP : va_P D vwCl (wsOf base cy n (up2 P a i r) M) H1) (hs : n < 303 → H1.size = H.size) : Wd D cy base n (up2 P a i r) M s H1 := by
  refine ⟨h.1, hP, fun hn => (hs hn).trans (h.2.2.1 hn), h.2.2.2.1, fun k j hk => ?_⟩
  unfold up2
  rw [if_neg (by omega)]
  exact h.2.2.2.2 k j hk
section PutZ
variable {p : Program} {l : Launch} {e : Env} {R : Room} {s : State} {m : MethodId} {args : Array Value} {below : List Frame} {meth : Method} {c : Code} {H : Heap} {locs : List Loc} {cells slots : Nat} {Q : State → Prop} {cc : ByteArray} {pc : Nat} {ls : Array Slot} {rest : List Value} {D : va_G} {cl : List vw_C} {A : Nat → Prop} {a : Nat} {tys : List (ClassId × FieldType)} {ws : va_W} {H0 : Heap}
/-- a field is put; the heap keeps its size -/
theorem put_z (hx : p.tables.exec = Jvm.exec) (hb : c.code = cc) {own C : String} {T : u_T} {N ci idx : Nat} (hts : ∀ w ∈ TB, w.before args s = true) (hin : ∀ w ∈ u_ws C T N, w ∈ TB) (ty0 : Nat → FieldType) (hty : ∀ k, k < N → parseFieldDescriptor (T k).2.2.1 = some (ty0 k)) (hnm : ∀ a, a < N → ∀ b, b < N → a ≠ b → (T a).2.1 ≠ (T b).2.1) (hown : s.vm.findClass own = some m.cls) (hK : va_K D cl tys s) (hP : va_P D cl ws H) (hD : va_D A ws) (hS : va_S A H0 H locs) (q0 : Nat) {fs : List Value} (he : ws[q0]? = some (a, .inr (ci, fs))) (hc : cl[ci]? = some (C, T, N)) (k : Nat) (hk : k < N) (hlink : (Cond.fieldLink own idx (T k).1 (T k).2.1 (T k).2.2.1).before args s = true) (hf : (T k).2.2.2 = false ∨ ((T k).2.2.2 = true ∧ meth.name = "<init>" ∧ (T k).1 = own)) {ty : FieldType} {v : Value} (hd : parseFieldDescriptor (T k).2.2.1 = some ty) (hn : narrow ty v = v) (hfit : fits ty v = true) (hl : k < fs.length) (d : decode cc pc = .ok (.putfield idx, 3))
    (kk : ∀ (H1 : Heap) (locs1 : List Loc), va_P D cl (ws.set q0 (a, .inr (ci, fs.set k v))) H1 → va_S A H0 H1 locs1 → H1.size = H.size → W p l e R s m args below meth c H1 locs1 cells slots Q (F0 m (pc + 3) ls rest)) : W p l e R s m args below meth c H locs cells slots Q (F0 m pc ls (v :: .ref a :: rest)) := by
  have hap := va_apart (own := own) hts hin ty0 hty hnm hK hc
  obtain ⟨r, h1, cell, q1, q2, q3, q4⟩ := hP q0 _ he
  have hr : r = (C, T, N) := Option.some.inj (h1.symm.trans hc)
  subst hr
  obtain ⟨hSl, hfc, kC, hkC, hkind⟩ := hK.1 ci _ hc
  obtain ⟨cf, kf, fi, f, hi, hsl⟩ := hSl k hk
  have hlay := hts _ (hin _ (u_in_lay hk))
  unfold u_lay at hlay
  have hst := (u_facts hfc hkC (u_lays hts hin hk) hi).1
  have last : ∀ H' : Heap, H'[a]? = some (cell.setSlot f.slot v) → H'.size = H.size → (∀ q, q ≠ a → H'[q]? = H[q]?) → W p l e R s m args below meth c H' (locs ++ [⟨a, f.slot⟩]) cells slots Q (F0 m (pc + 3) ls rest) := by
    intro H' e1 e2 e3
    rw [hsl] at e1 ⊢
    exact kk H' _ (hP.set hD he ⟨_, hc, t_OB.to (V := updV (vp_V fs) k v) ⟨_, e1, q2, q3, t_set q4 hap hk v⟩ (fun j _ => vp_updV_set hl v j)⟩ e3) (hS.put e2 e3 (hD.2 q0 _ he)) e2
  rcases hf with hfin | ⟨hfin, hin2, hdecl⟩
  · rw [if_neg (by rw [hfin]; decide)] at hlay
    have h6 := u_store hfc hkC hkind hlay hi hd hn hfit
    exact W.putK hx hb (f := f) ⟨hown, hlink, ⟨_, _, _, hi⟩, hst⟩ (by rw [q2]; exact h6) q1 q3 (by rw [hsl]; exact k2_hasslot (q4 k hk)) rfl rfl d last
  · rw [if_pos hfin] at hlay
    have hcf : m.cls = cf := by
      obtain ⟨_, _, c', _, _, _, -, -, hf', -, -, -, hown2, -⟩ := Cond.laysFinal_spec hlay
      have e1 : c' = cf := by have := hi.symm.trans hf'; simp at this; exact this.1.symm
      rw [hdecl] at hown2
      rw [← e1]; exact Option.some.inj (hown.symm.trans hown2)
    have h6 := u_fits hfc hkC hkind (Or.inr hlay) hi hd hn hfit
    exact W.putFinK hx hb hown hlink hi hst hcf hin2 (by rw [q2]; exact h6) q1 q3 (by rw [hsl]; exact k2_hasslot (q4 k hk)) rfl rfl d last
end PutZ
section GoMem
variable {S : Nat × (Nat → Int32)} {y : MethodName} {cc : ByteArray} {nL t mc ms : Nat} {ret : Option FieldType} {pc : Nat} {lv : List (Nat × PV)} {st : List PV} {n : Nat} {P : rfm} {M : inm} {Q : Post}
theorem go_getI {idx ci f a : Nat} (d : decode cc pc = .ok (.getfield idx, 3)) (hL : Lk y.cls idx ci f) (hk : kd a = ci) (ha : a < n) (hr : rfq ci f = false) (k : Go S y cc nL t mc ms ret (pc + 3) lv (vI (M a f) :: st) n P M Q) : Go S y cc nL t mc ms ret pc lv (vR a :: st) n P M Q := by
  intro p l e R s m args below meth c H locs cells slots base b D cy ls Qf hy hl ol os
  obtain ⟨C, T, N, h1, h2, h3, h4, h5, h11⟩ := hL
  have hv : (flds base P M a ci)[f]? = some (.int (Int32.ofInt (M a f))) := by rw [flds_at (by rw [h2]; exact h3), if_neg (by rw [hr]; decide)]
  have he : (wsOf base cy n P M)[a]? = some (base + a, .inr (ci, flds base P M a ci)) := by rw [ws_get ha, ent_obj hk h4]
  have hW := hy.2.2.2.1
  have K := k _ _ _ _ _ _ _ _ _ _ _ _ _ _ _ _ _ _ _ _ hy hl ol (ok_cons (v := vI (M a f)) (hW.2.2.2.1 a f) (ok_tail os))
  rcases h11 with h11 | ⟨host, h11⟩
  · exact va_get hy.1.1 hy.1.2.1 hy.1.2.2.2.2.1 h5 hy.1.2.2.2.1 hW.1 hW.2.1 a he h1 f h3 (hy.1.2.2.2.2.1 _ h11) (fun x h => h) hv d K
  · exact va_getN hy.1.1 hy.1.2.1 hy.1.2.2.2.2.1 h5 hy.1.2.2.2.1 hW.1 hW.2.1 a he h1 f h3 (hy.1.2.2.2.2.1 _ h11) (fun x h => h) hv d K
theorem go_getR {idx ci f a r : Nat} (d : decode cc pc = .ok (.getfield idx, 3)) (hL : Lk y.cls idx ci f) (hk : kd a = ci) (ha : a < n) (hr : rfq ci f = true) (hp : P a f = some r) (k : Go S y cc nL t mc ms ret (pc + 3) lv (vR r :: st) n P M Q) : Go S y cc nL t mc ms ret pc lv (vR a :: st) n P M Q := by
  intro p l e R s m args below meth c H locs cells slots base b D cy ls Qf hy hl ol os
  obtain ⟨C, T, N, h1, h2, h3, h4, h5, h11⟩ := hL
  have hv : (flds base P M a ci)[f]? = some (.ref (base + r)) := by rw [flds_at (by rw [h2]; exact h3), if_pos hr, hp]; rfl
  have he : (wsOf base cy n P M)[a]? = some (base + a, .inr (ci, flds base P M a ci)) := by rw [ws_get ha, ent_obj hk h4]
  have hW := hy.2.2.2.1
  have K := k _ _ _ _ _ _ _ _ _ _ _ _ _ _ _ _ _ _ _ _ hy hl ol (ok_cons (v := vR r) trivial (ok_tail os))
  rcases h11 with h11 | ⟨host, h11⟩
  · exact va_get hy.1.1 hy.1.2.1 hy.1.2.2.2.2.1 h5 hy.1.2.2.2.1 hW.1 hW.2.1 a he h1 f h3 (hy.1.2.2.2.2.1 _ h11) (fun x h => h) hv d K
  · exact va_getN hy.1.1 hy.1.2.1 hy.1.2.2.2.2.1 h5 hy.1.2.2.2.1 hW.1 hW.2.1 a he h1 f h3 (hy.1.2.2.2.2.1 _ h11) (fun x h => h) hv d K
theorem put_aux {p : Program} {l : Launch} {e : Env} {R : Room} {s : State} {m : MethodId} {args : Array Value} {below : List Frame} {meth : Method} {c : Code} {H : Heap} {locs : List Loc} {cells slots base b : Nat} {D : va_G} {cy : Nat → ClassId} {ls : Array Slot} {Qf : State → Prop} {idx ci f a : Nat} {fin : Bool} {ty : FieldType} {v : Value} {P' : rfm} {M' : inm} {rs : List Value} (d : decode cc pc = .ok (.putfield idx, 3)) (hL : Lp y.cls idx ci f fin ty ∨ (Ln y.cls idx ci f ty ∧ n = 303)) (hk : kd a = ci) (ha : a < n) (hf : fin = false ∨ y.name = "<init>")
    (hn : narrow ty v = v) (hfit : fits ty v = true) (hset : (flds base P M a ci).set f v = flds base P' M' a ci) (hoth : ∀ j, j ≠ a → ent base cy P' M' j = ent base cy P M j) (hW' : ∀ H1 : Heap, va_P D vwCl (wsOf base cy n P' M') H1 → (n < 303 → H1.size = H.size) → Wd D cy base n P' M' s H1)
    (hy : Hy S y cc nL t mc ms ret p l e R s m args below meth c H locs cells slots base b D cy Qf n P M Q)
    (k : ∀ (H1 : Heap) (locs1 : List Loc), Hy S y cc nL t mc ms ret p l e R s m args below meth c H1 locs1 cells slots base b D cy Qf n P' M' Q → W p l e R s m args below meth c H1 locs1 cells slots Qf (F0 m (pc + 3) ls rs)) : W p l e R s m args below meth c H locs cells slots Qf (F0 m pc ls (v :: .ref (base + a) :: rs)) := by
  have hW := hy.2.2.2.1
  have fin' : ci < 11 → ∀ (H1 : Heap) (locs1 : List Loc), va_P D vwCl ((wsOf base cy n P M).set a (base + a, .inr (ci, (flds base P M a ci).set f v))) H1 → va_S (fun q => base ≤ q) s.heap H1 locs1 → (n < 303 → H1.size = H.size) → W p l e R s m args below meth c H1 locs1 cells slots Qf (F0 m (pc + 3) ls rs) := by
    intro h4 H1 locs1 hP1 hS1 hz
    rw [ws_set (P' := P') (M' := M') ha (by rw [ent_obj hk h4, hset]) hoth] at hP1
    exact k H1 locs1 ⟨hy.1, hy.2.1, hy.2.2.1, hW' H1 hP1 hz, hS1, hy.2.2.2.2.2.1, hy.2.2.2.2.2.2⟩
  rcases hL with ⟨T, N, ty0, h1, h2, h3, h4, h5, h6, h7, h8, h9, h10, h11⟩ | ⟨⟨C, T, N, ty0, host, h1, h2, h3, h4, h5, h6, h7, h9, h10, h11⟩, hn3⟩
  · have he : (wsOf base cy n P M)[a]? = some (base + a, .inr (ci, flds base P M a ci)) := by rw [ws_get ha, ent_obj hk h4]
    have hlen : f < (flds base P M a ci).length := by rw [flds_len, h2]; exact h3
    have hd : parseFieldDescriptor (T f).2.2.1 = some ty := by rw [h6 f h3, h10]
    refine put_z hy.1.1 hy.1.2.1 hy.1.2.2.2.2.1 h5 ty0 h6 h7 hy.1.2.2.2.1 hW.1 hW.2.1 ws_D hy.2.2.2.2.1 a he h1 f h3 (hy.1.2.2.2.2.1 _ h11) ?_ hd hn hfit hlen d (fun H1 locs1 q1 q2 q3 => fin' h4 H1 locs1 q1 q2 (fun _ => q3))
    cases fin with
    | false => exact Or.inl h9
    | true => exact Or.inr ⟨h9, hy.1.2.2.2.2.2.2.2.1 (hf.resolve_left (by decide)), h8⟩
  · have he : (wsOf base cy n P M)[a]? = some (base + a, .inr (ci, flds base P M a ci)) := by rw [ws_get ha, ent_obj hk h4]
    have hlen : f < (flds base P M a ci).length := by rw [flds_len, h2]; exact h3
    have hd : parseFieldDescriptor (T f).2.2.1 = some ty := by rw [h6 f h3, h10]
    exact va_putN hy.1.1 hy.1.2.1 hy.1.2.2.2.2.1 h5 ty0 h6 h7 hy.1.2.2.2.1 hW.1 hW.2.1 ws_D hy.2.2.2.2.1 a he h1 f h3 (hy.1.2.2.2.2.1 _ h11) (fun x h => h) h9 hd hn hfit hlen d (fun H1 locs1 q1 _ q2 => fin' h4 H1 locs1 q1 q2 (fun h => absurd h (by omega)))
theorem go_putI {idx ci f a : Nat} {z : Int} {fin : Bool} (d : decode cc pc = .ok (.putfield idx, 3)) (hL : Lp y.cls idx ci f fin .int ∨ (Ln y.cls idx ci f .int ∧ n = 303)) (hk : kd a = ci) (ha : a < n) (hr : rfq ci f = false) (hf : fin = false ∨ y.name = "<init>") (k : Go S y cc nL t mc ms ret (pc + 3) lv st n P (up2 M a f z) Q) : Go S y cc nL t mc ms ret pc lv (vI z :: vR a :: st) n P M Q := by
  intro p l e R s m args below meth c H locs cells slots base b D cy ls Qf hy hl ol os
  exact put_aux d hL hk ha hf rfl rfl (flds_setI hr) (fun j hj => ent_otherI hj) (fun H1 hP hz => wd_put hy.2.2.2.1 ha (ok_head os) hP hz) hy (fun H1 locs1 hy1 => k _ _ _ _ _ _ _ _ _ _ _ _ _ _ _ _ _ _ _ _ hy1 hl ol (ok_tail (ok_tail os)))
theorem nar_bool {z : Int} (h : z = 0 ∨ z = 1) : narrow .boolean (.int (Int32.ofInt z)) = .int (Int32.ofInt z) := by
  rcases h with rfl | rfl <;> rfl
theorem go_putZ {idx ci f a : Nat} {z : Int} {fin : Bool} (d : decode cc pc = .ok (.putfield idx, 3)) (hL : Lp y.cls idx ci f fin .boolean ∨ (Ln y.cls idx ci f .boolean ∧ n = 303)) (hk : kd a = ci) (ha : a < n) (hr : rfq ci f = false) (hf : fin = false ∨ y.name = "<init>") (h01 : z = 0 ∨ z = 1) (k : Go S y cc nL t mc ms ret (pc + 3) lv st n P (up2 M a f z) Q) : Go S y cc nL t mc ms ret pc lv (vI z :: vR a :: st) n P M Q := by
  intro p l e R s m args below meth c H locs cells slots base b D cy ls Qf hy hl ol os
  exact put_aux d hL hk ha hf (nar_bool h01) (by rcases h01 with rfl | rfl <;> rfl) (flds_setI hr) (fun j hj => ent_otherI hj) (fun H1 hP hz => wd_put hy.2.2.2.1 ha (ok_head os) hP hz) hy (fun H1 locs1 hy1 => k _ _ _ _ _ _ _ _ _ _ _ _ _ _ _ _ _ _ _ _ hy1 hl ol (ok_tail (ok_tail os)))
theorem go_putR {idx ci f a r : Nat} {fin : Bool} {ty : FieldType} (d : decode cc pc = .ok (.putfield idx, 3)) (hL : Lp y.cls idx ci f fin ty ∨ (Ln y.cls idx ci f ty ∧ n = 303)) (hty : ty.isReference = true) (hk : kd a = ci) (ha : a < n) (hr : rfq ci f = true) (hf : fin = false ∨ y.name = "<init>") (k : Go S y cc nL t mc ms ret (pc + 3) lv st n (up2 P a f (some r)) M Q) : Go S y cc nL t mc ms ret pc lv (vR r :: vR a :: st) n P M Q := by
  intro p l e R s m args below meth c H locs cells slots base b D cy ls Qf hy hl ol os
  exact put_aux d hL hk ha hf (by cases ty <;> first | rfl | cases hty) (by cases ty <;> first | rfl | cases hty) (flds_setR hr) (fun j hj => ent_otherR hj) (fun H1 hP hz => wd_putR hy.2.2.2.1 ha hP hz) hy (fun H1 locs1 hy1 => k _ _ _ _ _ _ _ _ _ _ _ _ _ _ _ _ _ _ _ _ hy1 hl ol (ok_tail (ok_tail os)))
theorem go_iaload {a : Nat} {i : Int} (d : decode cc pc = .ok (.iaload, 1)) (hk : kd a = 11) (ha : a < n) (h0 : 0 ≤ i) (h1 : i < (ln a : Int)) (k : Go S y cc nL t mc ms ret (pc + 1) lv (vI (M a i.toNat) :: st) n P M Q) : Go S y cc nL t mc ms ret pc lv (vI i :: vR a :: st) n P M Q := by
  intro p l e R s m args below meth c H locs cells slots base b D cy ls Qf hy hl ol os
  have hi : inR i := ok_head os
  have hW := hy.2.2.2.1
  refine va_iald hy.1.1 hy.1.2.1 hW.1 hW.2.1 a 0 (f := fun i => Int32.ofInt (M a i)) (by rw [ws_get ha, ent_ints hk]) rfl (oi_in hi h0 h1) d ?_
  rw [oi_clamp hi]
  exact k _ _ _ _ _ _ _ _ _ _ _ _ _ _ _ _ _ _ _ _ hy hl ol (ok_cons (v := vI (M a i.toNat)) (hW.2.2.2.1 _ _) (ok_tail (ok_tail os)))
theorem go_baload {a : Nat} {i : Int} (d : decode cc pc = .ok (.baload, 1)) (hk : kd a = 12) (ha : a < n) (h0 : 0 ≤ i) (h1 : i < (ln a : Int)) (k : Go S y cc nL t mc ms ret (pc + 1) lv (vI (M a i.toNat) :: st) n P M Q) : Go S y cc nL t mc ms ret pc lv (vI i :: vR a :: st) n P M Q := by
  intro p l e R s m args below meth c H locs cells slots base b D cy ls Qf hy hl ol os
  have hi : inR i := ok_head os
  have hW := hy.2.2.2.1
  refine va_zald hy.1.1 hy.1.2.1 hW.1 hW.2.1 a 1 (f := fun i => Int32.ofInt (M a i)) (by rw [ws_get ha, ent_bools hk]) rfl (oi_in hi h0 h1) d ?_
  rw [oi_clamp hi]
  exact k _ _ _ _ _ _ _ _ _ _ _ _ _ _ _ _ _ _ _ _ hy hl ol (ok_cons (v := vI (M a i.toNat)) (hW.2.2.2.1 _ _) (ok_tail (ok_tail os)))
theorem go_aaload {a r c0 : Nat} {i : Int} (d : decode cc pc = .ok (.aaload, 1)) (hk : kd a = c0 + 11) (hc : 2 ≤ c0) (hc2 : c0 < 5) (ha : a < n) (h0 : 0 ≤ i) (h1 : i < (ln a : Int)) (hp : P a i.toNat = some r) (k : Go S y cc nL t mc ms ret (pc + 1) lv (vR r :: st) n P M Q) : Go S y cc nL t mc ms ret pc lv (vI i :: vR a :: st) n P M Q := by
  intro p l e R s m args below meth c H locs cells slots base b D cy ls Qf hy hl ol os
  have hi : inR i := ok_head os
  have hW := hy.2.2.2.1
  have hin := oi_in hi h0 h1
  have ha' : (wsOf base cy n P M)[a]? = some (base + a, .inl (cy c0, ln a, .inr (.inr (.inr (.inr (fun i => (P a i).map (fun r => base + r))))))) := by rw [ws_get ha, ent_refs hk hc]
  have hlt : (Int32.ofInt i).toNatClampNeg < ln a := Nat.not_le.mp fun q => hin (Or.inr q)
  obtain ⟨ty, hty, htr⟩ : ∃ ty : FieldType, (tysOf cy)[c0]? = some (cy c0, ty) ∧ ty.isReference = true := by
    rcases (show c0 = 2 ∨ c0 = 3 ∨ c0 = 4 by omega) with rfl | rfl | rfl <;> exact ⟨_, rfl, rfl⟩
  refine W.aald (v := .ref (base + r)) (ty := ty) hy.1.1 hy.1.2.1 (hW.2.1 a _ ha') ((hW.1.2 c0 _ hty).1 (ln a) (fun j => va_rf ((P a j).map (fun r => base + r)))) htr (fun q => by cases q) (by show ¬ (Int32.ofInt i < 0 ∨ (arrV _ _ _).slots.size ≤ _); rw [arrV_size]; exact hin) ?_ rfl rfl d (k _ _ _ _ _ _ _ _ _ _ _ _ _ _ _ _ _ _ _ _ hy hl ol (ok_cons (v := vR r) trivial (ok_tail (ok_tail os))))
  show (arrV _ _ _).slots[_]? = _
  rw [arrV_read _ _ hlt, oi_clamp hi]
  show some (va_rf ((P a i.toNat).map (fun r => base + r))) = _
  rw [hp]
  rfl
theorem cell_upd (cA : ClassId) (N : Nat) (M : inm) (a : Nat) (i : Nat) (z : Int) : (vp_cell cA (N, .inl (fun j => Int32.ofInt (M a j)))).setSlot i (.int (Int32.ofInt z)) = vp_cell cA (N, .inl (fun j => Int32.ofInt (up2 M a i z a j))) := by
  rw [vp_cell_i, vp_cell_i, arrV_store]
  congr 2
  funext q
  by_cases hq : q = i
  · subst hq
    simp [updV, up2]
  · simp [updV, up2, hq]
theorem go_iastore {a : Nat} {i z : Int} (d : decode cc pc = .ok (.iastore, 1)) (hk : kd a = 11) (ha : a < n) (h0 : 0 ≤ i) (h1 : i < (ln a : Int)) (k : Go S y cc nL t mc ms ret (pc + 1) lv st n P (up2 M a i.toNat z) Q) : Go S y cc nL t mc ms ret pc lv (vI z :: vI i :: vR a :: st) n P M Q := by
  intro p l e R s m args below meth c H locs cells slots base b D cy ls Qf hy hl ol os
  have hi : inR i := ok_head (ok_tail os)
  have hW := hy.2.2.2.1
  have hin := oi_in hi h0 h1
  have ha' : (wsOf base cy n P M)[a]? = some (base + a, .inl (cy 0, ln a, .inl (fun i => Int32.ofInt (M a i)))) := by rw [ws_get ha, ent_ints hk]
  refine W.iast hy.1.1 hy.1.2.1 (hW.2.1 a _ ha') ((hW.1.2 0 _ rfl).1 (ln a) (fun j => .int (Int32.ofInt (M a j)))) (fun q => by cases q) (by show ¬ (Int32.ofInt i < 0 ∨ (arrV _ _ _).slots.size ≤ _); rw [arrV_size]; exact hin) rfl rfl d fun H1 e1 z1 oq => ?_
  rw [oi_clamp hi] at e1
  have e2 : H1[base + a]? = some (vp_cell (cy 0) (ln a, .inl (fun j => Int32.ofInt (up2 M a i.toNat z a j)))) := by rw [e1]; exact congrArg some (cell_upd _ _ _ _ _ _)
  have hP1 : va_P D vwCl ((wsOf base cy n P M).set a (base + a, .inl (cy 0, ln a, .inl (fun j => Int32.ofInt (up2 M a i.toNat z a j))))) H1 := hW.2.1.set ws_D ha' e2 oq
  rw [ws_set (P' := P) (M' := up2 M a i.toNat z) ha (ent_ints hk) (fun j hj => ent_otherI hj)] at hP1
  exact k _ _ _ _ _ _ _ _ _ _ H1 _ _ _ _ _ _ _ _ _ ⟨hy.1, hy.2.1, hy.2.2.1, wd_put hW ha (ok_head os) hP1 (fun _ => z1), hy.2.2.2.2.1.put z1 oq (Nat.le_add_right base a), hy.2.2.2.2.2.1, hy.2.2.2.2.2.2⟩ hl ol (ok_tail (ok_tail (ok_tail os)))
theorem go_bastore {a : Nat} {i z : Int} (d : decode cc pc = .ok (.bastore, 1)) (hk : kd a = 12) (ha : a < n) (hn3 : n = 303) (h0 : 0 ≤ i) (h1 : i < (ln a : Int)) (h01 : z = 0 ∨ z = 1) (k : Go S y cc nL t mc ms ret (pc + 1) lv st n P (up2 M a i.toNat z) Q) : Go S y cc nL t mc ms ret pc lv (vI z :: vI i :: vR a :: st) n P M Q := by
  intro p l e R s m args below meth c H locs cells slots base b D cy ls Qf hy hl ol os
  have hi : inR i := ok_head (ok_tail os)
  have hW := hy.2.2.2.1
  have ha' : (wsOf base cy n P M)[a]? = some (base + a, .inl (cy 1, ln a, .inl (fun i => Int32.ofInt (M a i)))) := by rw [ws_get ha, ent_bools hk]
  refine va_zast hy.1.1 hy.1.2.1 hW.1 hW.2.1 ws_D hy.2.2.2.2.1 a 1 ha' rfl (oi_in hi h0 h1) d (fun H1 locs1 hP1 _ hS1 => ?_)
  have hv : vp_nar .boolean (Int32.ofInt z) = Int32.ofInt z := by rcases h01 with rfl | rfl <;> rfl
  rw [ws_set (P' := P) (M' := up2 M a i.toNat z) ha (by rw [ent_bools hk, oi_clamp hi, hv]; congr 4; funext q; unfold upd up2; by_cases hq : q = i.toNat <;> simp [hq]) (fun j hj => ent_otherI hj)] at hP1
  exact k _ _ _ _ _ _ _ _ _ _ H1 _ _ _ _ _ _ _ _ _ ⟨hy.1, hy.2.1, hy.2.2.1, wd_put hW ha (ok_head os) hP1 (fun h => absurd h (by omega)), hS1, hy.2.2.2.2.2.1, hy.2.2.2.2.2.2⟩ hl ol (ok_tail (ok_tail (ok_tail os)))
theorem go_alen {a c0 : Nat} (d : decode cc pc = .ok (.arraylength, 1)) (hk : kd a = c0 + 11) (hc : c0 < 2) (ha : a < n) (hl9 : ln a < 10000) (k : Go S y cc nL t mc ms ret (pc + 1) lv (vI (ln a : Int) :: st) n P M Q) : Go S y cc nL t mc ms ret pc lv (vR a :: st) n P M Q := by
  intro p l e R s m args below meth c H locs cells slots base b D cy ls Qf hy hl ol os
  have hW := hy.2.2.2.1
  have hR : inR (ln a : Int) := ⟨by omega, by omega⟩
  have K := k _ _ _ _ _ _ _ _ _ _ _ _ _ _ _ _ _ _ _ _ hy hl ol (ok_cons (v := vI (ln a : Int)) hR (ok_tail os))
  have hv : Int32.ofNat (ln a) = Int32.ofInt (ln a : Int) := Int32.ofInt_eq_ofNat.symm
  rcases (show c0 = 0 ∨ c0 = 1 by omega) with rfl | rfl
  · exact va_alen hy.1.1 hy.1.2.1 hW.1 hW.2.1 a 0 (x := (ln a, .inl (fun i => Int32.ofInt (M a i)))) (by rw [ws_get ha, ent_ints hk]) rfl hv d K
  · exact va_alen hy.1.1 hy.1.2.1 hW.1 hW.2.1 a 1 (x := (ln a, .inl (fun i => Int32.ofInt (M a i)))) (by rw [ws_get ha, ent_bools hk]) rfl hv d K
/-- the script -/
theorem go_sload {i : Int} (d : decode cc pc = .ok (.iaload, 1)) (hy0 : y.cls = "OnionProbateLaw") (h0 : 0 ≤ i) (h1 : i < (S.1 : Int)) (k : Go S y cc nL t mc ms ret (pc + 1) lv (vI (S.2 i.toNat).toInt :: st) n P M Q) : Go S y cc nL t mc ms ret pc lv (vI i :: vS :: st) n P M Q := by
  intro p l e R s m args below meth c H locs cells slots base b D cy ls Qf hy hl ol os
  have hi : inR i := ok_head os
  obtain ⟨hX, hbb⟩ := hy.2.1 hy0
  refine va_sld hy.1.1 hy.1.2.1 hX (Nat.lt_of_lt_of_le hbb hy.2.2.1) (Nat.not_le.mpr hbb) hy.2.2.2.2.1 (oi_in hi h0 h1) d ?_
  rw [oi_clamp hi]
  have K := k _ _ _ _ _ _ _ _ _ _ _ _ _ _ _ _ _ _ _ _ hy hl ol (ok_cons (v := vI (S.2 i.toNat).toInt) (oi_range _) (ok_tail (ok_tail os)))
  have e : rv base b (vI (S.2 i.toNat).toInt) = .int (S.2 i.toNat) := congrArg Value.int (Int32.ofInt_toInt _)
  rw [List.map_cons, e] at K
  exact K
theorem go_slen (d : decode cc pc = .ok (.arraylength, 1)) (hy0 : y.cls = "OnionProbateLaw") (hS : S.1 < 10000) (k : Go S y cc nL t mc ms ret (pc + 1) lv (vI (S.1 : Int) :: st) n P M Q) : Go S y cc nL t mc ms ret pc lv (vS :: st) n P M Q := by
  intro p l e R s m args below meth c H locs cells slots base b D cy ls Qf hy hl ol os
  obtain ⟨hX, hbb⟩ := hy.2.1 hy0
  refine va_slen hy.1.1 hy.1.2.1 hX (Nat.lt_of_lt_of_le hbb hy.2.2.1) (Nat.not_le.mpr hbb) hy.2.2.2.2.1 d ?_
  have K := k _ _ _ _ _ _ _ _ _ _ _ _ _ _ _ _ _ _ _ _ hy hl ol (ok_cons (v := vI (S.1 : Int)) ⟨by omega, by omega⟩ (ok_tail os))
  have e : rv base b (vI (S.1 : Int)) = .int (Int32.ofNat S.1) := congrArg Value.int Int32.ofInt_eq_ofNat
  rw [List.map_cons, e] at K
  exact K
end GoMem
end
section
/-! ===== rows of the judgement: calls ===== -/
def cp2 (M : inm) (a0 sp a1 dp len : Nat) : inm := fun x j => if x = a1 ∧ dp ≤ j ∧ j < dp + len then M a0 (sp + (j - dp)) else M x j
def w_copy : List Cond := [.native arraycopyName, .static arraycopyName, .initialized "java/lang/System"]
def w_math : List Cond := [.static Lib.Math.min.name, .static Lib.Math.max.name, .initialized "java/lang/Math", .code Lib.Math.min.name Lib.Math.min.code 2 (some .int), .code Lib.Math.max.name Lib.Math.max.code 2 (some .int)]
def w_obj : List Cond := [.instanceMethod Lib.objectInit, .code Lib.objectInit ⟨#[0xb1]⟩ 1 none]
/-- room: t frames, 35 words for each -/
abbrev rmOf (t mc ms : Nat) : Room := { frames := t, cells := mc, slots := ms, locals := 35 * t }
def OkI (y : MethodName) (cc : ByteArray) (nL t mc ms : Nat) (ret : Option FieldType) (av : List PV) (n : Nat) (P : rfm) (M : inm) (Q : Int → Nat → rfm → inm → Prop) : Prop :=
  ∀ (l : Launch) (base b : Nat) (D : va_G) (cy : Nat → ClassId), (∀ v ∈ av, okV v) → Met l y (Cond.code y cc nL ret :: TB) (rmOf t mc ms) (va_Pc (av.map (rv base b)) (fun U => base ≤ U.heap.size ∧ Wd D cy base n P M U U.heap)) (va_Qi (S := Nat × rfm × inm) (fun r u => ∃ z : Int, r = Int32.ofInt z ∧ inR z ∧ Q z u.1 u.2.1 u.2.2) (fun u t => Wd D cy base u.1 u.2.1 u.2.2 t t.heap) (fun q => base ≤ q)) mc ms (fun q => base ≤ q)
def OkV (y : MethodName) (cc : ByteArray) (nL t mc ms : Nat) (av : List PV) (n : Nat) (P : rfm) (M : inm) (Q : Nat → rfm → inm → Prop) : Prop :=
  ∀ (l : Launch) (base b : Nat) (D : va_G) (cy : Nat → ClassId), (∀ v ∈ av, okV v) → Met l y (Cond.code y cc nL none :: TB) (rmOf t mc ms) (va_Pc (av.map (rv base b)) (fun U => base ≤ U.heap.size ∧ Wd D cy base n P M U U.heap)) (va_Qv (S := Nat × rfm × inm) (fun u => Q u.1 u.2.1 u.2.2) (fun u t => Wd D cy base u.1 u.2.1 u.2.2 t t.heap) (fun q => base ≤ q)) mc ms (fun q => base ≤ q)
def avl : Nat → List PV → List (Nat × PV)
  | _, [] => []
  | i, v :: vs => (i, v) :: avl (if isL v = true then i + 2 else i + 1) vs
theorem avl_map (base b : Nat) : ∀ (av : List PV) (i : Nat), (avl i av).map (fun q => (q.1, rv base b q.2)) = lv_args i (av.map (rv base b))
  | [], i => rfl
  | v :: vs, i => by
    show (i, rv base b v) :: (avl _ vs).map _ = (i, rv base b v) :: lv_args _ (vs.map (rv base b))
    have h := rv_cat base b v
    have e : (if isL v = true then i + 2 else i + 1) = (if (rv base b v).category = 2 then i + 2 else i + 1) := by
      rw [← h]
      simp
    rw [e, avl_map base b vs]
theorem avl_mem : ∀ (av : List PV) (i : Nat) (q : Nat × PV), q ∈ avl i av → q.2 ∈ av
  | [], i, q, h => by cases h
  | v :: vs, i, q, h => by
    rcases List.mem_cons.mp h with rfl | h
    · exact List.mem_cons_self
    · exact List.mem_cons_of_mem _ (avl_mem vs _ q h)
def avw (av : List PV) : Nat := (av.map (fun v => if isL v = true then 2 else 1)).sum
theorem avw_len (base b : Nat) : ∀ av : List PV, (lg_sl (av.map (rv base b))).length = avw av
  | [] => rfl
  | v :: vs => by
    have h := rv_cat base b v
    have ih := avw_len base b vs
    show (List.flatMap _ (rv base b v :: vs.map (rv base b))).length = (List.map _ (v :: vs)).sum
    rw [List.flatMap_cons, List.length_append, List.map_cons, List.sum_cons]
    show _ + (lg_sl (vs.map (rv base b))).length = _ + avw vs
    rw [ih]
    congr 1
    cases hv : isL v with
    | true => rw [hv] at h; simp at h; simp [h]
    | false => rw [hv] at h; simp at h; simp [h]
theorem Wd.moved {D : va_G} {cy : Nat → ClassId} {base n : Nat} {P : rfm} {M : inm} {u U : State} {H : Heap} (hvm : u.vm.Alike U.vm) (h : Wd D cy base n P M u H) : Wd D cy base n P M U H := ⟨va_K.moved hvm h.1, h.2⟩
abbrev S0 : Nat × (Nat → Int32) := (0, fun _ => 0)
theorem OkI.of {y : MethodName} {cc : ByteArray} {nL t mc ms : Nat} {ty : FieldType} {av : List PV} {n : Nat} {P : rfm} {M : inm} {Q : Int → Nat → rfm → inm → Prop} (hp : plainName y.cls = true) (hlaw : y.cls ≠ "OnionProbateLaw") (hw : avw av ≤ nL) (k : Go S0 y cc nL t mc ms (some ty) 0 (avl 0 av) [] n P M (fun v n P M => ∃ z, v = some (vI z) ∧ Q z n P M)) : OkI y cc nL t mc ms (some ty) av n P M Q := by
  intro l base b D cy oav
  refine Met.ofW (cc := cc) (maxL := nL) (ret := some ty) hp rfl ?_
  intro p e s m args below meth c s₁ B hml hv
  obtain ⟨rfl, hbase, hW⟩ := hv
  have hts := atoms_spec (ws := Cond.code y cc nL (some ty) :: TB) B.pre
  have hl := lv_entry (av.map (rv base b)) (n := nL) (by rw [avw_len]; exact hw)
  rw [lg_entry_eq]
  rw [← avl_map] at hl
  refine k p l e _ s m _ below meth c s.heap [] 0 0 base b D cy _ _ ⟨⟨B.exec, B.bytes, hml, findClass_of_methodNamed B.named, fun w h => hts w (List.mem_cons_of_mem _ h), B.returns, B.notSynchronized, fun h => ((name_of_methodNamed B.named B.method).1).trans h, Nat.le_refl _, Nat.le_refl _⟩, fun h => absurd h hlaw, hbase, hW, va_S.rf, ⟨by show 0 + mc ≤ mc; omega, by show 0 + ms ≤ ms; omega⟩, ?_⟩ hl (fun q hq => oav _ (avl_mem av 0 q hq)) (fun v h => by cases h)
  intro v n' P' M' H' locs cells slots pc ls hq hW' hS' hc hs ok hr
  obtain ⟨z, rfl, hq⟩ := hq
  refine W.widen (k := mc) (n := ms) hc hs ?_
  exact W.zret B.exec B.bytes B.returns hr.2 (fun t ht hWm => ⟨⟨Int32.ofInt z, (n', P', M'), rfl, ⟨z, rfl, ok _ List.mem_cons_self, hq⟩, by show Wd D cy base n' P' M' t t.heap; rw [ht]; exact hW'.moved hWm.alike⟩, hS'.F ht⟩) hS'.2.2 hr.1 B.notSynchronized
theorem OkV.of {y : MethodName} {cc : ByteArray} {nL t mc ms : Nat} {av : List PV} {n : Nat} {P : rfm} {M : inm} {Q : Nat → rfm → inm → Prop} (hp : plainName y.cls = true) (hlaw : y.cls ≠ "OnionProbateLaw") (hw : avw av ≤ nL) (k : Go S0 y cc nL t mc ms none 0 (avl 0 av) [] n P M (fun v n P M => v = none ∧ Q n P M)) : OkV y cc nL t mc ms av n P M Q := by
  intro l base b D cy oav
  refine Met.ofW (cc := cc) (maxL := nL) (ret := none) hp rfl ?_
  intro p e s m args below meth c s₁ B hml hv
  obtain ⟨rfl, hbase, hW⟩ := hv
  have hts := atoms_spec (ws := Cond.code y cc nL none :: TB) B.pre
  have hl := lv_entry (av.map (rv base b)) (n := nL) (by rw [avw_len]; exact hw)
  rw [lg_entry_eq]
  rw [← avl_map] at hl
  refine k p l e _ s m _ below meth c s.heap [] 0 0 base b D cy _ _ ⟨⟨B.exec, B.bytes, hml, findClass_of_methodNamed B.named, fun w h => hts w (List.mem_cons_of_mem _ h), B.returns, B.notSynchronized, fun h => ((name_of_methodNamed B.named B.method).1).trans h, Nat.le_refl _, Nat.le_refl _⟩, fun h => absurd h hlaw, hbase, hW, va_S.rf, ⟨by show 0 + mc ≤ mc; omega, by show 0 + ms ≤ ms; omega⟩, ?_⟩ hl (fun q hq => oav _ (avl_mem av 0 q hq)) (fun v h => by cases h)
  intro v n' P' M' H' locs cells slots pc ls hq hW' hS' hc hs ok hr
  obtain ⟨rfl, hq⟩ := hq
  refine W.widen (k := mc) (n := ms) hc hs ?_
  exact W.vret B.exec B.bytes B.returns (fun t ht hWm => ⟨⟨(n', P', M'), rfl, hq, by show Wd D cy base n' P' M' t t.heap; rw [ht]; exact hW'.moved hWm.alike⟩, hS'.F ht⟩) hS'.2.2 hr B.notSynchronized
/-- how a call's words lie in the tables: kind 0 virtual, 1 static, 2 constructor -/
def Cw (kind : Nat) (own : String) (idx : Nat) (y : MethodName) (cc : ByteArray) (nL : Nat) (ret : Option FieldType) (np : Nat) : Prop :=
  Cond.code y cc nL ret ∈ TB ∧ Cond.initialized y.cls ∈ TB ∧ (y.cls ≠ "java/lang/invoke/MethodHandle" ∧ y.cls ≠ "java/lang/invoke/VarHandle" ∧ (parseMethodDescriptor y.desc).map (fun d => d.parameters.length) = some np) ∧ nL ≤ 16 ∧ (Cond.methodLink own idx y ∈ TB ∨ ∃ host, Cond.methodLinkNest own idx y host ∈ TB) ∧ (kind = 0 → Cond.instanceMethod y ∈ TB ∧ Cond.selects y.cls y y ∈ TB) ∧ (kind = 1 → Cond.static y ∈ TB) ∧ (kind = 2 → y.name = "<init>" ∧ Cond.instanceMethod y ∈ TB)
theorem good_TB {w : Cond} (h : w ∈ TB) : (w.onTables && w.keeps) = true ∨ ∃ ty, w = .arrayClass ty := good_of_word (List.mem_filter.mp h).2
theorem good_cons {w : Cond} (h : w ∈ TB) : GoodIn TB (w :: TB) := fun x hx => by
  rcases List.mem_cons.mp hx with rfl | hx
  · exact ⟨h, good_TB h⟩
  · exact ⟨hx, good_TB hx⟩
theorem st_room {base b : Nat} {st : List PV} (h : avw st ≤ 8) : ((st.map (rv base b)).map fun v => v.category).sum ≤ 8 := by
  refine Nat.le_trans (Nat.le_of_eq ?_) h
  unfold avw
  rw [List.map_map]
  congr 1
  apply List.map_congr_left
  intro v _
  match v with
  | .inl _ => rfl
  | .inr (.inl _) => rfl
  | .inr (.inr (.inl _)) => rfl
  | .inr (.inr (.inr _)) => rfl
section GoCall
variable {S : Nat × (Nat → Int32)} {y : MethodName} {cc : ByteArray} {nL t mc ms : Nat} {ret : Option FieldType} {pc : Nat} {lv : List (Nat × PV)} {st : List PV} {n : Nat} {P : rfm} {M : inm} {Q : Post}
theorem blindI {base n b : Nat} {P : rfm} {M : inm} {D : va_G} {cy : Nat → ClassId} {av : List PV} : FrameBlind (va_Pc (av.map (rv base b)) (fun U => base ≤ U.heap.size ∧ Wd D cy base n P M U U.heap)) := by
  intro a U g mk q
  obtain ⟨q0, q1, q2⟩ := q
  exact ⟨q0, q1, q2.moved (u := U) (U := U.calling g mk a) (Vm.Alike.refl U.vm)⟩
theorem ok_app {av st : List PV} {r : PV} (h : ∀ v ∈ av.reverse ++ r :: st, okV v) : (∀ v ∈ r :: av, okV v) ∧ ∀ v ∈ st, okV v := by
  refine ⟨fun v hv => h v ?_, fun v hv => h v ?_⟩
  · rcases List.mem_cons.mp hv with rfl | hv
    · exact List.mem_append_right _ List.mem_cons_self
    · exact List.mem_append_left _ (List.mem_reverse.mpr hv)
  · exact List.mem_append_right _ (List.mem_cons_of_mem _ hv)
theorem ok_appS {av st : List PV} (h : ∀ v ∈ av.reverse ++ st, okV v) : (∀ v ∈ av, okV v) ∧ ∀ v ∈ st, okV v :=
  ⟨fun v hv => h v (List.mem_append_left _ (List.mem_reverse.mpr hv)), fun v hv => h v (List.mem_append_right _ hv)⟩
theorem go_recv {D : va_G} {cy : Nat → ClassId} {base a ci : Nat} {s : State} {H : Heap} {C : String} {T : u_T} {N : Nat} (hW : Wd D cy base n P M s H) (hk : kd a = ci) (hc : ci < 11) (hv : vwCl[ci]? = some (C, T, N)) (ha : a < n) : ∃ cell : Cell, H[base + a]? = some cell ∧ cell.vm.isStatics = false ∧ s.vm.findClass C = some cell.cls :=
  va_recv hW.1 hW.2.1 hv (q0 := a) (fs := flds base P M a ci) (by rw [ws_get ha, ent_obj hk hc])
/-- what a caller goes on with -/
theorem hy_back {p : Program} {l : Launch} {e : Env} {R : Room} {s : State} {m : MethodId} {args : Array Value} {below : List Frame} {meth : Method} {c : Code} {H H1 : Heap} {locs locs1 : List Loc} {cells slots base b mc1 ms1 mc2 ms2 : Nat} {D : va_G} {cy : Nat → ClassId} {Qf : State → Prop} {n1 : Nat} {P1 : rfm} {M1 : inm} {t1 : State} (hy : Hy S y cc nL t mc ms ret p l e R s m args below meth c H locs cells slots base b D cy Qf n P M Q) (hm : mc = mc1 + mc2) (hs : ms = ms1 + ms2) (ht : t1.heap = H1) (hvm : s.vm.Alike t1.vm) (hB : Wd D cy base n1 P1 M1 t1 t1.heap) (hS : va_S (fun q => base ≤ q) s.heap H1 locs1) : Hy S y cc nL t mc2 ms2 ret p l e R s m args below meth c H1 locs1 (cells + mc1) (slots + ms1) base b D cy Qf n1 P1 M1 Q := by
  rw [ht] at hB
  have h5 := hy.2.2.2.2.2.1
  exact ⟨hy.1, hy.2.1, hy.2.2.1, hB.moved hvm.symm, hS, ⟨by omega, by omega⟩, hy.2.2.2.2.2.2⟩
theorem cw_B {kind idx np nL' t' mc1 ms1 : Nat} {y' : MethodName} {cc' : ByteArray} {ret' : Option FieldType} {R : Room} {s : State} {args : Array Value} {own : String} (hc : Cond.code y' cc' nL' ret' ∈ TB ∧ Cond.initialized y'.cls ∈ TB ∧ (y'.cls ≠ "java/lang/invoke/MethodHandle" ∧ y'.cls ≠ "java/lang/invoke/VarHandle" ∧ (parseMethodDescriptor y'.desc).map (fun d => d.parameters.length) = some np) ∧ nL' ≤ 16) (hts : ∀ w ∈ TB, w.before args s = true) (hl : Cond.methodLink own idx y' ∈ TB) (hfr : t ≤ R.frames ∧ 35 * t ≤ R.locals) (ht : t' + 1 ≤ t) : CallB R s args own idx y' cc' nL' ret' (Cond.code y' cc' nL' ret' :: TB) (rmOf t' mc1 ms1) mc1 ms1 np :=
  callB_of np hts (good_cons hc.1) rfl rfl rfl (hts _ hc.2.1) (hts _ hl) hc.2.2.1 ⟨by show t' + 1 ≤ _; omega, by show 8 + (nL' + 11) + 35 * t' ≤ _; have := hc.2.2.2; omega⟩
theorem cw_N {idx np nL' t' mc1 ms1 : Nat} {y' : MethodName} {cc' : ByteArray} {ret' : Option FieldType} {R : Room} {s : State} {args : Array Value} {own host : String} (hc : Cond.code y' cc' nL' ret' ∈ TB ∧ Cond.initialized y'.cls ∈ TB ∧ (y'.cls ≠ "java/lang/invoke/MethodHandle" ∧ y'.cls ≠ "java/lang/invoke/VarHandle" ∧ (parseMethodDescriptor y'.desc).map (fun d => d.parameters.length) = some np) ∧ nL' ≤ 16) (hts : ∀ w ∈ TB, w.before args s = true) (hl : Cond.methodLinkNest own idx y' host ∈ TB) (hfr : t ≤ R.frames ∧ 35 * t ≤ R.locals) (ht : t' + 1 ≤ t) : va_CN R s args own idx y' host cc' nL' ret' (Cond.code y' cc' nL' ret' :: TB) (rmOf t' mc1 ms1) mc1 ms1 np :=
  va_cnB np hts (good_cons hc.1) rfl rfl rfl (hts _ hl) (hts _ hc.2.1) hc.2.2.1 ⟨by show t' + 1 ≤ _; omega, by show 8 + (nL' + 11) + 35 * t' ≤ _; have := hc.2.2.2; omega⟩
theorem go_callVI {stk av : List PV} {a ci : Nat} {idx np nL' t' mc1 ms1 mc2 ms2 : Nat} {y' : MethodName} {cc' : ByteArray} {ty' : FieldType} (d : decode cc pc = .ok (.invokevirtual idx, 3)) (hc : Cw 0 y.cls idx y' cc' nL' (some ty') np) (ht : t' + 1 ≤ t) (hs : stk = av.reverse ++ vR a :: st) (hav : av.length = np) (h8 : avw st ≤ 8) (hm : mc = mc1 + mc2) (hms : ms = ms1 + ms2) (hk : kd a = ci) (hci : ∃ (T : u_T) (N : Nat), vwCl[ci]? = some (y'.cls, T, N)) (hc11 : ci < 11) (ha : a < n) (hok : OkI y' cc' nL' t' mc1 ms1 (some ty') (vR a :: av) n P M (fun z n1 P1 M1 => Go S y cc nL t mc2 ms2 ret (pc + 3) lv (vI z :: st) n1 P1 M1 Q)) : Go S y cc nL t mc ms ret pc lv stk n P M Q := by
  subst hs
  intro p l e R s m args below meth c H locs cells slots base b D cy ls Qf hy hl ol os
  obtain ⟨oav, ost⟩ := ok_app os
  have hW := hy.2.2.2.1
  have hM := hok l base b D cy oav
  have hts := hy.1.2.2.2.2.1
  have hfr := hy.1.2.2.2.2.2.2.2.2
  have hf : cells + mc1 ≤ R.cells ∧ slots + ms1 ≤ R.slots := by have := hy.2.2.2.2.2.1; omega
  obtain ⟨c1, c2, c3, c4, c5, c6, c7, c8⟩ := hc
  obtain ⟨T, N, hv⟩ := hci
  rcases c5 with hl5 | ⟨host, hl5⟩
  · refine va_calli (va_runV (As := av.map (rv base b)) (rest := st.map (rv base b)) (g := F0 m pc ls ((av.reverse ++ vR a :: st).map (rv base b))) (b := base + a) ⟨hy.1.1, hy.1.2.1, hy.1.2.2.1, hy.1.2.2.2.1, hts⟩ hM ⟨cw_B (kind := 0) ⟨c1, c2, c3, c4⟩ hts hl5 hfr ht, hts _ (c6 rfl).1, hts _ (c6 rfl).2⟩ ⟨blindI, go_recv hW hk hc11 hv ha, fun U hU hWm => ⟨rfl, by rw [hU]; exact Nat.le_trans hy.2.2.1 hy.2.2.2.2.1.1, by rw [hU]; exact hW.moved hWm.alike⟩⟩ rfl (by rw [List.length_map]; exact hav) hl.1 (by show (List.map (rv base b) (av.reverse ++ vR a :: st)) = _; simp [rv]) (lv_room (st_room h8)) d hf) hy.2.2.2.2.1 (fun q _ h => h) (fun q h => h) (fun r u t1 H1 locs1 e1 hvm hw hB hz1 hk1 hS1 => ?_)
    obtain ⟨n1, P1, M1⟩ := u
    obtain ⟨z, rfl, hz, hg⟩ := hw
    exact hg _ _ _ _ _ _ _ _ _ _ _ _ _ _ _ _ _ _ _ _ (hy_back hy hm hms e1 hvm hB hS1) hl ol (ok_cons (v := vI z) hz ost)
  · refine va_calli (va_runVN (As := av.map (rv base b)) (rest := st.map (rv base b)) (g := F0 m pc ls ((av.reverse ++ vR a :: st).map (rv base b))) (b := base + a) ⟨hy.1.1, hy.1.2.1, hy.1.2.2.1, hy.1.2.2.2.1, hts⟩ hM ⟨cw_N ⟨c1, c2, c3, c4⟩ hts hl5 hfr ht, hts _ (c6 rfl).1, hts _ (c6 rfl).2⟩ ⟨blindI, go_recv hW hk hc11 hv ha, fun U hU hWm => ⟨rfl, by rw [hU]; exact Nat.le_trans hy.2.2.1 hy.2.2.2.2.1.1, by rw [hU]; exact hW.moved hWm.alike⟩⟩ rfl (by rw [List.length_map]; exact hav) hl.1 (by show (List.map (rv base b) (av.reverse ++ vR a :: st)) = _; simp [rv]) (lv_room (st_room h8)) d hf) hy.2.2.2.2.1 (fun q _ h => h) (fun q h => h) (fun r u t1 H1 locs1 e1 hvm hw hB hz1 hk1 hS1 => ?_)
    obtain ⟨n1, P1, M1⟩ := u
    obtain ⟨z, rfl, hz, hg⟩ := hw
    exact hg _ _ _ _ _ _ _ _ _ _ _ _ _ _ _ _ _ _ _ _ (hy_back hy hm hms e1 hvm hB hS1) hl ol (ok_cons (v := vI z) hz ost)
theorem go_callVV {stk av : List PV} {a ci : Nat} {idx np nL' t' mc1 ms1 mc2 ms2 : Nat} {y' : MethodName} {cc' : ByteArray} (d : decode cc pc = .ok (.invokevirtual idx, 3)) (hc : Cw 0 y.cls idx y' cc' nL' none np) (ht : t' + 1 ≤ t) (hs : stk = av.reverse ++ vR a :: st) (hav : av.length = np) (h8 : avw st ≤ 8) (hm : mc = mc1 + mc2) (hms : ms = ms1 + ms2) (hk : kd a = ci) (hci : ∃ (T : u_T) (N : Nat), vwCl[ci]? = some (y'.cls, T, N)) (hc11 : ci < 11) (ha : a < n) (hok : OkV y' cc' nL' t' mc1 ms1 (vR a :: av) n P M (fun n1 P1 M1 => Go S y cc nL t mc2 ms2 ret (pc + 3) lv st n1 P1 M1 Q)) : Go S y cc nL t mc ms ret pc lv stk n P M Q := by
  subst hs
  intro p l e R s m args below meth c H locs cells slots base b D cy ls Qf hy hl ol os
  obtain ⟨oav, ost⟩ := ok_app os
  have hW := hy.2.2.2.1
  have hM := hok l base b D cy oav
  have hts := hy.1.2.2.2.2.1
  have hfr := hy.1.2.2.2.2.2.2.2.2
  have hf : cells + mc1 ≤ R.cells ∧ slots + ms1 ≤ R.slots := by have := hy.2.2.2.2.2.1; omega
  obtain ⟨c1, c2, c3, c4, c5, c6, c7, c8⟩ := hc
  obtain ⟨T, N, hv⟩ := hci
  rcases c5 with hl5 | ⟨host, hl5⟩
  · refine va_callv (va_runV (As := av.map (rv base b)) (rest := st.map (rv base b)) (g := F0 m pc ls ((av.reverse ++ vR a :: st).map (rv base b))) (b := base + a) ⟨hy.1.1, hy.1.2.1, hy.1.2.2.1, hy.1.2.2.2.1, hts⟩ hM ⟨cw_B (kind := 0) ⟨c1, c2, c3, c4⟩ hts hl5 hfr ht, hts _ (c6 rfl).1, hts _ (c6 rfl).2⟩ ⟨blindI, go_recv hW hk hc11 hv ha, fun U hU hWm => ⟨rfl, by rw [hU]; exact Nat.le_trans hy.2.2.1 hy.2.2.2.2.1.1, by rw [hU]; exact hW.moved hWm.alike⟩⟩ rfl (by rw [List.length_map]; exact hav) hl.1 (by show (List.map (rv base b) (av.reverse ++ vR a :: st)) = _; simp [rv]) (lv_room (st_room h8)) d hf) hy.2.2.2.2.1 (fun q _ h => h) (fun q h => h) (fun u t1 H1 locs1 e1 hvm hw hB hz1 hk1 hS1 => ?_)
    obtain ⟨n1, P1, M1⟩ := u
    exact hw _ _ _ _ _ _ _ _ _ _ _ _ _ _ _ _ _ _ _ _ (hy_back hy hm hms e1 hvm hB hS1) hl ol ost
  · refine va_callv (va_runVN (As := av.map (rv base b)) (rest := st.map (rv base b)) (g := F0 m pc ls ((av.reverse ++ vR a :: st).map (rv base b))) (b := base + a) ⟨hy.1.1, hy.1.2.1, hy.1.2.2.1, hy.1.2.2.2.1, hts⟩ hM ⟨cw_N ⟨c1, c2, c3, c4⟩ hts hl5 hfr ht, hts _ (c6 rfl).1, hts _ (c6 rfl).2⟩ ⟨blindI, go_recv hW hk hc11 hv ha, fun U hU hWm => ⟨rfl, by rw [hU]; exact Nat.le_trans hy.2.2.1 hy.2.2.2.2.1.1, by rw [hU]; exact hW.moved hWm.alike⟩⟩ rfl (by rw [List.length_map]; exact hav) hl.1 (by show (List.map (rv base b) (av.reverse ++ vR a :: st)) = _; simp [rv]) (lv_room (st_room h8)) d hf) hy.2.2.2.2.1 (fun q _ h => h) (fun q h => h) (fun u t1 H1 locs1 e1 hvm hw hB hz1 hk1 hS1 => ?_)
    obtain ⟨n1, P1, M1⟩ := u
    exact hw _ _ _ _ _ _ _ _ _ _ _ _ _ _ _ _ _ _ _ _ (hy_back hy hm hms e1 hvm hB hS1) hl ol ost
theorem go_callSI {stk av : List PV} {idx np nL' t' mc1 ms1 mc2 ms2 : Nat} {y' : MethodName} {cc' : ByteArray} {ty' : FieldType} (d : decode cc pc = .ok (.invokestatic idx, 3)) (hc : Cw 1 y.cls idx y' cc' nL' (some ty') np) (ht : t' + 1 ≤ t) (hs : stk = av.reverse ++ st) (hav : av.length = np) (h8 : avw st ≤ 8) (hm : mc = mc1 + mc2) (hms : ms = ms1 + ms2) (hok : OkI y' cc' nL' t' mc1 ms1 (some ty') av n P M (fun z n1 P1 M1 => Go S y cc nL t mc2 ms2 ret (pc + 3) lv (vI z :: st) n1 P1 M1 Q)) : Go S y cc nL t mc ms ret pc lv stk n P M Q := by
  subst hs
  intro p l e R s m args below meth c H locs cells slots base b D cy ls Qf hy hl ol os
  obtain ⟨oav, ost⟩ := ok_appS os
  have hW := hy.2.2.2.1
  have hM := hok l base b D cy oav
  have hts := hy.1.2.2.2.2.1
  have hfr := hy.1.2.2.2.2.2.2.2.2
  have hf : cells + mc1 ≤ R.cells ∧ slots + ms1 ≤ R.slots := by have := hy.2.2.2.2.2.1; omega
  obtain ⟨c1, c2, c3, c4, c5, c6, c7, c8⟩ := hc
  rcases c5 with hl5 | ⟨host, hl5⟩
  · refine va_calli (va_runS (As := av.map (rv base b)) (rest := st.map (rv base b)) (g := F0 m pc ls ((av.reverse ++ st).map (rv base b))) ⟨hy.1.1, hy.1.2.1, hy.1.2.2.1, hy.1.2.2.2.1, hts⟩ hM ⟨cw_B (kind := 0) ⟨c1, c2, c3, c4⟩ hts hl5 hfr ht, hts _ (c7 rfl)⟩ ⟨blindI, fun U hU hWm => ⟨rfl, by rw [hU]; exact Nat.le_trans hy.2.2.1 hy.2.2.2.2.1.1, by rw [hU]; exact hW.moved hWm.alike⟩⟩ rfl (by rw [List.length_map]; exact hav) hl.1 (by show (List.map (rv base b) (av.reverse ++ st)) = _; simp [rv]) (lv_room (st_room h8)) d hf) hy.2.2.2.2.1 (fun q _ h => h) (fun q h => h) (fun r u t1 H1 locs1 e1 hvm hw hB hz1 hk1 hS1 => ?_)
    obtain ⟨n1, P1, M1⟩ := u
    obtain ⟨z, rfl, hz, hg⟩ := hw
    exact hg _ _ _ _ _ _ _ _ _ _ _ _ _ _ _ _ _ _ _ _ (hy_back hy hm hms e1 hvm hB hS1) hl ol (ok_cons (v := vI z) hz ost)
  · refine va_calli (va_runSN (As := av.map (rv base b)) (rest := st.map (rv base b)) (g := F0 m pc ls ((av.reverse ++ st).map (rv base b))) ⟨hy.1.1, hy.1.2.1, hy.1.2.2.1, hy.1.2.2.2.1, hts⟩ hM ⟨cw_N ⟨c1, c2, c3, c4⟩ hts hl5 hfr ht, hts _ (c7 rfl), trivial⟩ ⟨blindI, fun U hU hWm => ⟨rfl, by rw [hU]; exact Nat.le_trans hy.2.2.1 hy.2.2.2.2.1.1, by rw [hU]; exact hW.moved hWm.alike⟩⟩ rfl (by rw [List.length_map]; exact hav) hl.1 (by show (List.map (rv base b) (av.reverse ++ st)) = _; simp [rv]) (lv_room (st_room h8)) d hf) hy.2.2.2.2.1 (fun q _ h => h) (fun q h => h) (fun r u t1 H1 locs1 e1 hvm hw hB hz1 hk1 hS1 => ?_)
    obtain ⟨n1, P1, M1⟩ := u
    obtain ⟨z, rfl, hz, hg⟩ := hw
    exact hg _ _ _ _ _ _ _ _ _ _ _ _ _ _ _ _ _ _ _ _ (hy_back hy hm hms e1 hvm hB hS1) hl ol (ok_cons (v := vI z) hz ost)
theorem go_callSV {stk av : List PV} {idx np nL' t' mc1 ms1 mc2 ms2 : Nat} {y' : MethodName} {cc' : ByteArray} (d : decode cc pc = .ok (.invokestatic idx, 3)) (hc : Cw 1 y.cls idx y' cc' nL' none np) (ht : t' + 1 ≤ t) (hs : stk = av.reverse ++ st) (hav : av.length = np) (h8 : avw st ≤ 8) (hm : mc = mc1 + mc2) (hms : ms = ms1 + ms2) (hok : OkV y' cc' nL' t' mc1 ms1 av n P M (fun n1 P1 M1 => Go S y cc nL t mc2 ms2 ret (pc + 3) lv st n1 P1 M1 Q)) : Go S y cc nL t mc ms ret pc lv stk n P M Q := by
  subst hs
  intro p l e R s m args below meth c H locs cells slots base b D cy ls Qf hy hl ol os
  obtain ⟨oav, ost⟩ := ok_appS os
  have hW := hy.2.2.2.1
  have hM := hok l base b D cy oav
  have hts := hy.1.2.2.2.2.1
  have hfr := hy.1.2.2.2.2.2.2.2.2
  have hf : cells + mc1 ≤ R.cells ∧ slots + ms1 ≤ R.slots := by have := hy.2.2.2.2.2.1; omega
  obtain ⟨c1, c2, c3, c4, c5, c6, c7, c8⟩ := hc
  rcases c5 with hl5 | ⟨host, hl5⟩
  · refine va_callv (va_runS (As := av.map (rv base b)) (rest := st.map (rv base b)) (g := F0 m pc ls ((av.reverse ++ st).map (rv base b))) ⟨hy.1.1, hy.1.2.1, hy.1.2.2.1, hy.1.2.2.2.1, hts⟩ hM ⟨cw_B (kind := 0) ⟨c1, c2, c3, c4⟩ hts hl5 hfr ht, hts _ (c7 rfl)⟩ ⟨blindI, fun U hU hWm => ⟨rfl, by rw [hU]; exact Nat.le_trans hy.2.2.1 hy.2.2.2.2.1.1, by rw [hU]; exact hW.moved hWm.alike⟩⟩ rfl (by rw [List.length_map]; exact hav) hl.1 (by show (List.map (rv base b) (av.reverse ++ st)) = _; simp [rv]) (lv_room (st_room h8)) d hf) hy.2.2.2.2.1 (fun q _ h => h) (fun q h => h) (fun u t1 H1 locs1 e1 hvm hw hB hz1 hk1 hS1 => ?_)
    obtain ⟨n1, P1, M1⟩ := u
    exact hw _ _ _ _ _ _ _ _ _ _ _ _ _ _ _ _ _ _ _ _ (hy_back hy hm hms e1 hvm hB hS1) hl ol ost
  · refine va_callv (va_runSN (As := av.map (rv base b)) (rest := st.map (rv base b)) (g := F0 m pc ls ((av.reverse ++ st).map (rv base b))) ⟨hy.1.1, hy.1.2.1, hy.1.2.2.1, hy.1.2.2.2.1, hts⟩ hM ⟨cw_N ⟨c1, c2, c3, c4⟩ hts hl5 hfr ht, hts _ (c7 rfl), trivial⟩ ⟨blindI, fun U hU hWm => ⟨rfl, by rw [hU]; exact Nat.le_trans hy.2.2.1 hy.2.2.2.2.1.1, by rw [hU]; exact hW.moved hWm.alike⟩⟩ rfl (by rw [List.length_map]; exact hav) hl.1 (by show (List.map (rv base b) (av.reverse ++ st)) = _; simp [rv]) (lv_room (st_room h8)) d hf) hy.2.2.2.2.1 (fun q _ h => h) (fun q h => h) (fun u t1 H1 locs1 e1 hvm hw hB hz1 hk1 hS1 => ?_)
    obtain ⟨n1, P1, M1⟩ := u
    exact hw _ _ _ _ _ _ _ _ _ _ _ _ _ _ _ _ _ _ _ _ (hy_back hy hm hms e1 hvm hB hS1) hl ol ost
theorem go_callIV {stk av : List PV} {a ci : Nat} {idx np nL' t' mc1 ms1 mc2 ms2 : Nat} {y' : MethodName} {cc' : ByteArray} (d : decode cc pc = .ok (.invokespecial idx, 3)) (hc : Cw 2 y.cls idx y' cc' nL' none np) (ht : t' + 1 ≤ t) (hs : stk = av.reverse ++ vR a :: st) (hav : av.length = np) (h8 : avw st ≤ 8) (hm : mc = mc1 + mc2) (hms : ms = ms1 + ms2) (hok : OkV y' cc' nL' t' mc1 ms1 (vR a :: av) n P M (fun n1 P1 M1 => Go S y cc nL t mc2 ms2 ret (pc + 3) lv st n1 P1 M1 Q)) : Go S y cc nL t mc ms ret pc lv stk n P M Q := by
  subst hs
  intro p l e R s m args below meth c H locs cells slots base b D cy ls Qf hy hl ol os
  obtain ⟨oav, ost⟩ := ok_app os
  have hW := hy.2.2.2.1
  have hM := hok l base b D cy oav
  have hts := hy.1.2.2.2.2.1
  have hfr := hy.1.2.2.2.2.2.2.2.2
  have hf : cells + mc1 ≤ R.cells ∧ slots + ms1 ≤ R.slots := by have := hy.2.2.2.2.2.1; omega
  obtain ⟨c1, c2, c3, c4, c5, c6, c7, c8⟩ := hc
  rcases c5 with hl5 | ⟨host, hl5⟩
  · refine va_callv (va_runI (As := av.map (rv base b)) (rest := st.map (rv base b)) (g := F0 m pc ls ((av.reverse ++ vR a :: st).map (rv base b))) (b := base + a) ⟨hy.1.1, hy.1.2.1, hy.1.2.2.1, hy.1.2.2.2.1, hts⟩ hM ⟨cw_B (kind := 0) ⟨c1, c2, c3, c4⟩ hts hl5 hfr ht, (c8 rfl).1, hts _ (c8 rfl).2⟩ ⟨blindI, fun U hU hWm => ⟨rfl, by rw [hU]; exact Nat.le_trans hy.2.2.1 hy.2.2.2.2.1.1, by rw [hU]; exact hW.moved hWm.alike⟩⟩ rfl (by rw [List.length_map]; exact hav) hl.1 (by show (List.map (rv base b) (av.reverse ++ vR a :: st)) = _; simp [rv]) (lv_room (st_room h8)) d hf) hy.2.2.2.2.1 (fun q _ h => h) (fun q h => h) (fun u t1 H1 locs1 e1 hvm hw hB hz1 hk1 hS1 => ?_)
    obtain ⟨n1, P1, M1⟩ := u
    exact hw _ _ _ _ _ _ _ _ _ _ _ _ _ _ _ _ _ _ _ _ (hy_back hy hm hms e1 hvm hB hS1) hl ol ost
  · refine va_callv (va_runIN (As := av.map (rv base b)) (rest := st.map (rv base b)) (g := F0 m pc ls ((av.reverse ++ vR a :: st).map (rv base b))) (b := base + a) ⟨hy.1.1, hy.1.2.1, hy.1.2.2.1, hy.1.2.2.2.1, hts⟩ hM ⟨cw_N ⟨c1, c2, c3, c4⟩ hts hl5 hfr ht, (c8 rfl).1, hts _ (c8 rfl).2⟩ ⟨blindI, fun U hU hWm => ⟨rfl, by rw [hU]; exact Nat.le_trans hy.2.2.1 hy.2.2.2.2.1.1, by rw [hU]; exact hW.moved hWm.alike⟩⟩ rfl (by rw [List.length_map]; exact hav) hl.1 (by show (List.map (rv base b) (av.reverse ++ vR a :: st)) = _; simp [rv]) (lv_room (st_room h8)) d hf) hy.2.2.2.2.1 (fun q _ h => h) (fun q h => h) (fun u t1 H1 locs1 e1 hvm hw hB hz1 hk1 hS1 => ?_)
    obtain ⟨n1, P1, M1⟩ := u
    exact hw _ _ _ _ _ _ _ _ _ _ _ _ _ _ _ _ _ _ _ _ (hy_back hy hm hms e1 hvm hB hS1) hl ol ost
theorem go_copy {idx a0 a1 : Nat} {sp dp len : Int} (d : decode cc pc = .ok (.invokestatic idx, 3)) (hl0 : Cond.methodLink y.cls idx arraycopyName ∈ TB) (hw : ∀ w ∈ w_copy, w ∈ TB) (ht : 1 ≤ t) (k0 : kd a0 = 11) (k1 : kd a1 = 11) (ha0 : a0 < n) (ha1 : a1 < n) (hn3 : n = 303) (h1 : 0 ≤ sp) (h2 : 0 ≤ dp) (h3 : 0 ≤ len) (h4 : sp + len ≤ (ln a0 : Int)) (h5 : dp + len ≤ (ln a1 : Int)) (h8 : avw st ≤ 8) (k : Go S y cc nL t mc ms ret (pc + 3) lv st n P (cp2 M a0 sp.toNat a1 dp.toNat len.toNat) Q) : Go S y cc nL t mc ms ret pc lv (vI len :: vI dp :: vR a1 :: vI sp :: vR a0 :: st) n P M Q := by
  intro p l e R s m args below meth c H locs cells slots base b D cy ls Qf hy hl ol os
  have hW := hy.2.2.2.1
  have hts := hy.1.2.2.2.2.1
  have hlen : inR len := ok_head os
  have hdp : inR dp := ok_head (ok_tail os)
  have hsp : inR sp := ok_head (ok_tail (ok_tail (ok_tail os)))
  have ng : ∀ z : Int, inR z → 0 ≤ z → ¬ Int32.ofInt z < 0 := fun z hz h => by rw [oi_0, oi_lt hz (by decide)]; omega
  refine va_copyi hy.1.1 hy.1.2.1 (hy.1.2.2.1.trans hl.1.symm) hy.1.2.2.2.1 (hts _ hl0) (hts _ (hw _ (List.mem_of_getElem? (i := 0) rfl))) (hts _ (hw _ (List.mem_of_getElem? (i := 1) rfl))) (hts _ (hw _ (List.mem_of_getElem? (i := 2) rfl))) hW.1 hW.2.1 ws_D hy.2.2.2.2.1 a0 a1 0 0 (ty := .int) (f := fun i => Int32.ofInt (M a0 i)) (g := fun i => Int32.ofInt (M a1 i)) (by rw [ws_get ha0, ent_ints k0]) (by rw [ws_get ha1, ent_ints k1]) rfl rfl rfl (ng _ hsp h1) (ng _ hdp h2) (ng _ hlen h3) (by rw [oi_clamp hsp, oi_clamp hlen]; omega) (by rw [oi_clamp hdp, oi_clamp hlen]; omega) (fun i _ => rfl) (by have := hy.1.2.2.2.2.2.2.2.2.1; omega) ?_ d (fun H1 locs1 hP1 _ hS1 => ?_)
  · have e := st_room (base := base) (b := b) h8
    have e2 := hy.1.2.2.2.2.2.2.2.2.2
    have e3 : nativeFrameWords "java/lang/System" "arraycopy" 5 ≤ 16 := by decide +kernel
    omega
  · rw [oi_clamp hsp, oi_clamp hdp, oi_clamp hlen, ws_set (P' := P) (M' := cp2 M a0 sp.toNat a1 dp.toNat len.toNat) ha1 ?_ ?_] at hP1
    · refine k _ _ _ _ _ _ _ _ _ _ H1 _ _ _ _ _ _ _ _ _ ⟨hy.1, hy.2.1, hy.2.2.1, ⟨hW.1, hP1, fun h => absurd h (by omega), fun x j => ?_, fun x j hx => ?_⟩, hS1, hy.2.2.2.2.2.1, hy.2.2.2.2.2.2⟩ hl ol (ok_tail (ok_tail (ok_tail (ok_tail (ok_tail os)))))
      · unfold cp2
        split <;> exact hW.2.2.2.1 _ _
      · unfold cp2
        rw [if_neg (by omega)]
        exact hW.2.2.2.2 x j hx
    · rw [ent_ints k1]
      congr 4
      funext j
      unfold va_cpy cp2
      by_cases hj : dp.toNat ≤ j ∧ j < dp.toNat + len.toNat
      · rw [if_pos hj, if_pos ⟨rfl, hj.1, hj.2⟩]
      · rw [if_neg hj, if_neg (fun q => hj q.2)]
    · intro j hj
      have e : ∀ x, cp2 M a0 sp.toNat a1 dp.toNat len.toNat j x = M j x := fun x => by simp [cp2, hj]
      unfold ent flds
      simp only [e]
theorem go_min {idx : Nat} {x z : Int} (d : decode cc pc = .ok (.invokestatic idx, 3)) (hl0 : Cond.methodLink y.cls idx Lib.Math.min.name ∈ TB) (hw : ∀ w ∈ w_math, w ∈ TB) (ht : 1 ≤ t) (h8 : avw st ≤ 8) (k : Go S y cc nL t mc ms ret (pc + 3) lv (vI (min x z) :: st) n P M Q) : Go S y cc nL t mc ms ret pc lv (vI z :: vI x :: st) n P M Q := by
  intro p l e R s m args below meth c H locs cells slots base b D cy ls Qf hy hl ol os
  have hts := hy.1.2.2.2.2.1
  have hz : inR z := ok_head os
  have hx : inR x := ok_head (ok_tail os)
  have h5 := hy.2.2.2.2.2.1
  have e := st_room (base := base) (b := b) h8
  have e2 := hy.1.2.2.2.2.2.2.2.2
  refine va_mmin hy.1.1 hy.1.2.1 (hy.1.2.2.1.trans hl.1.symm) hy.1.2.2.2.1 (hts _ hl0) (hts _ (hw _ (List.mem_of_getElem? (i := 0) rfl))) (hts _ (hw _ (List.mem_of_getElem? (i := 2) rfl))) (hts _ (hw _ (List.mem_of_getElem? (i := 3) rfl))) (by omega) (by omega) (by omega) (by omega) d ?_
  have hm : (if Int32.ofInt z < Int32.ofInt x then Int32.ofInt z else Int32.ofInt x) = Int32.ofInt (min x z) := by
    by_cases h : z < x
    · rw [if_pos ((oi_lt hz hx).mpr h), Int.min_eq_right (by omega)]
    · rw [if_neg (fun q => h ((oi_lt hz hx).mp q)), Int.min_eq_left (by omega)]
  rw [hm]
  refine k _ _ _ _ _ _ _ _ _ _ _ _ _ _ _ _ _ _ _ _ hy hl ol (ok_cons (v := vI (min x z)) ?_ (ok_tail (ok_tail os)))
  show inR (min x z)
  have := hx.1; have := hx.2; have := hz.1; have := hz.2
  exact ⟨by omega, by omega⟩
theorem go_max {idx : Nat} {x z : Int} (d : decode cc pc = .ok (.invokestatic idx, 3)) (hl0 : Cond.methodLink y.cls idx Lib.Math.max.name ∈ TB) (hw : ∀ w ∈ w_math, w ∈ TB) (ht : 1 ≤ t) (h8 : avw st ≤ 8) (k : Go S y cc nL t mc ms ret (pc + 3) lv (vI (max x z) :: st) n P M Q) : Go S y cc nL t mc ms ret pc lv (vI z :: vI x :: st) n P M Q := by
  intro p l e R s m args below meth c H locs cells slots base b D cy ls Qf hy hl ol os
  have hts := hy.1.2.2.2.2.1
  have hz : inR z := ok_head os
  have hx : inR x := ok_head (ok_tail os)
  have h5 := hy.2.2.2.2.2.1
  have e := st_room (base := base) (b := b) h8
  have e2 := hy.1.2.2.2.2.2.2.2.2
  refine va_mmax hy.1.1 hy.1.2.1 (hy.1.2.2.1.trans hl.1.symm) hy.1.2.2.2.1 (hts _ hl0) (hts _ (hw _ (List.mem_of_getElem? (i := 1) rfl))) (hts _ (hw _ (List.mem_of_getElem? (i := 2) rfl))) (hts _ (hw _ (List.mem_of_getElem? (i := 4) rfl))) (by omega) (by omega) (by omega) (by omega) d ?_
  have hm : (if Int32.ofInt x < Int32.ofInt z then Int32.ofInt z else Int32.ofInt x) = Int32.ofInt (max x z) := by
    by_cases h : x < z
    · rw [if_pos ((oi_lt hx hz).mpr h), Int.max_eq_right (by omega)]
    · rw [if_neg (fun q => h ((oi_lt hx hz).mp q)), Int.max_eq_left (by omega)]
  rw [hm]
  refine k _ _ _ _ _ _ _ _ _ _ _ _ _ _ _ _ _ _ _ _ hy hl ol (ok_cons (v := vI (max x z)) ?_ (ok_tail (ok_tail os)))
  show inR (max x z)
  have := hx.1; have := hx.2; have := hz.1; have := hz.2
  exact ⟨by omega, by omega⟩
theorem go_obj {idx a : Nat} (d : decode cc pc = .ok (.invokespecial idx, 3)) (hl0 : Cond.methodLink y.cls idx Lib.objectInit ∈ TB) (hw : ∀ w ∈ w_obj, w ∈ TB) (ht : 1 ≤ t) (h8 : avw st ≤ 8) (k : Go S y cc nL t mc ms ret (pc + 3) lv st n P M Q) : Go S y cc nL t mc ms ret pc lv (vR a :: st) n P M Q := by
  intro p l e R s m args below meth c H locs cells slots base b D cy ls Qf hy hl ol os
  have hts := hy.1.2.2.2.2.1
  have e1 := lv_room (m := m) (pc := pc) (ls := ls) (rest := (vR a :: st).map (rv base b)) (st_room (base := base) (b := b) h8)
  have e2 := hy.1.2.2.2.2.2.2.2.2
  exact W.objInit hy.1.1 hy.1.2.1 hy.1.2.2.2.1 (hts _ hl0) (hts _ (hw _ (List.mem_of_getElem? (i := 0) rfl))) (hts _ (hw _ (List.mem_of_getElem? (i := 1) rfl))) (g := F0 m pc ls ((vR a :: st).map (rv base b))) rfl (hl.1.trans hy.1.2.2.1.symm) rfl d (by omega) (by omega) (k _ _ _ _ _ _ _ _ _ _ _ _ _ _ _ _ _ _ _ _ hy hl ol (ok_tail os))
end GoCall
end
