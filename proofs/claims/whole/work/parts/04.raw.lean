theorem r0 : lw_tbl[0]? = some (Cond.selects "OnionProbate$Reader" ⟨"OnionProbate$Reader", "skipBlanks", "()V"⟩ ⟨"OnionProbate$Reader", "skipBlanks", "()V"⟩) := by decide +kernel
theorem r1 : lw_tbl[1]? = some (Cond.selects "OnionProbate$Reader" ⟨"OnionProbate$Reader", "readClause", "(LOnionProbate$Case;)V"⟩ ⟨"OnionProbate$Reader", "readClause", "(LOnionProbate$Case;)V"⟩) := by decide +kernel
theorem r2 : lw_tbl[2]? = some (Cond.selects "OnionProbate$Reader" ⟨"OnionProbate$Reader", "here", "()I"⟩ ⟨"OnionProbate$Reader", "here", "()I"⟩) := by decide +kernel
theorem r3 : lw_tbl[3]? = some (Cond.selects "OnionProbate$Reader" ⟨"OnionProbate$Reader", "blame", "(II)V"⟩ ⟨"OnionProbate$Reader", "blame", "(II)V"⟩) := by decide +kernel
theorem r4 : lw_tbl[4]? = some (Cond.selects "OnionProbate$Reader" ⟨"OnionProbate$Reader", "readRest", "(ILOnionProbate$Case;)V"⟩ ⟨"OnionProbate$Reader", "readRest", "(ILOnionProbate$Case;)V"⟩) := by decide +kernel
theorem r5 : lw_tbl[5]? = some (Cond.selects "OnionProbate$Reader" ⟨"OnionProbate$Reader", "readNumber", "(II)I"⟩ ⟨"OnionProbate$Reader", "readNumber", "(II)I"⟩) := by decide +kernel
theorem r6 : lw_tbl[6]? = some (Cond.selects "OnionProbate$Reader" ⟨"OnionProbate$Reader", "readType", "(LOnionProbate$Case;)V"⟩ ⟨"OnionProbate$Reader", "readType", "(LOnionProbate$Case;)V"⟩) := by decide +kernel
theorem r7 : lw_tbl[7]? = some (Cond.selects "OnionProbate$Case" ⟨"OnionProbate$Case", "beginsAs", "(ILOnionProbate$Onion;)Z"⟩ ⟨"OnionProbate$Case", "beginsAs", "(ILOnionProbate$Onion;)Z"⟩) := by decide +kernel
theorem r8 : lw_tbl[8]? = some (Cond.selects "OnionProbate$Onion" ⟨"OnionProbate$Onion", "enter", "(I)V"⟩ ⟨"OnionProbate$Onion", "enter", "(I)V"⟩) := by decide +kernel
theorem r9 : lw_tbl[9]? = some (Cond.selects "OnionProbate" ⟨"OnionProbate", "refusalOfYears", "(I)I"⟩ ⟨"OnionProbate", "refusalOfYears", "(I)I"⟩) := by decide +kernel
theorem r10 : lw_tbl[10]? = some (Cond.selects "OnionProbate" ⟨"OnionProbate", "doByDraw", "()V"⟩ ⟨"OnionProbate", "doByDraw", "()V"⟩) := by decide +kernel
theorem r11 : lw_tbl[11]? = some (Cond.selects "OnionProbate$Trial" ⟨"OnionProbate$Trial", "firstPartEnd", "(II)I"⟩ ⟨"OnionProbate$Trial", "firstPartEnd", "(II)I"⟩) := by decide +kernel
theorem r12 : lw_tbl[12]? = some (Cond.selects "OnionProbate$Trial" ⟨"OnionProbate$Trial", "greatestWith", "(II)I"⟩ ⟨"OnionProbate$Trial", "greatestWith", "(II)I"⟩) := by decide +kernel
theorem r13 : lw_tbl[13]? = some (Cond.selects "OnionProbate$Trial" ⟨"OnionProbate$Trial", "poorest", "(I)I"⟩ ⟨"OnionProbate$Trial", "poorest", "(I)I"⟩) := by decide +kernel
theorem r14 : lw_tbl[14]? = some (Cond.selects "OnionProbate$Guesses" ⟨"OnionProbate$Guesses", "fits", "(LOnionProbate$Case;I)Z"⟩ ⟨"OnionProbate$Guesses", "fits", "(LOnionProbate$Case;I)Z"⟩) := by decide +kernel
theorem r15 : lw_tbl[15]? = some (Cond.selects "OnionProbate$Trial" ⟨"OnionProbate$Trial", "greatestAlike", "(LOnionProbate$Case;II)I"⟩ ⟨"OnionProbate$Trial", "greatestAlike", "(LOnionProbate$Case;II)I"⟩) := by decide +kernel
theorem r16 : lw_tbl[16]? = some (Cond.selects "OnionProbateModel" ⟨"OnionProbateModel", "empties", "()V"⟩ ⟨"OnionProbateModel", "empties", "()V"⟩) := by decide +kernel
theorem r17 : lw_tbl[17]? = some (Cond.selects "OnionProbateModel" ⟨"OnionProbateModel", "here", "()I"⟩ ⟨"OnionProbateModel", "here", "()I"⟩) := by decide +kernel
theorem r18 : lw_tbl[18]? = some (Cond.selects "OnionProbateModel" ⟨"OnionProbateModel", "takeClause", "()I"⟩ ⟨"OnionProbateModel", "takeClause", "()I"⟩) := by decide +kernel
theorem r19 : lw_tbl[19]? = some (Cond.selects "OnionProbateModel" ⟨"OnionProbateModel", "fails", "(II)I"⟩ ⟨"OnionProbateModel", "fails", "(II)I"⟩) := by decide +kernel
theorem r20 : lw_tbl[20]? = some (Cond.selects "OnionProbateModel" ⟨"OnionProbateModel", "isFull", "(I)Z"⟩ ⟨"OnionProbateModel", "isFull", "(I)Z"⟩) := by decide +kernel
theorem r21 : lw_tbl[21]? = some (Cond.selects "OnionProbateModel" ⟨"OnionProbateModel", "takeBody", "(I)I"⟩ ⟨"OnionProbateModel", "takeBody", "(I)I"⟩) := by decide +kernel
theorem r22 : lw_tbl[22]? = some (Cond.selects "OnionProbateModel" ⟨"OnionProbateModel", "takeMiddle", "()I"⟩ ⟨"OnionProbateModel", "takeMiddle", "()I"⟩) := by decide +kernel
theorem r23 : lw_tbl[23]? = some (Cond.selects "OnionProbateModel" ⟨"OnionProbateModel", "takeNumber", "(II)I"⟩ ⟨"OnionProbateModel", "takeNumber", "(II)I"⟩) := by decide +kernel
theorem r24 : lw_tbl[24]? = some (Cond.selects "OnionProbateModel" ⟨"OnionProbateModel", "takeLayer", "()I"⟩ ⟨"OnionProbateModel", "takeLayer", "()I"⟩) := by decide +kernel
theorem r25 : lw_tbl[25]? = some (Cond.selects "OnionProbateModel" ⟨"OnionProbateModel", "takeExecutor", "()I"⟩ ⟨"OnionProbateModel", "takeExecutor", "()I"⟩) := by decide +kernel
theorem r26 : lw_tbl[26]? = some (Cond.selects "OnionProbateModel" ⟨"OnionProbateModel", "takeType", "()I"⟩ ⟨"OnionProbateModel", "takeType", "()I"⟩) := by decide +kernel
theorem r27 : lw_tbl[27]? = some (Cond.selects "OnionProbateModel" ⟨"OnionProbateModel", "takeRead", "()V"⟩ ⟨"OnionProbateModel", "takeRead", "()V"⟩) := by decide +kernel
theorem r28 : lw_tbl[28]? = some (Cond.selects "OnionProbateModel" ⟨"OnionProbateModel", "allThick", "()I"⟩ ⟨"OnionProbateModel", "allThick", "()I"⟩) := by decide +kernel
theorem r29 : lw_tbl[29]? = some (Cond.selects "OnionProbateModel" ⟨"OnionProbateModel", "cut", "()I"⟩ ⟨"OnionProbateModel", "cut", "()I"⟩) := by decide +kernel
theorem r30 : lw_tbl[30]? = some (Cond.selects "OnionProbateModel" ⟨"OnionProbateModel", "canBeOnes", "()I"⟩ ⟨"OnionProbateModel", "canBeOnes", "()I"⟩) := by decide +kernel
theorem r31 : lw_tbl[31]? = some (Cond.selects "OnionProbateModel" ⟨"OnionProbateModel", "canBe", "(I)Z"⟩ ⟨"OnionProbateModel", "canBe", "(I)Z"⟩) := by decide +kernel
theorem r32 : lw_tbl[32]? = some (Cond.selects "OnionProbateModel" ⟨"OnionProbateModel", "sure", "()I"⟩ ⟨"OnionProbateModel", "sure", "()I"⟩) := by decide +kernel
theorem r33 : lw_tbl[33]? = some (Cond.selects "OnionProbateModel" ⟨"OnionProbateModel", "nextOf", "(I)I"⟩ ⟨"OnionProbateModel", "nextOf", "(I)I"⟩) := by decide +kernel
theorem r34 : lw_tbl[34]? = some (Cond.selects "OnionProbateModel" ⟨"OnionProbateModel", "law", "()I"⟩ ⟨"OnionProbateModel", "law", "()I"⟩) := by decide +kernel
theorem r35 : lw_tbl[35]? = some (Cond.selects "OnionProbateModel" ⟨"OnionProbateModel", "envyBy", "([II)I"⟩ ⟨"OnionProbateModel", "envyBy", "([II)I"⟩) := by decide +kernel
theorem r36 : lw_tbl[36]? = some (Cond.selects "OnionProbateModel" ⟨"OnionProbateModel", "weeps", "()I"⟩ ⟨"OnionProbateModel", "weeps", "()I"⟩) := by decide +kernel
theorem r37 : lw_tbl[37]? = some (Cond.selects "OnionProbateModel" ⟨"OnionProbateModel", "dryIn", "()I"⟩ ⟨"OnionProbateModel", "dryIn", "()I"⟩) := by decide +kernel
theorem r38 : lw_tbl[38]? = some (Cond.selects "OnionProbateModel" ⟨"OnionProbateModel", "isLayer", "(I)Z"⟩ ⟨"OnionProbateModel", "isLayer", "(I)Z"⟩) := by decide +kernel
theorem r39 : lw_tbl[39]? = some (Cond.selects "OnionProbateModel" ⟨"OnionProbateModel", "worthOf", "(I)I"⟩ ⟨"OnionProbateModel", "worthOf", "(I)I"⟩) := by decide +kernel
theorem r40 : lw_tbl[40]? = some (Cond.selects "OnionProbateModel" ⟨"OnionProbateModel", "stingOf", "(I)I"⟩ ⟨"OnionProbateModel", "stingOf", "(I)I"⟩) := by decide +kernel
theorem r41 : lw_tbl[41]? = some (Cond.selects "OnionProbateModel" ⟨"OnionProbateModel", "isExecutor", "(I)Z"⟩ ⟨"OnionProbateModel", "isExecutor", "(I)Z"⟩) := by decide +kernel
theorem r42 : lw_tbl[42]? = some (Cond.selects "OnionProbateModel" ⟨"OnionProbateModel", "canPeel", "()Z"⟩ ⟨"OnionProbateModel", "canPeel", "()Z"⟩) := by decide +kernel
theorem r43 : lw_tbl[43]? = some (Cond.selects "OnionProbateModel" ⟨"OnionProbateModel", "remember", "()V"⟩ ⟨"OnionProbateModel", "remember", "()V"⟩) := by decide +kernel
theorem r44 : lw_tbl[44]? = some (Cond.selects "OnionProbateModel" ⟨"OnionProbateModel", "peels", "(I)I"⟩ ⟨"OnionProbateModel", "peels", "(I)I"⟩) := by decide +kernel
theorem r45 : lw_tbl[45]? = some (Cond.selects "OnionProbateModel" ⟨"OnionProbateModel", "enters", "(III)V"⟩ ⟨"OnionProbateModel", "enters", "(III)V"⟩) := by decide +kernel
theorem r46 : lw_tbl[46]? = some (Cond.selects "OnionProbateModel" ⟨"OnionProbateModel", "grows", "()V"⟩ ⟨"OnionProbateModel", "grows", "()V"⟩) := by decide +kernel
theorem r47 : lw_tbl[47]? = some (Cond.selects "OnionProbateModel" ⟨"OnionProbateModel", "yearsRefused", "(I)I"⟩ ⟨"OnionProbateModel", "yearsRefused", "(I)I"⟩) := by decide +kernel
theorem r48 : lw_tbl[48]? = some (Cond.selects "OnionProbateModel" ⟨"OnionProbateModel", "passes", "()V"⟩ ⟨"OnionProbateModel", "passes", "()V"⟩) := by decide +kernel
theorem r49 : lw_tbl[49]? = some (Cond.selects "OnionProbateModel" ⟨"OnionProbateModel", "chance", "()V"⟩ ⟨"OnionProbateModel", "chance", "()V"⟩) := by decide +kernel
theorem r50 : lw_tbl[50]? = some (Cond.selects "OnionProbateModel" ⟨"OnionProbateModel", "draw", "(I)I"⟩ ⟨"OnionProbateModel", "draw", "(I)I"⟩) := by decide +kernel
theorem r51 : lw_tbl[51]? = some (Cond.selects "OnionProbateModel" ⟨"OnionProbateModel", "stingFrom", "(II)I"⟩ ⟨"OnionProbateModel", "stingFrom", "(II)I"⟩) := by decide +kernel
theorem r52 : lw_tbl[52]? = some (Cond.selects "OnionProbateModel" ⟨"OnionProbateModel", "isPair", "(II)Z"⟩ ⟨"OnionProbateModel", "isPair", "(II)Z"⟩) := by decide +kernel
theorem r53 : lw_tbl[53]? = some (Cond.selects "OnionProbateModel" ⟨"OnionProbateModel", "couldBeOne", "(I)Z"⟩ ⟨"OnionProbateModel", "couldBeOne", "(I)Z"⟩) := by decide +kernel
theorem r54 : lw_tbl[54]? = some (Cond.selects "OnionProbateModel" ⟨"OnionProbateModel", "kindIn", "(II)I"⟩ ⟨"OnionProbateModel", "kindIn", "(II)I"⟩) := by decide +kernel
theorem r56 : lw_tbl[56]? = some ((Jvm.Cond.initialized "OnionProbate")) := by decide +kernel
theorem r57 : lw_tbl[57]? = some ((Jvm.Cond.initialized "OnionProbate$Reader")) := by decide +kernel
theorem r58 : lw_tbl[58]? = some ((Jvm.Cond.initialized "OnionProbate$Case")) := by decide +kernel
theorem r59 : lw_tbl[59]? = some ((Jvm.Cond.initialized "OnionProbate$Onion")) := by decide +kernel
theorem r60 : lw_tbl[60]? = some ((Jvm.Cond.initialized "OnionProbate$Deeds")) := by decide +kernel
theorem r61 : lw_tbl[61]? = some ((Jvm.Cond.initialized "OnionProbate$Image")) := by decide +kernel
theorem r62 : lw_tbl[62]? = some ((Jvm.Cond.initialized "OnionProbate$Guesses")) := by decide +kernel
theorem r63 : lw_tbl[63]? = some ((Jvm.Cond.initialized "OnionProbate$Book")) := by decide +kernel
theorem r64 : lw_tbl[64]? = some ((Jvm.Cond.initialized "OnionProbate$Trial")) := by decide +kernel
theorem r65 : lw_tbl[65]? = some ((Jvm.Cond.initialized "OnionProbate$Draws")) := by decide +kernel
theorem r66 : lw_tbl[66]? = some ((Jvm.Cond.initialized "OnionProbateModel")) := by decide +kernel
theorem r69 : lw_tbl[69]? = some ((Jvm.Cond.initialized "java/lang/Integer")) := by decide +kernel
theorem r72 : lw_tbl[72]? = some ((Jvm.Cond.methodLink "OnionProbateLaw" (9 : Nat) ({ cls := "OnionProbate", name := "<init>", desc := "()V" } : Jvm.MethodName))) := by decide +kernel
theorem r73 : lw_tbl[73]? = some ((Jvm.Cond.instanceMethod ({ cls := "OnionProbate", name := "<init>", desc := "()V" } : Jvm.MethodName))) := by decide +kernel
theorem r74 : lw_tbl[74]? = some ((Jvm.Cond.code ({ cls := "OnionProbate", name := "<init>", desc := "()V" } : Jvm.MethodName) prog_1_method_1_code (2 : Nat) (Option.none : Option Jvm.ClassFile.FieldType))) := by decide +kernel
theorem r75 : lw_tbl[75]? = some ((Jvm.Cond.methodLink "OnionProbate" (1 : Nat) ({ cls := "java/lang/Object", name := "<init>", desc := "()V" } : Jvm.MethodName))) := by decide +kernel
theorem r80 : lw_tbl[80]? = some ((Jvm.Cond.methodLinkNest "OnionProbate" (9 : Nat) ({ cls := "OnionProbate$Reader", name := "<init>", desc := "()V" } : Jvm.MethodName) "OnionProbate")) := by decide +kernel
theorem r81 : lw_tbl[81]? = some ((Jvm.Cond.instanceMethod ({ cls := "OnionProbate$Reader", name := "<init>", desc := "()V" } : Jvm.MethodName))) := by decide +kernel
theorem r82 : lw_tbl[82]? = some ((Jvm.Cond.code ({ cls := "OnionProbate$Reader", name := "<init>", desc := "()V" } : Jvm.MethodName) prog_9_method_1_code (1 : Nat) (Option.none : Option Jvm.ClassFile.FieldType))) := by decide +kernel
theorem r83 : lw_tbl[83]? = some ((Jvm.Cond.methodLink "OnionProbate$Reader" (3 : Nat) ({ cls := "java/lang/Object", name := "<init>", desc := "()V" } : Jvm.MethodName))) := by decide +kernel
theorem r84 : lw_tbl[84]? = some ((Jvm.Cond.fieldLink "OnionProbate$Reader" (9 : Nat) "OnionProbate$Reader" "letters" "[I")) := by decide +kernel
theorem r85 : lw_tbl[85]? = some ((Jvm.Cond.fieldLink "OnionProbate$Reader" (15 : Nat) "OnionProbate$Reader" "typeRow" "[I")) := by decide +kernel
theorem r86 : lw_tbl[86]? = some ((Jvm.Cond.fieldLink "OnionProbate$Reader" (18 : Nat) "OnionProbate$Reader" "length" "I")) := by decide +kernel
theorem r87 : lw_tbl[87]? = some ((Jvm.Cond.fieldLinkNest "OnionProbate" (117 : Nat) "OnionProbate$Reader" "length" "I" "OnionProbate")) := by decide +kernel
theorem r88 : lw_tbl[88]? = some ((Jvm.Cond.fieldLink "OnionProbate$Reader" (22 : Nat) "OnionProbate$Reader" "at" "I")) := by decide +kernel
theorem r89 : lw_tbl[89]? = some ((Jvm.Cond.fieldLink "OnionProbate$Reader" (25 : Nat) "OnionProbate$Reader" "faultNumber" "I")) := by decide +kernel
theorem r90 : lw_tbl[90]? = some ((Jvm.Cond.fieldLinkNest "OnionProbate" (84 : Nat) "OnionProbate$Reader" "faultNumber" "I" "OnionProbate")) := by decide +kernel
theorem r91 : lw_tbl[91]? = some ((Jvm.Cond.fieldLink "OnionProbate$Reader" (28 : Nat) "OnionProbate$Reader" "faultAt" "I")) := by decide +kernel
theorem r92 : lw_tbl[92]? = some ((Jvm.Cond.fieldLinkNest "OnionProbate" (105 : Nat) "OnionProbate$Reader" "faultAt" "I" "OnionProbate")) := by decide +kernel
theorem r109 : lw_tbl[109]? = some ((Jvm.Cond.methodLinkNest "OnionProbate" (18 : Nat) ({ cls := "OnionProbate$Case", name := "<init>", desc := "()V" } : Jvm.MethodName) "OnionProbate")) := by decide +kernel
theorem r110 : lw_tbl[110]? = some ((Jvm.Cond.instanceMethod ({ cls := "OnionProbate$Case", name := "<init>", desc := "()V" } : Jvm.MethodName))) := by decide +kernel
theorem r111 : lw_tbl[111]? = some ((Jvm.Cond.code ({ cls := "OnionProbate$Case", name := "<init>", desc := "()V" } : Jvm.MethodName) prog_3_method_1_code (1 : Nat) (Option.none : Option Jvm.ClassFile.FieldType))) := by decide +kernel
theorem r112 : lw_tbl[112]? = some ((Jvm.Cond.methodLink "OnionProbate$Case" (3 : Nat) ({ cls := "java/lang/Object", name := "<init>", desc := "()V" } : Jvm.MethodName))) := by decide +kernel
theorem r115 : lw_tbl[115]? = some ((Jvm.Cond.fieldLink "OnionProbate$Case" (9 : Nat) "OnionProbate$Case" "isThere" "Z")) := by decide +kernel
theorem r116 : lw_tbl[116]? = some ((Jvm.Cond.fieldLinkNest "OnionProbate$Onion" (61 : Nat) "OnionProbate$Case" "isThere" "Z" "OnionProbate")) := by decide +kernel
theorem r117 : lw_tbl[117]? = some ((Jvm.Cond.fieldLinkNest "OnionProbate$Reader" (40 : Nat) "OnionProbate$Case" "isThere" "Z" "OnionProbate")) := by decide +kernel
theorem r118 : lw_tbl[118]? = some ((Jvm.Cond.fieldLinkNest "OnionProbate" (108 : Nat) "OnionProbate$Case" "isThere" "Z" "OnionProbate")) := by decide +kernel
theorem r119 : lw_tbl[119]? = some ((Jvm.Cond.fieldLink "OnionProbate$Case" (15 : Nat) "OnionProbate$Case" "middle" "I")) := by decide +kernel
theorem r120 : lw_tbl[120]? = some ((Jvm.Cond.fieldLinkNest "OnionProbate$Reader" (52 : Nat) "OnionProbate$Case" "middle" "I" "OnionProbate")) := by decide +kernel
theorem r121 : lw_tbl[121]? = some ((Jvm.Cond.fieldLinkNest "OnionProbate" (129 : Nat) "OnionProbate$Case" "middle" "I" "OnionProbate")) := by decide +kernel
theorem r122 : lw_tbl[122]? = some ((Jvm.Cond.fieldLink "OnionProbate$Case" (19 : Nat) "OnionProbate$Case" "layers" "I")) := by decide +kernel
theorem r123 : lw_tbl[123]? = some ((Jvm.Cond.fieldLinkNest "OnionProbate$Onion" (50 : Nat) "OnionProbate$Case" "layers" "I" "OnionProbate")) := by decide +kernel
theorem r124 : lw_tbl[124]? = some ((Jvm.Cond.fieldLink "OnionProbate$Case" (22 : Nat) "OnionProbate$Case" "executors" "I")) := by decide +kernel
theorem r125 : lw_tbl[125]? = some ((Jvm.Cond.fieldLinkNest "OnionProbate" (111 : Nat) "OnionProbate$Case" "executors" "I" "OnionProbate")) := by decide +kernel
theorem r126 : lw_tbl[126]? = some ((Jvm.Cond.fieldLinkNest "OnionProbate$Onion" (85 : Nat) "OnionProbate$Case" "executors" "I" "OnionProbate")) := by decide +kernel
theorem r127 : lw_tbl[127]? = some ((Jvm.Cond.fieldLink "OnionProbate$Case" (25 : Nat) "OnionProbate$Case" "types" "I")) := by decide +kernel
theorem r128 : lw_tbl[128]? = some ((Jvm.Cond.fieldLinkNest "OnionProbate$Guesses" (27 : Nat) "OnionProbate$Case" "types" "I" "OnionProbate")) := by decide +kernel
theorem r129 : lw_tbl[129]? = some ((Jvm.Cond.fieldLinkNest "OnionProbate" (114 : Nat) "OnionProbate$Case" "types" "I" "OnionProbate")) := by decide +kernel
theorem r130 : lw_tbl[130]? = some ((Jvm.Cond.fieldLinkNest "OnionProbate$Trial" (77 : Nat) "OnionProbate$Case" "types" "I" "OnionProbate")) := by decide +kernel
theorem r131 : lw_tbl[131]? = some ((Jvm.Cond.fieldLink "OnionProbate$Case" (28 : Nat) "OnionProbate$Case" "kinds" "[I")) := by decide +kernel
theorem r132 : lw_tbl[132]? = some ((Jvm.Cond.fieldLinkNest "OnionProbate$Onion" (53 : Nat) "OnionProbate$Case" "kinds" "[I" "OnionProbate")) := by decide +kernel
theorem r133 : lw_tbl[133]? = some ((Jvm.Cond.fieldLink "OnionProbate$Case" (32 : Nat) "OnionProbate$Case" "thicks" "[I")) := by decide +kernel
theorem r134 : lw_tbl[134]? = some ((Jvm.Cond.fieldLinkNest "OnionProbate$Onion" (60 : Nat) "OnionProbate$Case" "thicks" "[I" "OnionProbate")) := by decide +kernel
theorem r135 : lw_tbl[135]? = some ((Jvm.Cond.fieldLink "OnionProbate$Case" (35 : Nat) "OnionProbate$Case" "cared" "[I")) := by decide +kernel
theorem r136 : lw_tbl[136]? = some ((Jvm.Cond.fieldLinkNest "OnionProbate" (188 : Nat) "OnionProbate$Case" "cared" "[I" "OnionProbate")) := by decide +kernel
theorem r137 : lw_tbl[137]? = some ((Jvm.Cond.fieldLink "OnionProbate$Case" (38 : Nat) "OnionProbate$Case" "quick" "[I")) := by decide +kernel
theorem r138 : lw_tbl[138]? = some ((Jvm.Cond.fieldLinkNest "OnionProbate" (191 : Nat) "OnionProbate$Case" "quick" "[I" "OnionProbate")) := by decide +kernel
theorem r139 : lw_tbl[139]? = some ((Jvm.Cond.fieldLinkNest "OnionProbate$Onion" (88 : Nat) "OnionProbate$Case" "quick" "[I" "OnionProbate")) := by decide +kernel
theorem r140 : lw_tbl[140]? = some ((Jvm.Cond.fieldLink "OnionProbate$Case" (41 : Nat) "OnionProbate$Case" "typeLengths" "[I")) := by decide +kernel
theorem r141 : lw_tbl[141]? = some ((Jvm.Cond.fieldLink "OnionProbate$Case" (46 : Nat) "OnionProbate$Case" "typeKinds" "[[I")) := by decide +kernel
theorem r167 : lw_tbl[167]? = some ((Jvm.Cond.methodLinkNest "OnionProbate" (28 : Nat) ({ cls := "OnionProbate$Onion", name := "<init>", desc := "()V" } : Jvm.MethodName) "OnionProbate")) := by decide +kernel
theorem r168 : lw_tbl[168]? = some ((Jvm.Cond.instanceMethod ({ cls := "OnionProbate$Onion", name := "<init>", desc := "()V" } : Jvm.MethodName))) := by decide +kernel
theorem r169 : lw_tbl[169]? = some ((Jvm.Cond.code ({ cls := "OnionProbate$Onion", name := "<init>", desc := "()V" } : Jvm.MethodName) prog_8_method_1_code (1 : Nat) (Option.none : Option Jvm.ClassFile.FieldType))) := by decide +kernel
theorem r170 : lw_tbl[170]? = some ((Jvm.Cond.methodLink "OnionProbate$Onion" (3 : Nat) ({ cls := "java/lang/Object", name := "<init>", desc := "()V" } : Jvm.MethodName))) := by decide +kernel
theorem r171 : lw_tbl[171]? = some ((Jvm.Cond.fieldLink "OnionProbate$Onion" (9 : Nat) "OnionProbate$Onion" "layers" "I")) := by decide +kernel
theorem r172 : lw_tbl[172]? = some ((Jvm.Cond.fieldLinkNest "OnionProbate$Trial" (24 : Nat) "OnionProbate$Onion" "layers" "I" "OnionProbate")) := by decide +kernel
theorem r173 : lw_tbl[173]? = some ((Jvm.Cond.fieldLinkNest "OnionProbate" (102 : Nat) "OnionProbate$Onion" "layers" "I" "OnionProbate")) := by decide +kernel
theorem r174 : lw_tbl[174]? = some ((Jvm.Cond.fieldLinkNest "OnionProbate$Case" (59 : Nat) "OnionProbate$Onion" "layers" "I" "OnionProbate")) := by decide +kernel
theorem r175 : lw_tbl[175]? = some ((Jvm.Cond.fieldLink "OnionProbate$Onion" (15 : Nat) "OnionProbate$Onion" "kinds" "[I")) := by decide +kernel
theorem r176 : lw_tbl[176]? = some ((Jvm.Cond.fieldLinkNest "OnionProbate$Trial" (41 : Nat) "OnionProbate$Onion" "kinds" "[I" "OnionProbate")) := by decide +kernel
theorem r177 : lw_tbl[177]? = some ((Jvm.Cond.fieldLinkNest "OnionProbate" (173 : Nat) "OnionProbate$Onion" "kinds" "[I" "OnionProbate")) := by decide +kernel
theorem r178 : lw_tbl[178]? = some ((Jvm.Cond.fieldLinkNest "OnionProbate$Case" (68 : Nat) "OnionProbate$Onion" "kinds" "[I" "OnionProbate")) := by decide +kernel
theorem r179 : lw_tbl[179]? = some ((Jvm.Cond.fieldLink "OnionProbate$Onion" (19 : Nat) "OnionProbate$Onion" "thicks" "[I")) := by decide +kernel
theorem r180 : lw_tbl[180]? = some ((Jvm.Cond.fieldLinkNest "OnionProbate" (176 : Nat) "OnionProbate$Onion" "thicks" "[I" "OnionProbate")) := by decide +kernel
theorem r181 : lw_tbl[181]? = some ((Jvm.Cond.fieldLink "OnionProbate$Onion" (22 : Nat) "OnionProbate$Onion" "got" "[I")) := by decide +kernel
theorem r182 : lw_tbl[182]? = some ((Jvm.Cond.fieldLinkNest "OnionProbate$Book" (23 : Nat) "OnionProbate$Onion" "got" "[I" "OnionProbate")) := by decide +kernel
theorem r183 : lw_tbl[183]? = some ((Jvm.Cond.fieldLinkNest "OnionProbate" (149 : Nat) "OnionProbate$Onion" "got" "[I" "OnionProbate")) := by decide +kernel
theorem r184 : lw_tbl[184]? = some ((Jvm.Cond.fieldLinkNest "OnionProbate$Trial" (56 : Nat) "OnionProbate$Onion" "got" "[I" "OnionProbate")) := by decide +kernel
theorem r185 : lw_tbl[185]? = some ((Jvm.Cond.fieldLink "OnionProbate$Onion" (25 : Nat) "OnionProbate$Onion" "tears" "[I")) := by decide +kernel
theorem r186 : lw_tbl[186]? = some ((Jvm.Cond.fieldLinkNest "OnionProbate" (194 : Nat) "OnionProbate$Onion" "tears" "[I" "OnionProbate")) := by decide +kernel
theorem r187 : lw_tbl[187]? = some ((Jvm.Cond.fieldLink "OnionProbate$Onion" (28 : Nat) "OnionProbate$Onion" "peeled" "[I")) := by decide +kernel
theorem r188 : lw_tbl[188]? = some ((Jvm.Cond.fieldLinkNest "OnionProbate" (197 : Nat) "OnionProbate$Onion" "peeled" "[I" "OnionProbate")) := by decide +kernel
theorem r189 : lw_tbl[189]? = some ((Jvm.Cond.fieldLink "OnionProbate$Onion" (31 : Nat) "OnionProbate$Onion" "log" "[I")) := by decide +kernel
theorem r190 : lw_tbl[190]? = some ((Jvm.Cond.fieldLinkNest "OnionProbate" (204 : Nat) "OnionProbate$Onion" "log" "[I" "OnionProbate")) := by decide +kernel
theorem r191 : lw_tbl[191]? = some ((Jvm.Cond.fieldLink "OnionProbate$Onion" (34 : Nat) "OnionProbate$Onion" "entries" "I")) := by decide +kernel
theorem r192 : lw_tbl[192]? = some ((Jvm.Cond.fieldLinkNest "OnionProbate" (164 : Nat) "OnionProbate$Onion" "entries" "I" "OnionProbate")) := by decide +kernel
theorem r193 : lw_tbl[193]? = some ((Jvm.Cond.fieldLink "OnionProbate$Onion" (37 : Nat) "OnionProbate$Onion" "years" "I")) := by decide +kernel
theorem r194 : lw_tbl[194]? = some ((Jvm.Cond.fieldLinkNest "OnionProbate" (120 : Nat) "OnionProbate$Onion" "years" "I" "OnionProbate")) := by decide +kernel
theorem r195 : lw_tbl[195]? = some ((Jvm.Cond.fieldLink "OnionProbate$Onion" (40 : Nat) "OnionProbate$Onion" "stopped" "Z")) := by decide +kernel
theorem r196 : lw_tbl[196]? = some ((Jvm.Cond.fieldLinkNest "OnionProbate" (123 : Nat) "OnionProbate$Onion" "stopped" "Z" "OnionProbate")) := by decide +kernel
theorem r197 : lw_tbl[197]? = some ((Jvm.Cond.fieldLink "OnionProbate$Onion" (44 : Nat) "OnionProbate$Onion" "found" "Z")) := by decide +kernel
theorem r198 : lw_tbl[198]? = some ((Jvm.Cond.fieldLinkNest "OnionProbate" (126 : Nat) "OnionProbate$Onion" "found" "Z" "OnionProbate")) := by decide +kernel
theorem r199 : lw_tbl[199]? = some ((Jvm.Cond.fieldLink "OnionProbate$Onion" (47 : Nat) "OnionProbate$Onion" "lastPeeler" "I")) := by decide +kernel
theorem r227 : lw_tbl[227]? = some ((Jvm.Cond.methodLink "OnionProbate" (35 : Nat) ({ cls := "OnionProbate$Deeds", name := "<init>", desc := "()V" } : Jvm.MethodName))) := by decide +kernel
theorem r228 : lw_tbl[228]? = some ((Jvm.Cond.instanceMethod ({ cls := "OnionProbate$Deeds", name := "<init>", desc := "()V" } : Jvm.MethodName))) := by decide +kernel
theorem r229 : lw_tbl[229]? = some ((Jvm.Cond.code ({ cls := "OnionProbate$Deeds", name := "<init>", desc := "()V" } : Jvm.MethodName) prog_4_method_1_code (2 : Nat) (Option.none : Option Jvm.ClassFile.FieldType))) := by decide +kernel
theorem r230 : lw_tbl[230]? = some ((Jvm.Cond.methodLink "OnionProbate$Deeds" (3 : Nat) ({ cls := "java/lang/Object", name := "<init>", desc := "()V" } : Jvm.MethodName))) := by decide +kernel
theorem r233 : lw_tbl[233]? = some ((Jvm.Cond.methodLinkNest "OnionProbate$Deeds" (24 : Nat) ({ cls := "OnionProbate$Onion", name := "<init>", desc := "()V" } : Jvm.MethodName) "OnionProbate")) := by decide +kernel
theorem r234 : lw_tbl[234]? = some ((Jvm.Cond.fieldLink "OnionProbate$Deeds" (11 : Nat) "OnionProbate$Deeds" "before" "[LOnionProbate$Onion;")) := by decide +kernel
theorem r235 : lw_tbl[235]? = some ((Jvm.Cond.fieldLink "OnionProbate$Deeds" (17 : Nat) "OnionProbate$Deeds" "next" "I")) := by decide +kernel
theorem r236 : lw_tbl[236]? = some ((Jvm.Cond.fieldLink "OnionProbate$Deeds" (21 : Nat) "OnionProbate$Deeds" "count" "I")) := by decide +kernel
theorem r237 : lw_tbl[237]? = some ((Jvm.Cond.fieldLinkNest "OnionProbate" (167 : Nat) "OnionProbate$Deeds" "count" "I" "OnionProbate")) := by decide +kernel
theorem r248 : lw_tbl[248]? = some ((Jvm.Cond.methodLinkNest "OnionProbate" (46 : Nat) ({ cls := "OnionProbate$Image", name := "<init>", desc := "()V" } : Jvm.MethodName) "OnionProbate")) := by decide +kernel
theorem r249 : lw_tbl[249]? = some ((Jvm.Cond.instanceMethod ({ cls := "OnionProbate$Image", name := "<init>", desc := "()V" } : Jvm.MethodName))) := by decide +kernel
theorem r250 : lw_tbl[250]? = some ((Jvm.Cond.code ({ cls := "OnionProbate$Image", name := "<init>", desc := "()V" } : Jvm.MethodName) prog_7_method_1_code (1 : Nat) (Option.none : Option Jvm.ClassFile.FieldType))) := by decide +kernel
theorem r251 : lw_tbl[251]? = some ((Jvm.Cond.methodLink "OnionProbate$Image" (1 : Nat) ({ cls := "java/lang/Object", name := "<init>", desc := "()V" } : Jvm.MethodName))) := by decide +kernel
theorem r253 : lw_tbl[253]? = some ((Jvm.Cond.methodLinkNest "OnionProbate$Image" (15 : Nat) ({ cls := "OnionProbate$Onion", name := "<init>", desc := "()V" } : Jvm.MethodName) "OnionProbate")) := by decide +kernel
theorem r254 : lw_tbl[254]? = some ((Jvm.Cond.fieldLink "OnionProbate$Image" (7 : Nat) "OnionProbate$Image" "kept" "Z")) := by decide +kernel
theorem r255 : lw_tbl[255]? = some ((Jvm.Cond.fieldLinkNest "OnionProbate" (98 : Nat) "OnionProbate$Image" "kept" "Z" "OnionProbate")) := by decide +kernel
theorem r256 : lw_tbl[256]? = some ((Jvm.Cond.fieldLink "OnionProbate$Image" (16 : Nat) "OnionProbate$Image" "onion" "LOnionProbate$Onion;")) := by decide +kernel
theorem r257 : lw_tbl[257]? = some ((Jvm.Cond.fieldLinkNest "OnionProbate" (298 : Nat) "OnionProbate$Image" "onion" "LOnionProbate$Onion;" "OnionProbate")) := by decide +kernel
theorem r258 : lw_tbl[258]? = some ((Jvm.Cond.fieldLink "OnionProbate$Image" (20 : Nat) "OnionProbate$Image" "drawState" "I")) := by decide +kernel
theorem r259 : lw_tbl[259]? = some ((Jvm.Cond.fieldLinkNest "OnionProbate" (302 : Nat) "OnionProbate$Image" "drawState" "I" "OnionProbate")) := by decide +kernel
theorem r269 : lw_tbl[269]? = some ((Jvm.Cond.methodLinkNest "OnionProbate" (49 : Nat) ({ cls := "OnionProbate$Guesses", name := "<init>", desc := "()V" } : Jvm.MethodName) "OnionProbate")) := by decide +kernel
theorem r270 : lw_tbl[270]? = some ((Jvm.Cond.instanceMethod ({ cls := "OnionProbate$Guesses", name := "<init>", desc := "()V" } : Jvm.MethodName))) := by decide +kernel
theorem r271 : lw_tbl[271]? = some ((Jvm.Cond.code ({ cls := "OnionProbate$Guesses", name := "<init>", desc := "()V" } : Jvm.MethodName) prog_6_method_1_code (1 : Nat) (Option.none : Option Jvm.ClassFile.FieldType))) := by decide +kernel
theorem r272 : lw_tbl[272]? = some ((Jvm.Cond.methodLink "OnionProbate$Guesses" (3 : Nat) ({ cls := "java/lang/Object", name := "<init>", desc := "()V" } : Jvm.MethodName))) := by decide +kernel
theorem r273 : lw_tbl[273]? = some ((Jvm.Cond.fieldLink "OnionProbate$Guesses" (9 : Nat) "OnionProbate$Guesses" "layerOf" "[I")) := by decide +kernel
theorem r274 : lw_tbl[274]? = some ((Jvm.Cond.fieldLink "OnionProbate$Guesses" (15 : Nat) "OnionProbate$Guesses" "kindOf" "[I")) := by decide +kernel
theorem r275 : lw_tbl[275]? = some ((Jvm.Cond.fieldLink "OnionProbate$Guesses" (18 : Nat) "OnionProbate$Guesses" "isSo" "[Z")) := by decide +kernel
theorem r276 : lw_tbl[276]? = some ((Jvm.Cond.fieldLink "OnionProbate$Guesses" (22 : Nat) "OnionProbate$Guesses" "count" "I")) := by decide +kernel
theorem r277 : lw_tbl[277]? = some ((Jvm.Cond.fieldLinkNest "OnionProbate" (91 : Nat) "OnionProbate$Guesses" "count" "I" "OnionProbate")) := by decide +kernel
theorem r290 : lw_tbl[290]? = some ((Jvm.Cond.methodLinkNest "OnionProbate" (56 : Nat) ({ cls := "OnionProbate$Book", name := "<init>", desc := "()V" } : Jvm.MethodName) "OnionProbate")) := by decide +kernel
theorem r291 : lw_tbl[291]? = some ((Jvm.Cond.instanceMethod ({ cls := "OnionProbate$Book", name := "<init>", desc := "()V" } : Jvm.MethodName))) := by decide +kernel
theorem r292 : lw_tbl[292]? = some ((Jvm.Cond.code ({ cls := "OnionProbate$Book", name := "<init>", desc := "()V" } : Jvm.MethodName) prog_2_method_1_code (1 : Nat) (Option.none : Option Jvm.ClassFile.FieldType))) := by decide +kernel
theorem r293 : lw_tbl[293]? = some ((Jvm.Cond.methodLink "OnionProbate$Book" (3 : Nat) ({ cls := "java/lang/Object", name := "<init>", desc := "()V" } : Jvm.MethodName))) := by decide +kernel
theorem r294 : lw_tbl[294]? = some ((Jvm.Cond.fieldLink "OnionProbate$Book" (9 : Nat) "OnionProbate$Book" "executorOf" "[I")) := by decide +kernel
theorem r295 : lw_tbl[295]? = some ((Jvm.Cond.fieldLink "OnionProbate$Book" (15 : Nat) "OnionProbate$Book" "gotOf" "[I")) := by decide +kernel
theorem r296 : lw_tbl[296]? = some ((Jvm.Cond.fieldLink "OnionProbate$Book" (18 : Nat) "OnionProbate$Book" "count" "I")) := by decide +kernel
theorem r297 : lw_tbl[297]? = some ((Jvm.Cond.fieldLinkNest "OnionProbate" (94 : Nat) "OnionProbate$Book" "count" "I" "OnionProbate")) := by decide +kernel
theorem r307 : lw_tbl[307]? = some ((Jvm.Cond.methodLinkNest "OnionProbate" (63 : Nat) ({ cls := "OnionProbate$Trial", name := "<init>", desc := "()V" } : Jvm.MethodName) "OnionProbate")) := by decide +kernel
theorem r308 : lw_tbl[308]? = some ((Jvm.Cond.instanceMethod ({ cls := "OnionProbate$Trial", name := "<init>", desc := "()V" } : Jvm.MethodName))) := by decide +kernel
theorem r309 : lw_tbl[309]? = some ((Jvm.Cond.code ({ cls := "OnionProbate$Trial", name := "<init>", desc := "()V" } : Jvm.MethodName) prog_10_method_1_code (1 : Nat) (Option.none : Option Jvm.ClassFile.FieldType))) := by decide +kernel
theorem r310 : lw_tbl[310]? = some ((Jvm.Cond.methodLink "OnionProbate$Trial" (3 : Nat) ({ cls := "java/lang/Object", name := "<init>", desc := "()V" } : Jvm.MethodName))) := by decide +kernel
theorem r311 : lw_tbl[311]? = some ((Jvm.Cond.fieldLink "OnionProbate$Trial" (9 : Nat) "OnionProbate$Trial" "row" "[I")) := by decide +kernel
theorem r312 : lw_tbl[312]? = some ((Jvm.Cond.fieldLinkNest "OnionProbate" (246 : Nat) "OnionProbate$Trial" "row" "[I" "OnionProbate")) := by decide +kernel
theorem r313 : lw_tbl[313]? = some ((Jvm.Cond.fieldLink "OnionProbate$Trial" (15 : Nat) "OnionProbate$Trial" "stingAbove" "[I")) := by decide +kernel
theorem r314 : lw_tbl[314]? = some ((Jvm.Cond.fieldLink "OnionProbate$Trial" (18 : Nat) "OnionProbate$Trial" "shares" "[I")) := by decide +kernel
theorem r315 : lw_tbl[315]? = some ((Jvm.Cond.fieldLinkNest "OnionProbate" (273 : Nat) "OnionProbate$Trial" "shares" "[I" "OnionProbate")) := by decide +kernel
theorem r316 : lw_tbl[316]? = some ((Jvm.Cond.fieldLink "OnionProbate$Trial" (21 : Nat) "OnionProbate$Trial" "alike" "[I")) := by decide +kernel
theorem r328 : lw_tbl[328]? = some ((Jvm.Cond.methodLinkNest "OnionProbate" (70 : Nat) ({ cls := "OnionProbate$Draws", name := "<init>", desc := "()V" } : Jvm.MethodName) "OnionProbate")) := by decide +kernel
theorem r329 : lw_tbl[329]? = some ((Jvm.Cond.instanceMethod ({ cls := "OnionProbate$Draws", name := "<init>", desc := "()V" } : Jvm.MethodName))) := by decide +kernel
theorem r330 : lw_tbl[330]? = some ((Jvm.Cond.code ({ cls := "OnionProbate$Draws", name := "<init>", desc := "()V" } : Jvm.MethodName) prog_5_method_1_code (1 : Nat) (Option.none : Option Jvm.ClassFile.FieldType))) := by decide +kernel
theorem r331 : lw_tbl[331]? = some ((Jvm.Cond.methodLink "OnionProbate$Draws" (1 : Nat) ({ cls := "java/lang/Object", name := "<init>", desc := "()V" } : Jvm.MethodName))) := by decide +kernel
theorem r332 : lw_tbl[332]? = some ((Jvm.Cond.fieldLink "OnionProbate$Draws" (7 : Nat) "OnionProbate$Draws" "state" "I")) := by decide +kernel
theorem r333 : lw_tbl[333]? = some ((Jvm.Cond.fieldLinkNest "OnionProbate" (295 : Nat) "OnionProbate$Draws" "state" "I" "OnionProbate")) := by decide +kernel
theorem r337 : lw_tbl[337]? = some ((Jvm.Cond.fieldLink "OnionProbate" (10 : Nat) "OnionProbate" "reader" "LOnionProbate$Reader;")) := by decide +kernel
theorem r338 : lw_tbl[338]? = some ((Jvm.Cond.fieldLink "OnionProbate" (19 : Nat) "OnionProbate" "theCase" "LOnionProbate$Case;")) := by decide +kernel
theorem r339 : lw_tbl[339]? = some ((Jvm.Cond.fieldLink "OnionProbate" (23 : Nat) "OnionProbate" "draft" "LOnionProbate$Case;")) := by decide +kernel
theorem r340 : lw_tbl[340]? = some ((Jvm.Cond.fieldLink "OnionProbate" (29 : Nat) "OnionProbate" "onion" "LOnionProbate$Onion;")) := by decide +kernel
theorem r341 : lw_tbl[341]? = some ((Jvm.Cond.fieldLink "OnionProbate" (36 : Nat) "OnionProbate" "deeds" "LOnionProbate$Deeds;")) := by decide +kernel
theorem r342 : lw_tbl[342]? = some ((Jvm.Cond.fieldLink "OnionProbate" (42 : Nat) "OnionProbate" "images" "[LOnionProbate$Image;")) := by decide +kernel
theorem r343 : lw_tbl[343]? = some ((Jvm.Cond.fieldLink "OnionProbate" (50 : Nat) "OnionProbate" "guesses" "LOnionProbate$Guesses;")) := by decide +kernel
theorem r344 : lw_tbl[344]? = some ((Jvm.Cond.fieldLink "OnionProbate" (57 : Nat) "OnionProbate" "book" "LOnionProbate$Book;")) := by decide +kernel
theorem r345 : lw_tbl[345]? = some ((Jvm.Cond.fieldLink "OnionProbate" (64 : Nat) "OnionProbate" "trial" "LOnionProbate$Trial;")) := by decide +kernel
theorem r346 : lw_tbl[346]? = some ((Jvm.Cond.fieldLink "OnionProbate" (71 : Nat) "OnionProbate" "draws" "LOnionProbate$Draws;")) := by decide +kernel
theorem r368 : lw_tbl[368]? = some ((Jvm.Cond.methodLink "OnionProbateLaw" (13 : Nat) ({ cls := "OnionProbate", name := "feed", desc := "(I)I" } : Jvm.MethodName))) := by decide +kernel
theorem r369 : lw_tbl[369]? = some ((Jvm.Cond.instanceMethod ({ cls := "OnionProbate", name := "feed", desc := "(I)I" } : Jvm.MethodName))) := by decide +kernel
theorem r370 : lw_tbl[370]? = some ((Jvm.Cond.selects "OnionProbate" ({ cls := "OnionProbate", name := "feed", desc := "(I)I" } : Jvm.MethodName) ({ cls := "OnionProbate", name := "feed", desc := "(I)I" } : Jvm.MethodName))) := by decide +kernel
theorem r371 : lw_tbl[371]? = some ((Jvm.Cond.code ({ cls := "OnionProbate", name := "feed", desc := "(I)I" } : Jvm.MethodName) prog_1_method_2_code (2 : Nat) (Option.some Jvm.ClassFile.FieldType.int))) := by decide +kernel
theorem r372 : lw_tbl[372]? = some ((Jvm.Cond.constant "OnionProbate" (75 : Nat) (-1000000002 : Int32))) := by decide +kernel
theorem r373 : lw_tbl[373]? = some ((Jvm.Cond.methodLink "OnionProbate" (76 : Nat) ({ cls := "OnionProbate$Reader", name := "add", desc := "(I)I" } : Jvm.MethodName))) := by decide +kernel
theorem r374 : lw_tbl[374]? = some ((Jvm.Cond.instanceMethod ({ cls := "OnionProbate$Reader", name := "add", desc := "(I)I" } : Jvm.MethodName))) := by decide +kernel
theorem r375 : lw_tbl[375]? = some ((Jvm.Cond.selects "OnionProbate$Reader" ({ cls := "OnionProbate$Reader", name := "add", desc := "(I)I" } : Jvm.MethodName) ({ cls := "OnionProbate$Reader", name := "add", desc := "(I)I" } : Jvm.MethodName))) := by decide +kernel
theorem r376 : lw_tbl[376]? = some ((Jvm.Cond.code ({ cls := "OnionProbate$Reader", name := "add", desc := "(I)I" } : Jvm.MethodName) prog_9_method_2_code (2 : Nat) (Option.some Jvm.ClassFile.FieldType.int))) := by decide +kernel
theorem r377 : lw_tbl[377]? = some ((Jvm.Cond.constant "OnionProbate$Reader" (31 : Nat) (-1000000004 : Int32))) := by decide +kernel
theorem r378 : lw_tbl[378]? = some ((Jvm.Cond.methodLink "OnionProbateLaw" (18 : Nat) ({ cls := "OnionProbate", name := "probate", desc := "()I" } : Jvm.MethodName))) := by decide +kernel
theorem r379 : lw_tbl[379]? = some ((Jvm.Cond.instanceMethod ({ cls := "OnionProbate", name := "probate", desc := "()I" } : Jvm.MethodName))) := by decide +kernel
theorem r380 : lw_tbl[380]? = some ((Jvm.Cond.selects "OnionProbate" ({ cls := "OnionProbate", name := "probate", desc := "()I" } : Jvm.MethodName) ({ cls := "OnionProbate", name := "probate", desc := "()I" } : Jvm.MethodName))) := by decide +kernel
theorem r381 : lw_tbl[381]? = some ((Jvm.Cond.code ({ cls := "OnionProbate", name := "probate", desc := "()I" } : Jvm.MethodName) prog_1_method_3_code (3 : Nat) (Option.some Jvm.ClassFile.FieldType.int))) := by decide +kernel
theorem r382 : lw_tbl[382]? = some ((Jvm.Cond.methodLink "OnionProbate" (80 : Nat) ({ cls := "OnionProbate$Reader", name := "readInto", desc := "(LOnionProbate$Case;)V" } : Jvm.MethodName))) := by decide +kernel
theorem r383 : lw_tbl[383]? = some ((Jvm.Cond.instanceMethod ({ cls := "OnionProbate$Reader", name := "readInto", desc := "(LOnionProbate$Case;)V" } : Jvm.MethodName))) := by decide +kernel
theorem r384 : lw_tbl[384]? = some ((Jvm.Cond.selects "OnionProbate$Reader" ({ cls := "OnionProbate$Reader", name := "readInto", desc := "(LOnionProbate$Case;)V" } : Jvm.MethodName) ({ cls := "OnionProbate$Reader", name := "readInto", desc := "(LOnionProbate$Case;)V" } : Jvm.MethodName))) := by decide +kernel
theorem r385 : lw_tbl[385]? = some ((Jvm.Cond.code ({ cls := "OnionProbate$Reader", name := "readInto", desc := "(LOnionProbate$Case;)V" } : Jvm.MethodName) prog_9_method_3_code (3 : Nat) (Option.none : Option Jvm.ClassFile.FieldType))) := by decide +kernel
theorem r386 : lw_tbl[386]? = some ((Jvm.Cond.methodLink "OnionProbate$Reader" (32 : Nat) ({ cls := "OnionProbate$Case", name := "clear", desc := "()V" } : Jvm.MethodName))) := by decide +kernel
theorem r387 : lw_tbl[387]? = some ((Jvm.Cond.instanceMethod ({ cls := "OnionProbate$Case", name := "clear", desc := "()V" } : Jvm.MethodName))) := by decide +kernel
theorem r388 : lw_tbl[388]? = some ((Jvm.Cond.selects "OnionProbate$Case" ({ cls := "OnionProbate$Case", name := "clear", desc := "()V" } : Jvm.MethodName) ({ cls := "OnionProbate$Case", name := "clear", desc := "()V" } : Jvm.MethodName))) := by decide +kernel
theorem r389 : lw_tbl[389]? = some ((Jvm.Cond.code ({ cls := "OnionProbate$Case", name := "clear", desc := "()V" } : Jvm.MethodName) prog_3_method_2_code (1 : Nat) (Option.none : Option Jvm.ClassFile.FieldType))) := by decide +kernel
theorem r390 : lw_tbl[390]? = some ((Jvm.Cond.methodLink "OnionProbate$Reader" (37 : Nat) ({ cls := "OnionProbate$Reader", name := "skipBlanks", desc := "()V" } : Jvm.MethodName))) := by decide +kernel
theorem r392 : lw_tbl[392]? = some ((Jvm.Cond.instanceMethod ({ cls := "OnionProbate$Reader", name := "skipBlanks", desc := "()V" } : Jvm.MethodName))) := by decide +kernel
theorem r393 : lw_tbl[393]? = some ((Jvm.Cond.code ({ cls := "OnionProbate$Reader", name := "skipBlanks", desc := "()V" } : Jvm.MethodName) prog_9_method_8_code (1 : Nat) (Option.none : Option Jvm.ClassFile.FieldType))) := by decide +kernel
theorem r394 : lw_tbl[394]? = some ((Jvm.Cond.methodLink "OnionProbate$Reader" (44 : Nat) ({ cls := "OnionProbate$Reader", name := "readClause", desc := "(LOnionProbate$Case;)V" } : Jvm.MethodName))) := by decide +kernel
theorem r396 : lw_tbl[396]? = some ((Jvm.Cond.instanceMethod ({ cls := "OnionProbate$Reader", name := "readClause", desc := "(LOnionProbate$Case;)V" } : Jvm.MethodName))) := by decide +kernel
theorem r397 : lw_tbl[397]? = some ((Jvm.Cond.code ({ cls := "OnionProbate$Reader", name := "readClause", desc := "(LOnionProbate$Case;)V" } : Jvm.MethodName) prog_9_method_4_code (4 : Nat) (Option.none : Option Jvm.ClassFile.FieldType))) := by decide +kernel
theorem r398 : lw_tbl[398]? = some ((Jvm.Cond.methodLink "OnionProbate$Reader" (48 : Nat) ({ cls := "OnionProbate$Reader", name := "here", desc := "()I" } : Jvm.MethodName))) := by decide +kernel
theorem r400 : lw_tbl[400]? = some ((Jvm.Cond.instanceMethod ({ cls := "OnionProbate$Reader", name := "here", desc := "()I" } : Jvm.MethodName))) := by decide +kernel
theorem r401 : lw_tbl[401]? = some ((Jvm.Cond.code ({ cls := "OnionProbate$Reader", name := "here", desc := "()I" } : Jvm.MethodName) prog_9_method_9_code (1 : Nat) (Option.some Jvm.ClassFile.FieldType.int))) := by decide +kernel
theorem r402 : lw_tbl[402]? = some ((Jvm.Cond.methodLink "OnionProbate$Reader" (55 : Nat) ({ cls := "OnionProbate$Reader", name := "blame", desc := "(II)V" } : Jvm.MethodName))) := by decide +kernel
theorem r404 : lw_tbl[404]? = some ((Jvm.Cond.instanceMethod ({ cls := "OnionProbate$Reader", name := "blame", desc := "(II)V" } : Jvm.MethodName))) := by decide +kernel
theorem r405 : lw_tbl[405]? = some ((Jvm.Cond.code ({ cls := "OnionProbate$Reader", name := "blame", desc := "(II)V" } : Jvm.MethodName) prog_9_method_10_code (3 : Nat) (Option.none : Option Jvm.ClassFile.FieldType))) := by decide +kernel
theorem r406 : lw_tbl[406]? = some ((Jvm.Cond.methodLink "OnionProbate$Reader" (59 : Nat) ({ cls := "OnionProbate$Case", name := "isFullOf", desc := "(I)Z" } : Jvm.MethodName))) := by decide +kernel
theorem r407 : lw_tbl[407]? = some ((Jvm.Cond.instanceMethod ({ cls := "OnionProbate$Case", name := "isFullOf", desc := "(I)Z" } : Jvm.MethodName))) := by decide +kernel
theorem r408 : lw_tbl[408]? = some ((Jvm.Cond.selects "OnionProbate$Case" ({ cls := "OnionProbate$Case", name := "isFullOf", desc := "(I)Z" } : Jvm.MethodName) ({ cls := "OnionProbate$Case", name := "isFullOf", desc := "(I)Z" } : Jvm.MethodName))) := by decide +kernel
theorem r409 : lw_tbl[409]? = some ((Jvm.Cond.code ({ cls := "OnionProbate$Case", name := "isFullOf", desc := "(I)Z" } : Jvm.MethodName) prog_3_method_4_code (2 : Nat) (Option.some Jvm.ClassFile.FieldType.boolean))) := by decide +kernel
theorem r410 : lw_tbl[410]? = some ((Jvm.Cond.methodLink "OnionProbate$Reader" (63 : Nat) ({ cls := "OnionProbate$Reader", name := "readRest", desc := "(ILOnionProbate$Case;)V" } : Jvm.MethodName))) := by decide +kernel
theorem r412 : lw_tbl[412]? = some ((Jvm.Cond.instanceMethod ({ cls := "OnionProbate$Reader", name := "readRest", desc := "(ILOnionProbate$Case;)V" } : Jvm.MethodName))) := by decide +kernel
theorem r413 : lw_tbl[413]? = some ((Jvm.Cond.code ({ cls := "OnionProbate$Reader", name := "readRest", desc := "(ILOnionProbate$Case;)V" } : Jvm.MethodName) prog_9_method_5_code (4 : Nat) (Option.none : Option Jvm.ClassFile.FieldType))) := by decide +kernel
theorem r414 : lw_tbl[414]? = some ((Jvm.Cond.methodLink "OnionProbate$Reader" (67 : Nat) ({ cls := "OnionProbate$Reader", name := "readNumber", desc := "(II)I" } : Jvm.MethodName))) := by decide +kernel
theorem r416 : lw_tbl[416]? = some ((Jvm.Cond.instanceMethod ({ cls := "OnionProbate$Reader", name := "readNumber", desc := "(II)I" } : Jvm.MethodName))) := by decide +kernel
theorem r417 : lw_tbl[417]? = some ((Jvm.Cond.code ({ cls := "OnionProbate$Reader", name := "readNumber", desc := "(II)I" } : Jvm.MethodName) prog_9_method_7_code (5 : Nat) (Option.some Jvm.ClassFile.FieldType.int))) := by decide +kernel
theorem r418 : lw_tbl[418]? = some ((Jvm.Cond.methodLink "OnionProbate$Reader" (71 : Nat) ({ cls := "OnionProbate$Case", name := "addLayer", desc := "(II)V" } : Jvm.MethodName))) := by decide +kernel
theorem r419 : lw_tbl[419]? = some ((Jvm.Cond.instanceMethod ({ cls := "OnionProbate$Case", name := "addLayer", desc := "(II)V" } : Jvm.MethodName))) := by decide +kernel
theorem r420 : lw_tbl[420]? = some ((Jvm.Cond.selects "OnionProbate$Case" ({ cls := "OnionProbate$Case", name := "addLayer", desc := "(II)V" } : Jvm.MethodName) ({ cls := "OnionProbate$Case", name := "addLayer", desc := "(II)V" } : Jvm.MethodName))) := by decide +kernel
theorem r421 : lw_tbl[421]? = some ((Jvm.Cond.code ({ cls := "OnionProbate$Case", name := "addLayer", desc := "(II)V" } : Jvm.MethodName) prog_3_method_5_code (3 : Nat) (Option.none : Option Jvm.ClassFile.FieldType))) := by decide +kernel
theorem r422 : lw_tbl[422]? = some ((Jvm.Cond.methodLink "OnionProbate$Reader" (74 : Nat) ({ cls := "OnionProbate$Case", name := "addExecutor", desc := "(II)V" } : Jvm.MethodName))) := by decide +kernel
theorem r423 : lw_tbl[423]? = some ((Jvm.Cond.instanceMethod ({ cls := "OnionProbate$Case", name := "addExecutor", desc := "(II)V" } : Jvm.MethodName))) := by decide +kernel
theorem r424 : lw_tbl[424]? = some ((Jvm.Cond.selects "OnionProbate$Case" ({ cls := "OnionProbate$Case", name := "addExecutor", desc := "(II)V" } : Jvm.MethodName) ({ cls := "OnionProbate$Case", name := "addExecutor", desc := "(II)V" } : Jvm.MethodName))) := by decide +kernel
theorem r425 : lw_tbl[425]? = some ((Jvm.Cond.code ({ cls := "OnionProbate$Case", name := "addExecutor", desc := "(II)V" } : Jvm.MethodName) prog_3_method_6_code (3 : Nat) (Option.none : Option Jvm.ClassFile.FieldType))) := by decide +kernel
theorem r426 : lw_tbl[426]? = some ((Jvm.Cond.methodLink "OnionProbate$Reader" (77 : Nat) ({ cls := "OnionProbate$Reader", name := "readType", desc := "(LOnionProbate$Case;)V" } : Jvm.MethodName))) := by decide +kernel
theorem r428 : lw_tbl[428]? = some ((Jvm.Cond.instanceMethod ({ cls := "OnionProbate$Reader", name := "readType", desc := "(LOnionProbate$Case;)V" } : Jvm.MethodName))) := by decide +kernel
theorem r429 : lw_tbl[429]? = some ((Jvm.Cond.code ({ cls := "OnionProbate$Reader", name := "readType", desc := "(LOnionProbate$Case;)V" } : Jvm.MethodName) prog_9_method_6_code (4 : Nat) (Option.none : Option Jvm.ClassFile.FieldType))) := by decide +kernel
theorem r430 : lw_tbl[430]? = some ((Jvm.Cond.methodLink "OnionProbate$Reader" (80 : Nat) ({ cls := "OnionProbate$Case", name := "addType", desc := "([II)V" } : Jvm.MethodName))) := by decide +kernel
theorem r431 : lw_tbl[431]? = some ((Jvm.Cond.instanceMethod ({ cls := "OnionProbate$Case", name := "addType", desc := "([II)V" } : Jvm.MethodName))) := by decide +kernel
theorem r432 : lw_tbl[432]? = some ((Jvm.Cond.selects "OnionProbate$Case" ({ cls := "OnionProbate$Case", name := "addType", desc := "([II)V" } : Jvm.MethodName) ({ cls := "OnionProbate$Case", name := "addType", desc := "([II)V" } : Jvm.MethodName))) := by decide +kernel
theorem r433 : lw_tbl[433]? = some ((Jvm.Cond.code ({ cls := "OnionProbate$Case", name := "addType", desc := "([II)V" } : Jvm.MethodName) prog_3_method_7_code (3 : Nat) (Option.none : Option Jvm.ClassFile.FieldType))) := by decide +kernel
theorem r434 : lw_tbl[434]? = some ((Jvm.Cond.methodLink "OnionProbate$Case" (49 : Nat) ({ cls := "java/lang/System", name := "arraycopy", desc := "(Ljava/lang/Object;ILjava/lang/Object;II)V" } : Jvm.MethodName))) := by decide +kernel
theorem r437 : lw_tbl[437]? = some ((Jvm.Cond.methodLink "OnionProbate" (88 : Nat) ({ cls := "OnionProbate$Onion", name := "begin", desc := "(LOnionProbate$Case;)V" } : Jvm.MethodName))) := by decide +kernel
theorem r438 : lw_tbl[438]? = some ((Jvm.Cond.instanceMethod ({ cls := "OnionProbate$Onion", name := "begin", desc := "(LOnionProbate$Case;)V" } : Jvm.MethodName))) := by decide +kernel
theorem r439 : lw_tbl[439]? = some ((Jvm.Cond.selects "OnionProbate$Onion" ({ cls := "OnionProbate$Onion", name := "begin", desc := "(LOnionProbate$Case;)V" } : Jvm.MethodName) ({ cls := "OnionProbate$Onion", name := "begin", desc := "(LOnionProbate$Case;)V" } : Jvm.MethodName))) := by decide +kernel
theorem r440 : lw_tbl[440]? = some ((Jvm.Cond.code ({ cls := "OnionProbate$Onion", name := "begin", desc := "(LOnionProbate$Case;)V" } : Jvm.MethodName) prog_8_method_2_code (3 : Nat) (Option.none : Option Jvm.ClassFile.FieldType))) := by decide +kernel
theorem r441 : lw_tbl[441]? = some ((Jvm.Cond.methodLink "OnionProbate$Onion" (54 : Nat) ({ cls := "java/lang/System", name := "arraycopy", desc := "(Ljava/lang/Object;ILjava/lang/Object;II)V" } : Jvm.MethodName))) := by decide +kernel
theorem r442 : lw_tbl[442]? = some ((Jvm.Cond.methodLink "OnionProbate" (95 : Nat) ({ cls := "OnionProbate$Deeds", name := "forget", desc := "()V" } : Jvm.MethodName))) := by decide +kernel
theorem r443 : lw_tbl[443]? = some ((Jvm.Cond.instanceMethod ({ cls := "OnionProbate$Deeds", name := "forget", desc := "()V" } : Jvm.MethodName))) := by decide +kernel
theorem r444 : lw_tbl[444]? = some ((Jvm.Cond.selects "OnionProbate$Deeds" ({ cls := "OnionProbate$Deeds", name := "forget", desc := "()V" } : Jvm.MethodName) ({ cls := "OnionProbate$Deeds", name := "forget", desc := "()V" } : Jvm.MethodName))) := by decide +kernel
theorem r445 : lw_tbl[445]? = some ((Jvm.Cond.code ({ cls := "OnionProbate$Deeds", name := "forget", desc := "()V" } : Jvm.MethodName) prog_4_method_2_code (1 : Nat) (Option.none : Option Jvm.ClassFile.FieldType))) := by decide +kernel
theorem r446 : lw_tbl[446]? = some ((Jvm.Cond.methodLink "OnionProbateLaw" (23 : Nat) ({ cls := "OnionProbate", name := "fault", desc := "()I" } : Jvm.MethodName))) := by decide +kernel
theorem r447 : lw_tbl[447]? = some ((Jvm.Cond.instanceMethod ({ cls := "OnionProbate", name := "fault", desc := "()I" } : Jvm.MethodName))) := by decide +kernel
theorem r448 : lw_tbl[448]? = some ((Jvm.Cond.selects "OnionProbate" ({ cls := "OnionProbate", name := "fault", desc := "()I" } : Jvm.MethodName) ({ cls := "OnionProbate", name := "fault", desc := "()I" } : Jvm.MethodName))) := by decide +kernel
theorem r449 : lw_tbl[449]? = some ((Jvm.Cond.code ({ cls := "OnionProbate", name := "fault", desc := "()I" } : Jvm.MethodName) prog_1_method_4_code (1 : Nat) (Option.some Jvm.ClassFile.FieldType.int))) := by decide +kernel
theorem r450 : lw_tbl[450]? = some ((Jvm.Cond.methodLink "OnionProbateLaw" (27 : Nat) ({ cls := "OnionProbate", name := "told", desc := "(I)I" } : Jvm.MethodName))) := by decide +kernel
theorem r451 : lw_tbl[451]? = some ((Jvm.Cond.instanceMethod ({ cls := "OnionProbate", name := "told", desc := "(I)I" } : Jvm.MethodName))) := by decide +kernel
theorem r452 : lw_tbl[452]? = some ((Jvm.Cond.selects "OnionProbate" ({ cls := "OnionProbate", name := "told", desc := "(I)I" } : Jvm.MethodName) ({ cls := "OnionProbate", name := "told", desc := "(I)I" } : Jvm.MethodName))) := by decide +kernel
theorem r453 : lw_tbl[453]? = some ((Jvm.Cond.code ({ cls := "OnionProbate", name := "told", desc := "(I)I" } : Jvm.MethodName) prog_1_method_5_code (2 : Nat) (Option.some Jvm.ClassFile.FieldType.int))) := by decide +kernel
theorem r454 : lw_tbl[454]? = some ((Jvm.Cond.methodLink "OnionProbate" (132 : Nat) ({ cls := "OnionProbate$Onion", name := "allThick", desc := "()I" } : Jvm.MethodName))) := by decide +kernel
theorem r455 : lw_tbl[455]? = some ((Jvm.Cond.instanceMethod ({ cls := "OnionProbate$Onion", name := "allThick", desc := "()I" } : Jvm.MethodName))) := by decide +kernel
theorem r456 : lw_tbl[456]? = some ((Jvm.Cond.selects "OnionProbate$Onion" ({ cls := "OnionProbate$Onion", name := "allThick", desc := "()I" } : Jvm.MethodName) ({ cls := "OnionProbate$Onion", name := "allThick", desc := "()I" } : Jvm.MethodName))) := by decide +kernel
theorem r457 : lw_tbl[457]? = some ((Jvm.Cond.code ({ cls := "OnionProbate$Onion", name := "allThick", desc := "()I" } : Jvm.MethodName) prog_8_method_13_code (3 : Nat) (Option.some Jvm.ClassFile.FieldType.int))) := by decide +kernel
theorem r458 : lw_tbl[458]? = some ((Jvm.Cond.methodLink "OnionProbate" (136 : Nat) ({ cls := "OnionProbate$Onion", name := "cut", desc := "()I" } : Jvm.MethodName))) := by decide +kernel
theorem r459 : lw_tbl[459]? = some ((Jvm.Cond.instanceMethod ({ cls := "OnionProbate$Onion", name := "cut", desc := "()I" } : Jvm.MethodName))) := by decide +kernel
theorem r460 : lw_tbl[460]? = some ((Jvm.Cond.selects "OnionProbate$Onion" ({ cls := "OnionProbate$Onion", name := "cut", desc := "()I" } : Jvm.MethodName) ({ cls := "OnionProbate$Onion", name := "cut", desc := "()I" } : Jvm.MethodName))) := by decide +kernel
theorem r461 : lw_tbl[461]? = some ((Jvm.Cond.code ({ cls := "OnionProbate$Onion", name := "cut", desc := "()I" } : Jvm.MethodName) prog_8_method_14_code (4 : Nat) (Option.some Jvm.ClassFile.FieldType.int))) := by decide +kernel
theorem r462 : lw_tbl[462]? = some ((Jvm.Cond.methodLink "OnionProbate$Onion" (94 : Nat) ({ cls := "OnionProbate$Onion", name := "allThick", desc := "()I" } : Jvm.MethodName))) := by decide +kernel
theorem r463 : lw_tbl[463]? = some ((Jvm.Cond.methodLink "OnionProbate" (139 : Nat) ({ cls := "OnionProbate$Case", name := "canBe", desc := "(LOnionProbate$Onion;)I" } : Jvm.MethodName))) := by decide +kernel
theorem r464 : lw_tbl[464]? = some ((Jvm.Cond.instanceMethod ({ cls := "OnionProbate$Case", name := "canBe", desc := "(LOnionProbate$Onion;)I" } : Jvm.MethodName))) := by decide +kernel
theorem r465 : lw_tbl[465]? = some ((Jvm.Cond.selects "OnionProbate$Case" ({ cls := "OnionProbate$Case", name := "canBe", desc := "(LOnionProbate$Onion;)I" } : Jvm.MethodName) ({ cls := "OnionProbate$Case", name := "canBe", desc := "(LOnionProbate$Onion;)I" } : Jvm.MethodName))) := by decide +kernel
theorem r466 : lw_tbl[466]? = some ((Jvm.Cond.code ({ cls := "OnionProbate$Case", name := "canBe", desc := "(LOnionProbate$Onion;)I" } : Jvm.MethodName) prog_3_method_9_code (4 : Nat) (Option.some Jvm.ClassFile.FieldType.int))) := by decide +kernel
theorem r467 : lw_tbl[467]? = some ((Jvm.Cond.methodLink "OnionProbate$Case" (55 : Nat) ({ cls := "OnionProbate$Case", name := "beginsAs", desc := "(ILOnionProbate$Onion;)Z" } : Jvm.MethodName))) := by decide +kernel
theorem r469 : lw_tbl[469]? = some ((Jvm.Cond.instanceMethod ({ cls := "OnionProbate$Case", name := "beginsAs", desc := "(ILOnionProbate$Onion;)Z" } : Jvm.MethodName))) := by decide +kernel
theorem r470 : lw_tbl[470]? = some ((Jvm.Cond.code ({ cls := "OnionProbate$Case", name := "beginsAs", desc := "(ILOnionProbate$Onion;)Z" } : Jvm.MethodName) prog_3_method_10_code (5 : Nat) (Option.some Jvm.ClassFile.FieldType.boolean))) := by decide +kernel
theorem r471 : lw_tbl[471]? = some ((Jvm.Cond.methodLink "OnionProbate$Case" (62 : Nat) ({ cls := "java/lang/Math", name := "min", desc := "(II)I" } : Jvm.MethodName))) := by decide +kernel
theorem r474 : lw_tbl[474]? = some ((Jvm.Cond.methodLink "OnionProbate" (143 : Nat) ({ cls := "OnionProbate$Case", name := "sureKind", desc := "(LOnionProbate$Onion;)I" } : Jvm.MethodName))) := by decide +kernel
theorem r475 : lw_tbl[475]? = some ((Jvm.Cond.instanceMethod ({ cls := "OnionProbate$Case", name := "sureKind", desc := "(LOnionProbate$Onion;)I" } : Jvm.MethodName))) := by decide +kernel
theorem r476 : lw_tbl[476]? = some ((Jvm.Cond.selects "OnionProbate$Case" ({ cls := "OnionProbate$Case", name := "sureKind", desc := "(LOnionProbate$Onion;)I" } : Jvm.MethodName) ({ cls := "OnionProbate$Case", name := "sureKind", desc := "(LOnionProbate$Onion;)I" } : Jvm.MethodName))) := by decide +kernel
theorem r477 : lw_tbl[477]? = some ((Jvm.Cond.code ({ cls := "OnionProbate$Case", name := "sureKind", desc := "(LOnionProbate$Onion;)I" } : Jvm.MethodName) prog_3_method_12_code (4 : Nat) (Option.some Jvm.ClassFile.FieldType.int))) := by decide +kernel
theorem r478 : lw_tbl[478]? = some ((Jvm.Cond.methodLink "OnionProbate$Case" (72 : Nat) ({ cls := "OnionProbate$Case", name := "countNext", desc := "(LOnionProbate$Onion;I)I" } : Jvm.MethodName))) := by decide +kernel
theorem r479 : lw_tbl[479]? = some ((Jvm.Cond.instanceMethod ({ cls := "OnionProbate$Case", name := "countNext", desc := "(LOnionProbate$Onion;I)I" } : Jvm.MethodName))) := by decide +kernel
theorem r480 : lw_tbl[480]? = some ((Jvm.Cond.selects "OnionProbate$Case" ({ cls := "OnionProbate$Case", name := "countNext", desc := "(LOnionProbate$Onion;I)I" } : Jvm.MethodName) ({ cls := "OnionProbate$Case", name := "countNext", desc := "(LOnionProbate$Onion;I)I" } : Jvm.MethodName))) := by decide +kernel
theorem r481 : lw_tbl[481]? = some ((Jvm.Cond.code ({ cls := "OnionProbate$Case", name := "countNext", desc := "(LOnionProbate$Onion;I)I" } : Jvm.MethodName) prog_3_method_11_code (5 : Nat) (Option.some Jvm.ClassFile.FieldType.int))) := by decide +kernel
theorem r482 : lw_tbl[482]? = some ((Jvm.Cond.methodLink "OnionProbate$Case" (69 : Nat) ({ cls := "OnionProbate$Case", name := "kindOfType", desc := "(II)I" } : Jvm.MethodName))) := by decide +kernel
theorem r483 : lw_tbl[483]? = some ((Jvm.Cond.instanceMethod ({ cls := "OnionProbate$Case", name := "kindOfType", desc := "(II)I" } : Jvm.MethodName))) := by decide +kernel
theorem r484 : lw_tbl[484]? = some ((Jvm.Cond.selects "OnionProbate$Case" ({ cls := "OnionProbate$Case", name := "kindOfType", desc := "(II)I" } : Jvm.MethodName) ({ cls := "OnionProbate$Case", name := "kindOfType", desc := "(II)I" } : Jvm.MethodName))) := by decide +kernel
theorem r485 : lw_tbl[485]? = some ((Jvm.Cond.code ({ cls := "OnionProbate$Case", name := "kindOfType", desc := "(II)I" } : Jvm.MethodName) prog_3_method_8_code (3 : Nat) (Option.some Jvm.ClassFile.FieldType.int))) := by decide +kernel
theorem r486 : lw_tbl[486]? = some ((Jvm.Cond.methodLink "OnionProbate" (146 : Nat) ({ cls := "OnionProbate$Onion", name := "law", desc := "()I" } : Jvm.MethodName))) := by decide +kernel
theorem r487 : lw_tbl[487]? = some ((Jvm.Cond.instanceMethod ({ cls := "OnionProbate$Onion", name := "law", desc := "()I" } : Jvm.MethodName))) := by decide +kernel
theorem r488 : lw_tbl[488]? = some ((Jvm.Cond.selects "OnionProbate$Onion" ({ cls := "OnionProbate$Onion", name := "law", desc := "()I" } : Jvm.MethodName) ({ cls := "OnionProbate$Onion", name := "law", desc := "()I" } : Jvm.MethodName))) := by decide +kernel
theorem r489 : lw_tbl[489]? = some ((Jvm.Cond.code ({ cls := "OnionProbate$Onion", name := "law", desc := "()I" } : Jvm.MethodName) prog_8_method_15_code (3 : Nat) (Option.some Jvm.ClassFile.FieldType.int))) := by decide +kernel
theorem r490 : lw_tbl[490]? = some ((Jvm.Cond.methodLinkNest "OnionProbate$Onion" (98 : Nat) ({ cls := "OnionProbate", name := "pairBit", desc := "(II)I" } : Jvm.MethodName) "OnionProbate")) := by decide +kernel
theorem r491 : lw_tbl[491]? = some ((Jvm.Cond.static ({ cls := "OnionProbate", name := "pairBit", desc := "(II)I" } : Jvm.MethodName))) := by decide +kernel
theorem r492 : lw_tbl[492]? = some ((Jvm.Cond.code ({ cls := "OnionProbate", name := "pairBit", desc := "(II)I" } : Jvm.MethodName) prog_1_method_37_code (2 : Nat) (Option.some Jvm.ClassFile.FieldType.int))) := by decide +kernel
theorem r493 : lw_tbl[493]? = some ((Jvm.Cond.methodLink "OnionProbate" (153 : Nat) ({ cls := "OnionProbate", name := "spread", desc := "([II)I" } : Jvm.MethodName))) := by decide +kernel
theorem r494 : lw_tbl[494]? = some ((Jvm.Cond.static ({ cls := "OnionProbate", name := "spread", desc := "([II)I" } : Jvm.MethodName))) := by decide +kernel
theorem r495 : lw_tbl[495]? = some ((Jvm.Cond.code ({ cls := "OnionProbate", name := "spread", desc := "([II)I" } : Jvm.MethodName) prog_1_method_36_code (5 : Nat) (Option.some Jvm.ClassFile.FieldType.int))) := by decide +kernel
theorem r496 : lw_tbl[496]? = some ((Jvm.Cond.methodLink "OnionProbate" (309 : Nat) ({ cls := "java/lang/Math", name := "min", desc := "(II)I" } : Jvm.MethodName))) := by decide +kernel
theorem r497 : lw_tbl[497]? = some ((Jvm.Cond.methodLink "OnionProbate" (314 : Nat) ({ cls := "java/lang/Math", name := "max", desc := "(II)I" } : Jvm.MethodName))) := by decide +kernel
theorem r500 : lw_tbl[500]? = some ((Jvm.Cond.methodLink "OnionProbate" (157 : Nat) ({ cls := "OnionProbate$Onion", name := "mostTears", desc := "(I)I" } : Jvm.MethodName))) := by decide +kernel
theorem r501 : lw_tbl[501]? = some ((Jvm.Cond.instanceMethod ({ cls := "OnionProbate$Onion", name := "mostTears", desc := "(I)I" } : Jvm.MethodName))) := by decide +kernel
theorem r502 : lw_tbl[502]? = some ((Jvm.Cond.selects "OnionProbate$Onion" ({ cls := "OnionProbate$Onion", name := "mostTears", desc := "(I)I" } : Jvm.MethodName) ({ cls := "OnionProbate$Onion", name := "mostTears", desc := "(I)I" } : Jvm.MethodName))) := by decide +kernel
theorem r503 : lw_tbl[503]? = some ((Jvm.Cond.code ({ cls := "OnionProbate$Onion", name := "mostTears", desc := "(I)I" } : Jvm.MethodName) prog_8_method_19_code (5 : Nat) (Option.some Jvm.ClassFile.FieldType.int))) := by decide +kernel
theorem r504 : lw_tbl[504]? = some ((Jvm.Cond.methodLink "OnionProbate" (160 : Nat) ({ cls := "OnionProbate$Onion", name := "dryIn", desc := "(LOnionProbate$Case;)I" } : Jvm.MethodName))) := by decide +kernel
theorem r505 : lw_tbl[505]? = some ((Jvm.Cond.instanceMethod ({ cls := "OnionProbate$Onion", name := "dryIn", desc := "(LOnionProbate$Case;)I" } : Jvm.MethodName))) := by decide +kernel
theorem r506 : lw_tbl[506]? = some ((Jvm.Cond.selects "OnionProbate$Onion" ({ cls := "OnionProbate$Onion", name := "dryIn", desc := "(LOnionProbate$Case;)I" } : Jvm.MethodName) ({ cls := "OnionProbate$Onion", name := "dryIn", desc := "(LOnionProbate$Case;)I" } : Jvm.MethodName))) := by decide +kernel
theorem r507 : lw_tbl[507]? = some ((Jvm.Cond.code ({ cls := "OnionProbate$Onion", name := "dryIn", desc := "(LOnionProbate$Case;)I" } : Jvm.MethodName) prog_8_method_20_code (5 : Nat) (Option.some Jvm.ClassFile.FieldType.int))) := by decide +kernel
theorem r508 : lw_tbl[508]? = some ((Jvm.Cond.methodLink "OnionProbate$Onion" (91 : Nat) ({ cls := "java/lang/Math", name := "max", desc := "(II)I" } : Jvm.MethodName))) := by decide +kernel
theorem r509 : lw_tbl[509]? = some ((Jvm.Cond.methodLink "OnionProbateLaw" (31 : Nat) ({ cls := "OnionProbate", name := "layer", desc := "(II)I" } : Jvm.MethodName))) := by decide +kernel
theorem r510 : lw_tbl[510]? = some ((Jvm.Cond.instanceMethod ({ cls := "OnionProbate", name := "layer", desc := "(II)I" } : Jvm.MethodName))) := by decide +kernel
theorem r511 : lw_tbl[511]? = some ((Jvm.Cond.selects "OnionProbate" ({ cls := "OnionProbate", name := "layer", desc := "(II)I" } : Jvm.MethodName) ({ cls := "OnionProbate", name := "layer", desc := "(II)I" } : Jvm.MethodName))) := by decide +kernel
theorem r512 : lw_tbl[512]? = some ((Jvm.Cond.code ({ cls := "OnionProbate", name := "layer", desc := "(II)I" } : Jvm.MethodName) prog_1_method_6_code (3 : Nat) (Option.some Jvm.ClassFile.FieldType.int))) := by decide +kernel
theorem r513 : lw_tbl[513]? = some ((Jvm.Cond.methodLink "OnionProbate" (168 : Nat) ({ cls := "OnionProbate$Onion", name := "hasLayer", desc := "(I)Z" } : Jvm.MethodName))) := by decide +kernel
theorem r514 : lw_tbl[514]? = some ((Jvm.Cond.instanceMethod ({ cls := "OnionProbate$Onion", name := "hasLayer", desc := "(I)Z" } : Jvm.MethodName))) := by decide +kernel
theorem r515 : lw_tbl[515]? = some ((Jvm.Cond.selects "OnionProbate$Onion" ({ cls := "OnionProbate$Onion", name := "hasLayer", desc := "(I)Z" } : Jvm.MethodName) ({ cls := "OnionProbate$Onion", name := "hasLayer", desc := "(I)Z" } : Jvm.MethodName))) := by decide +kernel
theorem r516 : lw_tbl[516]? = some ((Jvm.Cond.code ({ cls := "OnionProbate$Onion", name := "hasLayer", desc := "(I)Z" } : Jvm.MethodName) prog_8_method_4_code (2 : Nat) (Option.some Jvm.ClassFile.FieldType.boolean))) := by decide +kernel
theorem r517 : lw_tbl[517]? = some ((Jvm.Cond.constant "OnionProbate" (172 : Nat) (-1000000001 : Int32))) := by decide +kernel
theorem r518 : lw_tbl[518]? = some ((Jvm.Cond.methodLink "OnionProbate" (179 : Nat) ({ cls := "OnionProbate$Onion", name := "worthOf", desc := "(I)I" } : Jvm.MethodName))) := by decide +kernel
theorem r519 : lw_tbl[519]? = some ((Jvm.Cond.instanceMethod ({ cls := "OnionProbate$Onion", name := "worthOf", desc := "(I)I" } : Jvm.MethodName))) := by decide +kernel
theorem r520 : lw_tbl[520]? = some ((Jvm.Cond.selects "OnionProbate$Onion" ({ cls := "OnionProbate$Onion", name := "worthOf", desc := "(I)I" } : Jvm.MethodName) ({ cls := "OnionProbate$Onion", name := "worthOf", desc := "(I)I" } : Jvm.MethodName))) := by decide +kernel
theorem r521 : lw_tbl[521]? = some ((Jvm.Cond.code ({ cls := "OnionProbate$Onion", name := "worthOf", desc := "(I)I" } : Jvm.MethodName) prog_8_method_6_code (2 : Nat) (Option.some Jvm.ClassFile.FieldType.int))) := by decide +kernel
theorem r522 : lw_tbl[522]? = some ((Jvm.Cond.methodLink "OnionProbate$Onion" (64 : Nat) ({ cls := "OnionProbate$Onion", name := "hasLayer", desc := "(I)Z" } : Jvm.MethodName))) := by decide +kernel
theorem r523 : lw_tbl[523]? = some ((Jvm.Cond.methodLink "OnionProbate" (182 : Nat) ({ cls := "OnionProbate$Onion", name := "stingOf", desc := "(I)I" } : Jvm.MethodName))) := by decide +kernel
theorem r524 : lw_tbl[524]? = some ((Jvm.Cond.instanceMethod ({ cls := "OnionProbate$Onion", name := "stingOf", desc := "(I)I" } : Jvm.MethodName))) := by decide +kernel
theorem r525 : lw_tbl[525]? = some ((Jvm.Cond.selects "OnionProbate$Onion" ({ cls := "OnionProbate$Onion", name := "stingOf", desc := "(I)I" } : Jvm.MethodName) ({ cls := "OnionProbate$Onion", name := "stingOf", desc := "(I)I" } : Jvm.MethodName))) := by decide +kernel
theorem r526 : lw_tbl[526]? = some ((Jvm.Cond.code ({ cls := "OnionProbate$Onion", name := "stingOf", desc := "(I)I" } : Jvm.MethodName) prog_8_method_7_code (2 : Nat) (Option.some Jvm.ClassFile.FieldType.int))) := by decide +kernel
theorem r527 : lw_tbl[527]? = some ((Jvm.Cond.methodLink "OnionProbateLaw" (36 : Nat) ({ cls := "OnionProbate", name := "executor", desc := "(II)I" } : Jvm.MethodName))) := by decide +kernel
theorem r528 : lw_tbl[528]? = some ((Jvm.Cond.instanceMethod ({ cls := "OnionProbate", name := "executor", desc := "(II)I" } : Jvm.MethodName))) := by decide +kernel
theorem r529 : lw_tbl[529]? = some ((Jvm.Cond.selects "OnionProbate" ({ cls := "OnionProbate", name := "executor", desc := "(II)I" } : Jvm.MethodName) ({ cls := "OnionProbate", name := "executor", desc := "(II)I" } : Jvm.MethodName))) := by decide +kernel
theorem r530 : lw_tbl[530]? = some ((Jvm.Cond.code ({ cls := "OnionProbate", name := "executor", desc := "(II)I" } : Jvm.MethodName) prog_1_method_7_code (3 : Nat) (Option.some Jvm.ClassFile.FieldType.int))) := by decide +kernel
theorem r531 : lw_tbl[531]? = some ((Jvm.Cond.methodLink "OnionProbate" (185 : Nat) ({ cls := "OnionProbate$Case", name := "hasExecutor", desc := "(I)Z" } : Jvm.MethodName))) := by decide +kernel
theorem r532 : lw_tbl[532]? = some ((Jvm.Cond.instanceMethod ({ cls := "OnionProbate$Case", name := "hasExecutor", desc := "(I)Z" } : Jvm.MethodName))) := by decide +kernel
theorem r533 : lw_tbl[533]? = some ((Jvm.Cond.selects "OnionProbate$Case" ({ cls := "OnionProbate$Case", name := "hasExecutor", desc := "(I)Z" } : Jvm.MethodName) ({ cls := "OnionProbate$Case", name := "hasExecutor", desc := "(I)Z" } : Jvm.MethodName))) := by decide +kernel
theorem r534 : lw_tbl[534]? = some ((Jvm.Cond.code ({ cls := "OnionProbate$Case", name := "hasExecutor", desc := "(I)Z" } : Jvm.MethodName) prog_3_method_3_code (2 : Nat) (Option.some Jvm.ClassFile.FieldType.boolean))) := by decide +kernel
theorem r535 : lw_tbl[535]? = some ((Jvm.Cond.methodLink "OnionProbateLaw" (40 : Nat) ({ cls := "OnionProbate", name := "type", desc := "(II)I" } : Jvm.MethodName))) := by decide +kernel
theorem r536 : lw_tbl[536]? = some ((Jvm.Cond.instanceMethod ({ cls := "OnionProbate", name := "type", desc := "(II)I" } : Jvm.MethodName))) := by decide +kernel
theorem r537 : lw_tbl[537]? = some ((Jvm.Cond.selects "OnionProbate" ({ cls := "OnionProbate", name := "type", desc := "(II)I" } : Jvm.MethodName) ({ cls := "OnionProbate", name := "type", desc := "(II)I" } : Jvm.MethodName))) := by decide +kernel
theorem r538 : lw_tbl[538]? = some ((Jvm.Cond.code ({ cls := "OnionProbate", name := "type", desc := "(II)I" } : Jvm.MethodName) prog_1_method_8_code (3 : Nat) (Option.some Jvm.ClassFile.FieldType.int))) := by decide +kernel
theorem r539 : lw_tbl[539]? = some ((Jvm.Cond.methodLink "OnionProbate" (200 : Nat) ({ cls := "OnionProbate$Case", name := "kindOfType", desc := "(II)I" } : Jvm.MethodName))) := by decide +kernel
theorem r540 : lw_tbl[540]? = some ((Jvm.Cond.methodLink "OnionProbateLaw" (44 : Nat) ({ cls := "OnionProbate", name := "logged", desc := "(II)I" } : Jvm.MethodName))) := by decide +kernel
theorem r541 : lw_tbl[541]? = some ((Jvm.Cond.instanceMethod ({ cls := "OnionProbate", name := "logged", desc := "(II)I" } : Jvm.MethodName))) := by decide +kernel
theorem r542 : lw_tbl[542]? = some ((Jvm.Cond.selects "OnionProbate" ({ cls := "OnionProbate", name := "logged", desc := "(II)I" } : Jvm.MethodName) ({ cls := "OnionProbate", name := "logged", desc := "(II)I" } : Jvm.MethodName))) := by decide +kernel
theorem r543 : lw_tbl[543]? = some ((Jvm.Cond.code ({ cls := "OnionProbate", name := "logged", desc := "(II)I" } : Jvm.MethodName) prog_1_method_9_code (3 : Nat) (Option.some Jvm.ClassFile.FieldType.int))) := by decide +kernel
theorem r544 : lw_tbl[544]? = some ((Jvm.Cond.methodLink "OnionProbateLaw" (48 : Nat) ({ cls := "OnionProbate", name := "peel", desc := "(I)I" } : Jvm.MethodName))) := by decide +kernel
theorem r545 : lw_tbl[545]? = some ((Jvm.Cond.instanceMethod ({ cls := "OnionProbate", name := "peel", desc := "(I)I" } : Jvm.MethodName))) := by decide +kernel
theorem r546 : lw_tbl[546]? = some ((Jvm.Cond.selects "OnionProbate" ({ cls := "OnionProbate", name := "peel", desc := "(I)I" } : Jvm.MethodName) ({ cls := "OnionProbate", name := "peel", desc := "(I)I" } : Jvm.MethodName))) := by decide +kernel
theorem r547 : lw_tbl[547]? = some ((Jvm.Cond.code ({ cls := "OnionProbate", name := "peel", desc := "(I)I" } : Jvm.MethodName) prog_1_method_10_code (2 : Nat) (Option.some Jvm.ClassFile.FieldType.int))) := by decide +kernel
theorem r548 : lw_tbl[548]? = some ((Jvm.Cond.methodLink "OnionProbate" (207 : Nat) ({ cls := "OnionProbate$Onion", name := "canBePeeled", desc := "()Z" } : Jvm.MethodName))) := by decide +kernel
theorem r549 : lw_tbl[549]? = some ((Jvm.Cond.instanceMethod ({ cls := "OnionProbate$Onion", name := "canBePeeled", desc := "()Z" } : Jvm.MethodName))) := by decide +kernel
theorem r550 : lw_tbl[550]? = some ((Jvm.Cond.selects "OnionProbate$Onion" ({ cls := "OnionProbate$Onion", name := "canBePeeled", desc := "()Z" } : Jvm.MethodName) ({ cls := "OnionProbate$Onion", name := "canBePeeled", desc := "()Z" } : Jvm.MethodName))) := by decide +kernel
theorem r551 : lw_tbl[551]? = some ((Jvm.Cond.code ({ cls := "OnionProbate$Onion", name := "canBePeeled", desc := "()Z" } : Jvm.MethodName) prog_8_method_5_code (1 : Nat) (Option.some Jvm.ClassFile.FieldType.boolean))) := by decide +kernel
theorem r552 : lw_tbl[552]? = some ((Jvm.Cond.constant "OnionProbate" (211 : Nat) (-1000000003 : Int32))) := by decide +kernel
theorem r553 : lw_tbl[553]? = some ((Jvm.Cond.methodLink "OnionProbate" (212 : Nat) ({ cls := "OnionProbate$Deeds", name := "remember", desc := "(LOnionProbate$Onion;)V" } : Jvm.MethodName))) := by decide +kernel
theorem r554 : lw_tbl[554]? = some ((Jvm.Cond.instanceMethod ({ cls := "OnionProbate$Deeds", name := "remember", desc := "(LOnionProbate$Onion;)V" } : Jvm.MethodName))) := by decide +kernel
theorem r555 : lw_tbl[555]? = some ((Jvm.Cond.selects "OnionProbate$Deeds" ({ cls := "OnionProbate$Deeds", name := "remember", desc := "(LOnionProbate$Onion;)V" } : Jvm.MethodName) ({ cls := "OnionProbate$Deeds", name := "remember", desc := "(LOnionProbate$Onion;)V" } : Jvm.MethodName))) := by decide +kernel
theorem r556 : lw_tbl[556]? = some ((Jvm.Cond.code ({ cls := "OnionProbate$Deeds", name := "remember", desc := "(LOnionProbate$Onion;)V" } : Jvm.MethodName) prog_4_method_3_code (2 : Nat) (Option.none : Option Jvm.ClassFile.FieldType))) := by decide +kernel
theorem r557 : lw_tbl[557]? = some ((Jvm.Cond.methodLink "OnionProbate$Deeds" (25 : Nat) ({ cls := "OnionProbate$Onion", name := "copy", desc := "(LOnionProbate$Onion;)V" } : Jvm.MethodName))) := by decide +kernel
theorem r558 : lw_tbl[558]? = some ((Jvm.Cond.instanceMethod ({ cls := "OnionProbate$Onion", name := "copy", desc := "(LOnionProbate$Onion;)V" } : Jvm.MethodName))) := by decide +kernel
theorem r559 : lw_tbl[559]? = some ((Jvm.Cond.selects "OnionProbate$Onion" ({ cls := "OnionProbate$Onion", name := "copy", desc := "(LOnionProbate$Onion;)V" } : Jvm.MethodName) ({ cls := "OnionProbate$Onion", name := "copy", desc := "(LOnionProbate$Onion;)V" } : Jvm.MethodName))) := by decide +kernel
theorem r560 : lw_tbl[560]? = some ((Jvm.Cond.code ({ cls := "OnionProbate$Onion", name := "copy", desc := "(LOnionProbate$Onion;)V" } : Jvm.MethodName) prog_8_method_3_code (2 : Nat) (Option.none : Option Jvm.ClassFile.FieldType))) := by decide +kernel
theorem r561 : lw_tbl[561]? = some ((Jvm.Cond.methodLink "OnionProbate$Deeds" (29 : Nat) ({ cls := "java/lang/Math", name := "min", desc := "(II)I" } : Jvm.MethodName))) := by decide +kernel
theorem r562 : lw_tbl[562]? = some ((Jvm.Cond.methodLink "OnionProbate" (216 : Nat) ({ cls := "OnionProbate$Onion", name := "takeOff", desc := "(II)I" } : Jvm.MethodName))) := by decide +kernel
theorem r563 : lw_tbl[563]? = some ((Jvm.Cond.instanceMethod ({ cls := "OnionProbate$Onion", name := "takeOff", desc := "(II)I" } : Jvm.MethodName))) := by decide +kernel
theorem r564 : lw_tbl[564]? = some ((Jvm.Cond.selects "OnionProbate$Onion" ({ cls := "OnionProbate$Onion", name := "takeOff", desc := "(II)I" } : Jvm.MethodName) ({ cls := "OnionProbate$Onion", name := "takeOff", desc := "(II)I" } : Jvm.MethodName))) := by decide +kernel
theorem r565 : lw_tbl[565]? = some ((Jvm.Cond.code ({ cls := "OnionProbate$Onion", name := "takeOff", desc := "(II)I" } : Jvm.MethodName) prog_8_method_9_code (4 : Nat) (Option.some Jvm.ClassFile.FieldType.int))) := by decide +kernel
theorem r566 : lw_tbl[566]? = some ((Jvm.Cond.methodLink "OnionProbate$Onion" (68 : Nat) ({ cls := "OnionProbate$Onion", name := "worthOf", desc := "(I)I" } : Jvm.MethodName))) := by decide +kernel
theorem r567 : lw_tbl[567]? = some ((Jvm.Cond.methodLink "OnionProbate$Onion" (72 : Nat) ({ cls := "java/lang/Math", name := "min", desc := "(II)I" } : Jvm.MethodName))) := by decide +kernel
theorem r568 : lw_tbl[568]? = some ((Jvm.Cond.methodLink "OnionProbate$Onion" (78 : Nat) ({ cls := "OnionProbate$Onion", name := "stingOf", desc := "(I)I" } : Jvm.MethodName))) := by decide +kernel
theorem r569 : lw_tbl[569]? = some ((Jvm.Cond.methodLink "OnionProbate$Onion" (81 : Nat) ({ cls := "OnionProbate$Onion", name := "enter", desc := "(I)V" } : Jvm.MethodName))) := by decide +kernel
theorem r571 : lw_tbl[571]? = some ((Jvm.Cond.instanceMethod ({ cls := "OnionProbate$Onion", name := "enter", desc := "(I)V" } : Jvm.MethodName))) := by decide +kernel
theorem r572 : lw_tbl[572]? = some ((Jvm.Cond.code ({ cls := "OnionProbate$Onion", name := "enter", desc := "(I)V" } : Jvm.MethodName) prog_8_method_10_code (2 : Nat) (Option.none : Option Jvm.ClassFile.FieldType))) := by decide +kernel
theorem r573 : lw_tbl[573]? = some ((Jvm.Cond.methodLink "OnionProbateLaw" (52 : Nat) ({ cls := "OnionProbate", name := "stop", desc := "(Z)I" } : Jvm.MethodName))) := by decide +kernel
theorem r574 : lw_tbl[574]? = some ((Jvm.Cond.instanceMethod ({ cls := "OnionProbate", name := "stop", desc := "(Z)I" } : Jvm.MethodName))) := by decide +kernel
theorem r575 : lw_tbl[575]? = some ((Jvm.Cond.selects "OnionProbate" ({ cls := "OnionProbate", name := "stop", desc := "(Z)I" } : Jvm.MethodName) ({ cls := "OnionProbate", name := "stop", desc := "(Z)I" } : Jvm.MethodName))) := by decide +kernel
theorem r576 : lw_tbl[576]? = some ((Jvm.Cond.code ({ cls := "OnionProbate", name := "stop", desc := "(Z)I" } : Jvm.MethodName) prog_1_method_11_code (3 : Nat) (Option.some Jvm.ClassFile.FieldType.int))) := by decide +kernel
theorem r577 : lw_tbl[577]? = some ((Jvm.Cond.methodLink "OnionProbateLaw" (57 : Nat) ({ cls := "OnionProbate", name := "visit", desc := "()I" } : Jvm.MethodName))) := by decide +kernel
theorem r578 : lw_tbl[578]? = some ((Jvm.Cond.instanceMethod ({ cls := "OnionProbate", name := "visit", desc := "()I" } : Jvm.MethodName))) := by decide +kernel
theorem r579 : lw_tbl[579]? = some ((Jvm.Cond.selects "OnionProbate" ({ cls := "OnionProbate", name := "visit", desc := "()I" } : Jvm.MethodName) ({ cls := "OnionProbate", name := "visit", desc := "()I" } : Jvm.MethodName))) := by decide +kernel
theorem r580 : lw_tbl[580]? = some ((Jvm.Cond.code ({ cls := "OnionProbate", name := "visit", desc := "()I" } : Jvm.MethodName) prog_1_method_12_code (1 : Nat) (Option.some Jvm.ClassFile.FieldType.int))) := by decide +kernel
theorem r581 : lw_tbl[581]? = some ((Jvm.Cond.methodLink "OnionProbate" (219 : Nat) ({ cls := "OnionProbate$Onion", name := "thicken", desc := "()V" } : Jvm.MethodName))) := by decide +kernel
theorem r582 : lw_tbl[582]? = some ((Jvm.Cond.instanceMethod ({ cls := "OnionProbate$Onion", name := "thicken", desc := "()V" } : Jvm.MethodName))) := by decide +kernel
theorem r583 : lw_tbl[583]? = some ((Jvm.Cond.selects "OnionProbate$Onion" ({ cls := "OnionProbate$Onion", name := "thicken", desc := "()V" } : Jvm.MethodName) ({ cls := "OnionProbate$Onion", name := "thicken", desc := "()V" } : Jvm.MethodName))) := by decide +kernel
theorem r584 : lw_tbl[584]? = some ((Jvm.Cond.code ({ cls := "OnionProbate$Onion", name := "thicken", desc := "()V" } : Jvm.MethodName) prog_8_method_11_code (1 : Nat) (Option.none : Option Jvm.ClassFile.FieldType))) := by decide +kernel
theorem r585 : lw_tbl[585]? = some ((Jvm.Cond.methodLink "OnionProbateLaw" (61 : Nat) ({ cls := "OnionProbate", name := "year", desc := "(I)I" } : Jvm.MethodName))) := by decide +kernel
theorem r586 : lw_tbl[586]? = some ((Jvm.Cond.instanceMethod ({ cls := "OnionProbate", name := "year", desc := "(I)I" } : Jvm.MethodName))) := by decide +kernel
theorem r587 : lw_tbl[587]? = some ((Jvm.Cond.selects "OnionProbate" ({ cls := "OnionProbate", name := "year", desc := "(I)I" } : Jvm.MethodName) ({ cls := "OnionProbate", name := "year", desc := "(I)I" } : Jvm.MethodName))) := by decide +kernel
theorem r588 : lw_tbl[588]? = some ((Jvm.Cond.code ({ cls := "OnionProbate", name := "year", desc := "(I)I" } : Jvm.MethodName) prog_1_method_13_code (4 : Nat) (Option.some Jvm.ClassFile.FieldType.int))) := by decide +kernel
theorem r589 : lw_tbl[589]? = some ((Jvm.Cond.methodLink "OnionProbate" (222 : Nat) ({ cls := "OnionProbate", name := "refusalOfYears", desc := "(I)I" } : Jvm.MethodName))) := by decide +kernel
theorem r591 : lw_tbl[591]? = some ((Jvm.Cond.instanceMethod ({ cls := "OnionProbate", name := "refusalOfYears", desc := "(I)I" } : Jvm.MethodName))) := by decide +kernel
theorem r592 : lw_tbl[592]? = some ((Jvm.Cond.code ({ cls := "OnionProbate", name := "refusalOfYears", desc := "(I)I" } : Jvm.MethodName) prog_1_method_34_code (2 : Nat) (Option.some Jvm.ClassFile.FieldType.int))) := by decide +kernel
theorem r593 : lw_tbl[593]? = some ((Jvm.Cond.constant "OnionProbate" (305 : Nat) (-1000000004 : Int32))) := by decide +kernel
theorem r594 : lw_tbl[594]? = some ((Jvm.Cond.methodLink "OnionProbate" (225 : Nat) ({ cls := "OnionProbate$Onion", name := "passYear", desc := "(LOnionProbate$Case;)V" } : Jvm.MethodName))) := by decide +kernel
theorem r595 : lw_tbl[595]? = some ((Jvm.Cond.instanceMethod ({ cls := "OnionProbate$Onion", name := "passYear", desc := "(LOnionProbate$Case;)V" } : Jvm.MethodName))) := by decide +kernel
theorem r596 : lw_tbl[596]? = some ((Jvm.Cond.selects "OnionProbate$Onion" ({ cls := "OnionProbate$Onion", name := "passYear", desc := "(LOnionProbate$Case;)V" } : Jvm.MethodName) ({ cls := "OnionProbate$Onion", name := "passYear", desc := "(LOnionProbate$Case;)V" } : Jvm.MethodName))) := by decide +kernel
theorem r597 : lw_tbl[597]? = some ((Jvm.Cond.code ({ cls := "OnionProbate$Onion", name := "passYear", desc := "(LOnionProbate$Case;)V" } : Jvm.MethodName) prog_8_method_12_code (3 : Nat) (Option.none : Option Jvm.ClassFile.FieldType))) := by decide +kernel
theorem r598 : lw_tbl[598]? = some ((Jvm.Cond.methodLink "OnionProbateLaw" (65 : Nat) ({ cls := "OnionProbate", name := "drift", desc := "(I)I" } : Jvm.MethodName))) := by decide +kernel
theorem r599 : lw_tbl[599]? = some ((Jvm.Cond.instanceMethod ({ cls := "OnionProbate", name := "drift", desc := "(I)I" } : Jvm.MethodName))) := by decide +kernel
theorem r600 : lw_tbl[600]? = some ((Jvm.Cond.selects "OnionProbate" ({ cls := "OnionProbate", name := "drift", desc := "(I)I" } : Jvm.MethodName) ({ cls := "OnionProbate", name := "drift", desc := "(I)I" } : Jvm.MethodName))) := by decide +kernel
theorem r601 : lw_tbl[601]? = some ((Jvm.Cond.code ({ cls := "OnionProbate", name := "drift", desc := "(I)I" } : Jvm.MethodName) prog_1_method_14_code (4 : Nat) (Option.some Jvm.ClassFile.FieldType.int))) := by decide +kernel
theorem r602 : lw_tbl[602]? = some ((Jvm.Cond.methodLink "OnionProbate" (228 : Nat) ({ cls := "OnionProbate", name := "doByDraw", desc := "()V" } : Jvm.MethodName))) := by decide +kernel
theorem r604 : lw_tbl[604]? = some ((Jvm.Cond.instanceMethod ({ cls := "OnionProbate", name := "doByDraw", desc := "()V" } : Jvm.MethodName))) := by decide +kernel
theorem r605 : lw_tbl[605]? = some ((Jvm.Cond.code ({ cls := "OnionProbate", name := "doByDraw", desc := "()V" } : Jvm.MethodName) prog_1_method_35_code (2 : Nat) (Option.none : Option Jvm.ClassFile.FieldType))) := by decide +kernel
theorem r606 : lw_tbl[606]? = some ((Jvm.Cond.methodLink "OnionProbate" (306 : Nat) ({ cls := "OnionProbate$Draws", name := "below", desc := "(I)I" } : Jvm.MethodName))) := by decide +kernel
theorem r607 : lw_tbl[607]? = some ((Jvm.Cond.instanceMethod ({ cls := "OnionProbate$Draws", name := "below", desc := "(I)I" } : Jvm.MethodName))) := by decide +kernel
theorem r608 : lw_tbl[608]? = some ((Jvm.Cond.selects "OnionProbate$Draws" ({ cls := "OnionProbate$Draws", name := "below", desc := "(I)I" } : Jvm.MethodName) ({ cls := "OnionProbate$Draws", name := "below", desc := "(I)I" } : Jvm.MethodName))) := by decide +kernel
theorem r609 : lw_tbl[609]? = some ((Jvm.Cond.code ({ cls := "OnionProbate$Draws", name := "below", desc := "(I)I" } : Jvm.MethodName) prog_5_method_2_code (2 : Nat) (Option.some Jvm.ClassFile.FieldType.int))) := by decide +kernel
theorem r610 : lw_tbl[610]? = some ((Jvm.Cond.constant "OnionProbate$Draws" (13 : Nat) (1103515245 : Int32))) := by decide +kernel
theorem r611 : lw_tbl[611]? = some ((Jvm.Cond.constant "OnionProbate$Draws" (14 : Nat) (2147483647 : Int32))) := by decide +kernel
theorem r612 : lw_tbl[612]? = some ((Jvm.Cond.constant "OnionProbate$Draws" (15 : Nat) (65536 : Int32))) := by decide +kernel
theorem r613 : lw_tbl[613]? = some ((Jvm.Cond.methodLink "OnionProbateLaw" (69 : Nat) ({ cls := "OnionProbate", name := "undo", desc := "(I)I" } : Jvm.MethodName))) := by decide +kernel
theorem r614 : lw_tbl[614]? = some ((Jvm.Cond.instanceMethod ({ cls := "OnionProbate", name := "undo", desc := "(I)I" } : Jvm.MethodName))) := by decide +kernel
theorem r615 : lw_tbl[615]? = some ((Jvm.Cond.selects "OnionProbate" ({ cls := "OnionProbate", name := "undo", desc := "(I)I" } : Jvm.MethodName) ({ cls := "OnionProbate", name := "undo", desc := "(I)I" } : Jvm.MethodName))) := by decide +kernel
theorem r616 : lw_tbl[616]? = some ((Jvm.Cond.code ({ cls := "OnionProbate", name := "undo", desc := "(I)I" } : Jvm.MethodName) prog_1_method_15_code (2 : Nat) (Option.some Jvm.ClassFile.FieldType.int))) := by decide +kernel
theorem r617 : lw_tbl[617]? = some ((Jvm.Cond.methodLink "OnionProbate" (231 : Nat) ({ cls := "OnionProbate$Deeds", name := "takeBack", desc := "(ILOnionProbate$Onion;)V" } : Jvm.MethodName))) := by decide +kernel
theorem r618 : lw_tbl[618]? = some ((Jvm.Cond.instanceMethod ({ cls := "OnionProbate$Deeds", name := "takeBack", desc := "(ILOnionProbate$Onion;)V" } : Jvm.MethodName))) := by decide +kernel
theorem r619 : lw_tbl[619]? = some ((Jvm.Cond.selects "OnionProbate$Deeds" ({ cls := "OnionProbate$Deeds", name := "takeBack", desc := "(ILOnionProbate$Onion;)V" } : Jvm.MethodName) ({ cls := "OnionProbate$Deeds", name := "takeBack", desc := "(ILOnionProbate$Onion;)V" } : Jvm.MethodName))) := by decide +kernel
theorem r620 : lw_tbl[620]? = some ((Jvm.Cond.code ({ cls := "OnionProbate$Deeds", name := "takeBack", desc := "(ILOnionProbate$Onion;)V" } : Jvm.MethodName) prog_4_method_4_code (3 : Nat) (Option.none : Option Jvm.ClassFile.FieldType))) := by decide +kernel
theorem r621 : lw_tbl[621]? = some ((Jvm.Cond.methodLink "OnionProbateLaw" (73 : Nat) ({ cls := "OnionProbate", name := "worthIt", desc := "(II)I" } : Jvm.MethodName))) := by decide +kernel
theorem r622 : lw_tbl[622]? = some ((Jvm.Cond.instanceMethod ({ cls := "OnionProbate", name := "worthIt", desc := "(II)I" } : Jvm.MethodName))) := by decide +kernel
theorem r623 : lw_tbl[623]? = some ((Jvm.Cond.selects "OnionProbate" ({ cls := "OnionProbate", name := "worthIt", desc := "(II)I" } : Jvm.MethodName) ({ cls := "OnionProbate", name := "worthIt", desc := "(II)I" } : Jvm.MethodName))) := by decide +kernel
theorem r624 : lw_tbl[624]? = some ((Jvm.Cond.code ({ cls := "OnionProbate", name := "worthIt", desc := "(II)I" } : Jvm.MethodName) prog_1_method_16_code (3 : Nat) (Option.some Jvm.ClassFile.FieldType.int))) := by decide +kernel
theorem r625 : lw_tbl[625]? = some ((Jvm.Cond.methodLink "OnionProbate" (235 : Nat) ({ cls := "OnionProbate$Trial", name := "bestPeels", desc := "(LOnionProbate$Onion;I)I" } : Jvm.MethodName))) := by decide +kernel
theorem r626 : lw_tbl[626]? = some ((Jvm.Cond.static ({ cls := "OnionProbate$Trial", name := "bestPeels", desc := "(LOnionProbate$Onion;I)I" } : Jvm.MethodName))) := by decide +kernel
theorem r627 : lw_tbl[627]? = some ((Jvm.Cond.code ({ cls := "OnionProbate$Trial", name := "bestPeels", desc := "(LOnionProbate$Onion;I)I" } : Jvm.MethodName) prog_10_method_2_code (6 : Nat) (Option.some Jvm.ClassFile.FieldType.int))) := by decide +kernel
theorem r628 : lw_tbl[628]? = some ((Jvm.Cond.methodLink "OnionProbate$Trial" (30 : Nat) ({ cls := "OnionProbate$Trial", name := "gainOf", desc := "(LOnionProbate$Onion;II)I" } : Jvm.MethodName))) := by decide +kernel
theorem r629 : lw_tbl[629]? = some ((Jvm.Cond.static ({ cls := "OnionProbate$Trial", name := "gainOf", desc := "(LOnionProbate$Onion;II)I" } : Jvm.MethodName))) := by decide +kernel
theorem r630 : lw_tbl[630]? = some ((Jvm.Cond.code ({ cls := "OnionProbate$Trial", name := "gainOf", desc := "(LOnionProbate$Onion;II)I" } : Jvm.MethodName) prog_10_method_3_code (5 : Nat) (Option.some Jvm.ClassFile.FieldType.int))) := by decide +kernel
theorem r631 : lw_tbl[631]? = some ((Jvm.Cond.methodLink "OnionProbate$Trial" (34 : Nat) ({ cls := "OnionProbate$Onion", name := "worthOf", desc := "(I)I" } : Jvm.MethodName))) := by decide +kernel
theorem r632 : lw_tbl[632]? = some ((Jvm.Cond.methodLink "OnionProbate$Trial" (38 : Nat) ({ cls := "OnionProbate$Onion", name := "stingOf", desc := "(I)I" } : Jvm.MethodName))) := by decide +kernel
theorem r633 : lw_tbl[633]? = some ((Jvm.Cond.methodLink "OnionProbate" (239 : Nat) ({ cls := "OnionProbate$Trial", name := "gainOf", desc := "(LOnionProbate$Onion;II)I" } : Jvm.MethodName))) := by decide +kernel
theorem r634 : lw_tbl[634]? = some ((Jvm.Cond.methodLink "OnionProbateLaw" (77 : Nat) ({ cls := "OnionProbate", name := "parts", desc := "(II)I" } : Jvm.MethodName))) := by decide +kernel
theorem r635 : lw_tbl[635]? = some ((Jvm.Cond.instanceMethod ({ cls := "OnionProbate", name := "parts", desc := "(II)I" } : Jvm.MethodName))) := by decide +kernel
theorem r636 : lw_tbl[636]? = some ((Jvm.Cond.selects "OnionProbate" ({ cls := "OnionProbate", name := "parts", desc := "(II)I" } : Jvm.MethodName) ({ cls := "OnionProbate", name := "parts", desc := "(II)I" } : Jvm.MethodName))) := by decide +kernel
theorem r637 : lw_tbl[637]? = some ((Jvm.Cond.code ({ cls := "OnionProbate", name := "parts", desc := "(II)I" } : Jvm.MethodName) prog_1_method_17_code (4 : Nat) (Option.some Jvm.ClassFile.FieldType.int))) := by decide +kernel
theorem r638 : lw_tbl[638]? = some ((Jvm.Cond.methodLink "OnionProbate" (243 : Nat) ({ cls := "OnionProbate$Trial", name := "partUp", desc := "(LOnionProbate$Onion;I)I" } : Jvm.MethodName))) := by decide +kernel
theorem r639 : lw_tbl[639]? = some ((Jvm.Cond.instanceMethod ({ cls := "OnionProbate$Trial", name := "partUp", desc := "(LOnionProbate$Onion;I)I" } : Jvm.MethodName))) := by decide +kernel
theorem r640 : lw_tbl[640]? = some ((Jvm.Cond.selects "OnionProbate$Trial" ({ cls := "OnionProbate$Trial", name := "partUp", desc := "(LOnionProbate$Onion;I)I" } : Jvm.MethodName) ({ cls := "OnionProbate$Trial", name := "partUp", desc := "(LOnionProbate$Onion;I)I" } : Jvm.MethodName))) := by decide +kernel
theorem r641 : lw_tbl[641]? = some ((Jvm.Cond.code ({ cls := "OnionProbate$Trial", name := "partUp", desc := "(LOnionProbate$Onion;I)I" } : Jvm.MethodName) prog_10_method_4_code (7 : Nat) (Option.some Jvm.ClassFile.FieldType.int))) := by decide +kernel
theorem r642 : lw_tbl[642]? = some ((Jvm.Cond.methodLink "OnionProbate$Trial" (44 : Nat) ({ cls := "OnionProbate$Trial", name := "firstPartEnd", desc := "(II)I" } : Jvm.MethodName))) := by decide +kernel
theorem r644 : lw_tbl[644]? = some ((Jvm.Cond.instanceMethod ({ cls := "OnionProbate$Trial", name := "firstPartEnd", desc := "(II)I" } : Jvm.MethodName))) := by decide +kernel
theorem r645 : lw_tbl[645]? = some ((Jvm.Cond.code ({ cls := "OnionProbate$Trial", name := "firstPartEnd", desc := "(II)I" } : Jvm.MethodName) prog_10_method_5_code (5 : Nat) (Option.some Jvm.ClassFile.FieldType.int))) := by decide +kernel
theorem r646 : lw_tbl[646]? = some ((Jvm.Cond.methodLink "OnionProbate$Trial" (48 : Nat) ({ cls := "OnionProbate$Trial", name := "greatestWith", desc := "(II)I" } : Jvm.MethodName))) := by decide +kernel
theorem r648 : lw_tbl[648]? = some ((Jvm.Cond.instanceMethod ({ cls := "OnionProbate$Trial", name := "greatestWith", desc := "(II)I" } : Jvm.MethodName))) := by decide +kernel
theorem r649 : lw_tbl[649]? = some ((Jvm.Cond.code ({ cls := "OnionProbate$Trial", name := "greatestWith", desc := "(II)I" } : Jvm.MethodName) prog_10_method_6_code (3 : Nat) (Option.some Jvm.ClassFile.FieldType.int))) := by decide +kernel
theorem r650 : lw_tbl[650]? = some ((Jvm.Cond.methodLink "OnionProbate$Trial" (51 : Nat) ({ cls := "java/lang/Math", name := "max", desc := "(II)I" } : Jvm.MethodName))) := by decide +kernel
theorem r651 : lw_tbl[651]? = some ((Jvm.Cond.methodLink "OnionProbateLaw" (81 : Nat) ({ cls := "OnionProbate", name := "byTurns", desc := "(I)I" } : Jvm.MethodName))) := by decide +kernel
theorem r652 : lw_tbl[652]? = some ((Jvm.Cond.instanceMethod ({ cls := "OnionProbate", name := "byTurns", desc := "(I)I" } : Jvm.MethodName))) := by decide +kernel
theorem r653 : lw_tbl[653]? = some ((Jvm.Cond.selects "OnionProbate" ({ cls := "OnionProbate", name := "byTurns", desc := "(I)I" } : Jvm.MethodName) ({ cls := "OnionProbate", name := "byTurns", desc := "(I)I" } : Jvm.MethodName))) := by decide +kernel
theorem r654 : lw_tbl[654]? = some ((Jvm.Cond.code ({ cls := "OnionProbate", name := "byTurns", desc := "(I)I" } : Jvm.MethodName) prog_1_method_18_code (3 : Nat) (Option.some Jvm.ClassFile.FieldType.int))) := by decide +kernel
theorem r655 : lw_tbl[655]? = some ((Jvm.Cond.methodLink "OnionProbate" (249 : Nat) ({ cls := "OnionProbate$Trial", name := "playByTurns", desc := "(LOnionProbate$Onion;)I" } : Jvm.MethodName))) := by decide +kernel
theorem r656 : lw_tbl[656]? = some ((Jvm.Cond.instanceMethod ({ cls := "OnionProbate$Trial", name := "playByTurns", desc := "(LOnionProbate$Onion;)I" } : Jvm.MethodName))) := by decide +kernel
theorem r657 : lw_tbl[657]? = some ((Jvm.Cond.selects "OnionProbate$Trial" ({ cls := "OnionProbate$Trial", name := "playByTurns", desc := "(LOnionProbate$Onion;)I" } : Jvm.MethodName) ({ cls := "OnionProbate$Trial", name := "playByTurns", desc := "(LOnionProbate$Onion;)I" } : Jvm.MethodName))) := by decide +kernel
theorem r658 : lw_tbl[658]? = some ((Jvm.Cond.code ({ cls := "OnionProbate$Trial", name := "playByTurns", desc := "(LOnionProbate$Onion;)I" } : Jvm.MethodName) prog_10_method_7_code (6 : Nat) (Option.some Jvm.ClassFile.FieldType.int))) := by decide +kernel
theorem r659 : lw_tbl[659]? = some ((Jvm.Cond.methodLink "OnionProbateLaw" (85 : Nat) ({ cls := "OnionProbate", name := "twoSides", desc := "(I)I" } : Jvm.MethodName))) := by decide +kernel
theorem r660 : lw_tbl[660]? = some ((Jvm.Cond.instanceMethod ({ cls := "OnionProbate", name := "twoSides", desc := "(I)I" } : Jvm.MethodName))) := by decide +kernel
theorem r661 : lw_tbl[661]? = some ((Jvm.Cond.selects "OnionProbate" ({ cls := "OnionProbate", name := "twoSides", desc := "(I)I" } : Jvm.MethodName) ({ cls := "OnionProbate", name := "twoSides", desc := "(I)I" } : Jvm.MethodName))) := by decide +kernel
theorem r662 : lw_tbl[662]? = some ((Jvm.Cond.code ({ cls := "OnionProbate", name := "twoSides", desc := "(I)I" } : Jvm.MethodName) prog_1_method_19_code (3 : Nat) (Option.some Jvm.ClassFile.FieldType.int))) := by decide +kernel
theorem r663 : lw_tbl[663]? = some ((Jvm.Cond.methodLink "OnionProbate" (252 : Nat) ({ cls := "OnionProbate$Onion", name := "worthBetween", desc := "(II)I" } : Jvm.MethodName))) := by decide +kernel
theorem r664 : lw_tbl[664]? = some ((Jvm.Cond.instanceMethod ({ cls := "OnionProbate$Onion", name := "worthBetween", desc := "(II)I" } : Jvm.MethodName))) := by decide +kernel
theorem r665 : lw_tbl[665]? = some ((Jvm.Cond.selects "OnionProbate$Onion" ({ cls := "OnionProbate$Onion", name := "worthBetween", desc := "(II)I" } : Jvm.MethodName) ({ cls := "OnionProbate$Onion", name := "worthBetween", desc := "(II)I" } : Jvm.MethodName))) := by decide +kernel
theorem r666 : lw_tbl[666]? = some ((Jvm.Cond.code ({ cls := "OnionProbate$Onion", name := "worthBetween", desc := "(II)I" } : Jvm.MethodName) prog_8_method_8_code (5 : Nat) (Option.some Jvm.ClassFile.FieldType.int))) := by decide +kernel
theorem r667 : lw_tbl[667]? = some ((Jvm.Cond.methodLink "OnionProbateLaw" (89 : Nat) ({ cls := "OnionProbate", name := "nextKind", desc := "(I)I" } : Jvm.MethodName))) := by decide +kernel
theorem r668 : lw_tbl[668]? = some ((Jvm.Cond.instanceMethod ({ cls := "OnionProbate", name := "nextKind", desc := "(I)I" } : Jvm.MethodName))) := by decide +kernel
theorem r669 : lw_tbl[669]? = some ((Jvm.Cond.selects "OnionProbate" ({ cls := "OnionProbate", name := "nextKind", desc := "(I)I" } : Jvm.MethodName) ({ cls := "OnionProbate", name := "nextKind", desc := "(I)I" } : Jvm.MethodName))) := by decide +kernel
theorem r670 : lw_tbl[670]? = some ((Jvm.Cond.code ({ cls := "OnionProbate", name := "nextKind", desc := "(I)I" } : Jvm.MethodName) prog_1_method_20_code (2 : Nat) (Option.some Jvm.ClassFile.FieldType.int))) := by decide +kernel
theorem r671 : lw_tbl[671]? = some ((Jvm.Cond.methodLink "OnionProbate" (255 : Nat) ({ cls := "OnionProbate$Case", name := "countNext", desc := "(LOnionProbate$Onion;I)I" } : Jvm.MethodName))) := by decide +kernel
theorem r672 : lw_tbl[672]? = some ((Jvm.Cond.methodLink "OnionProbateLaw" (93 : Nat) ({ cls := "OnionProbate", name := "allows", desc := "(I)I" } : Jvm.MethodName))) := by decide +kernel
theorem r673 : lw_tbl[673]? = some ((Jvm.Cond.instanceMethod ({ cls := "OnionProbate", name := "allows", desc := "(I)I" } : Jvm.MethodName))) := by decide +kernel
theorem r674 : lw_tbl[674]? = some ((Jvm.Cond.selects "OnionProbate" ({ cls := "OnionProbate", name := "allows", desc := "(I)I" } : Jvm.MethodName) ({ cls := "OnionProbate", name := "allows", desc := "(I)I" } : Jvm.MethodName))) := by decide +kernel
theorem r675 : lw_tbl[675]? = some ((Jvm.Cond.code ({ cls := "OnionProbate", name := "allows", desc := "(I)I" } : Jvm.MethodName) prog_1_method_21_code (2 : Nat) (Option.some Jvm.ClassFile.FieldType.int))) := by decide +kernel
theorem r676 : lw_tbl[676]? = some ((Jvm.Cond.methodLink "OnionProbate" (258 : Nat) ({ cls := "OnionProbate$Case", name := "lawOfTypes", desc := "()I" } : Jvm.MethodName))) := by decide +kernel
theorem r677 : lw_tbl[677]? = some ((Jvm.Cond.instanceMethod ({ cls := "OnionProbate$Case", name := "lawOfTypes", desc := "()I" } : Jvm.MethodName))) := by decide +kernel
theorem r678 : lw_tbl[678]? = some ((Jvm.Cond.selects "OnionProbate$Case" ({ cls := "OnionProbate$Case", name := "lawOfTypes", desc := "()I" } : Jvm.MethodName) ({ cls := "OnionProbate$Case", name := "lawOfTypes", desc := "()I" } : Jvm.MethodName))) := by decide +kernel
theorem r679 : lw_tbl[679]? = some ((Jvm.Cond.code ({ cls := "OnionProbate$Case", name := "lawOfTypes", desc := "()I" } : Jvm.MethodName) prog_3_method_13_code (4 : Nat) (Option.some Jvm.ClassFile.FieldType.int))) := by decide +kernel
theorem r680 : lw_tbl[680]? = some ((Jvm.Cond.methodLinkNest "OnionProbate$Case" (76 : Nat) ({ cls := "OnionProbate", name := "pairBit", desc := "(II)I" } : Jvm.MethodName) "OnionProbate")) := by decide +kernel
theorem r681 : lw_tbl[681]? = some ((Jvm.Cond.methodLink "OnionProbate" (261 : Nat) ({ cls := "OnionProbate$Onion", name := "layersUnder", desc := "(II)I" } : Jvm.MethodName))) := by decide +kernel
theorem r682 : lw_tbl[682]? = some ((Jvm.Cond.instanceMethod ({ cls := "OnionProbate$Onion", name := "layersUnder", desc := "(II)I" } : Jvm.MethodName))) := by decide +kernel
theorem r683 : lw_tbl[683]? = some ((Jvm.Cond.selects "OnionProbate$Onion" ({ cls := "OnionProbate$Onion", name := "layersUnder", desc := "(II)I" } : Jvm.MethodName) ({ cls := "OnionProbate$Onion", name := "layersUnder", desc := "(II)I" } : Jvm.MethodName))) := by decide +kernel
theorem r684 : lw_tbl[684]? = some ((Jvm.Cond.code ({ cls := "OnionProbate$Onion", name := "layersUnder", desc := "(II)I" } : Jvm.MethodName) prog_8_method_16_code (5 : Nat) (Option.some Jvm.ClassFile.FieldType.int))) := by decide +kernel
theorem r685 : lw_tbl[685]? = some ((Jvm.Cond.methodLink "OnionProbateLaw" (97 : Nat) ({ cls := "OnionProbate", name := "run", desc := "(I)I" } : Jvm.MethodName))) := by decide +kernel
theorem r686 : lw_tbl[686]? = some ((Jvm.Cond.instanceMethod ({ cls := "OnionProbate", name := "run", desc := "(I)I" } : Jvm.MethodName))) := by decide +kernel
theorem r687 : lw_tbl[687]? = some ((Jvm.Cond.selects "OnionProbate" ({ cls := "OnionProbate", name := "run", desc := "(I)I" } : Jvm.MethodName) ({ cls := "OnionProbate", name := "run", desc := "(I)I" } : Jvm.MethodName))) := by decide +kernel
theorem r688 : lw_tbl[688]? = some ((Jvm.Cond.code ({ cls := "OnionProbate", name := "run", desc := "(I)I" } : Jvm.MethodName) prog_1_method_22_code (3 : Nat) (Option.some Jvm.ClassFile.FieldType.int))) := by decide +kernel
theorem r689 : lw_tbl[689]? = some ((Jvm.Cond.methodLink "OnionProbate" (264 : Nat) ({ cls := "OnionProbate$Onion", name := "startOfLongestRow", desc := "()I" } : Jvm.MethodName))) := by decide +kernel
theorem r690 : lw_tbl[690]? = some ((Jvm.Cond.instanceMethod ({ cls := "OnionProbate$Onion", name := "startOfLongestRow", desc := "()I" } : Jvm.MethodName))) := by decide +kernel
theorem r691 : lw_tbl[691]? = some ((Jvm.Cond.selects "OnionProbate$Onion" ({ cls := "OnionProbate$Onion", name := "startOfLongestRow", desc := "()I" } : Jvm.MethodName) ({ cls := "OnionProbate$Onion", name := "startOfLongestRow", desc := "()I" } : Jvm.MethodName))) := by decide +kernel
theorem r692 : lw_tbl[692]? = some ((Jvm.Cond.code ({ cls := "OnionProbate$Onion", name := "startOfLongestRow", desc := "()I" } : Jvm.MethodName) prog_8_method_18_code (5 : Nat) (Option.some Jvm.ClassFile.FieldType.int))) := by decide +kernel
theorem r693 : lw_tbl[693]? = some ((Jvm.Cond.methodLink "OnionProbate$Onion" (101 : Nat) ({ cls := "OnionProbate$Onion", name := "rowFrom", desc := "(I)I" } : Jvm.MethodName))) := by decide +kernel
theorem r694 : lw_tbl[694]? = some ((Jvm.Cond.instanceMethod ({ cls := "OnionProbate$Onion", name := "rowFrom", desc := "(I)I" } : Jvm.MethodName))) := by decide +kernel
theorem r695 : lw_tbl[695]? = some ((Jvm.Cond.selects "OnionProbate$Onion" ({ cls := "OnionProbate$Onion", name := "rowFrom", desc := "(I)I" } : Jvm.MethodName) ({ cls := "OnionProbate$Onion", name := "rowFrom", desc := "(I)I" } : Jvm.MethodName))) := by decide +kernel
theorem r696 : lw_tbl[696]? = some ((Jvm.Cond.code ({ cls := "OnionProbate$Onion", name := "rowFrom", desc := "(I)I" } : Jvm.MethodName) prog_8_method_17_code (3 : Nat) (Option.some Jvm.ClassFile.FieldType.int))) := by decide +kernel
theorem r697 : lw_tbl[697]? = some ((Jvm.Cond.methodLink "OnionProbate" (267 : Nat) ({ cls := "OnionProbate$Onion", name := "rowFrom", desc := "(I)I" } : Jvm.MethodName))) := by decide +kernel
theorem r698 : lw_tbl[698]? = some ((Jvm.Cond.methodLink "OnionProbateLaw" (101 : Nat) ({ cls := "OnionProbate", name := "fair", desc := "(I)I" } : Jvm.MethodName))) := by decide +kernel
theorem r699 : lw_tbl[699]? = some ((Jvm.Cond.instanceMethod ({ cls := "OnionProbate", name := "fair", desc := "(I)I" } : Jvm.MethodName))) := by decide +kernel
theorem r700 : lw_tbl[700]? = some ((Jvm.Cond.selects "OnionProbate" ({ cls := "OnionProbate", name := "fair", desc := "(I)I" } : Jvm.MethodName) ({ cls := "OnionProbate", name := "fair", desc := "(I)I" } : Jvm.MethodName))) := by decide +kernel
theorem r701 : lw_tbl[701]? = some ((Jvm.Cond.code ({ cls := "OnionProbate", name := "fair", desc := "(I)I" } : Jvm.MethodName) prog_1_method_23_code (3 : Nat) (Option.some Jvm.ClassFile.FieldType.int))) := by decide +kernel
theorem r702 : lw_tbl[702]? = some ((Jvm.Cond.methodLink "OnionProbate" (270 : Nat) ({ cls := "OnionProbate$Trial", name := "shareOut", desc := "(LOnionProbate$Onion;II)I" } : Jvm.MethodName))) := by decide +kernel
theorem r703 : lw_tbl[703]? = some ((Jvm.Cond.instanceMethod ({ cls := "OnionProbate$Trial", name := "shareOut", desc := "(LOnionProbate$Onion;II)I" } : Jvm.MethodName))) := by decide +kernel
theorem r704 : lw_tbl[704]? = some ((Jvm.Cond.selects "OnionProbate$Trial" ({ cls := "OnionProbate$Trial", name := "shareOut", desc := "(LOnionProbate$Onion;II)I" } : Jvm.MethodName) ({ cls := "OnionProbate$Trial", name := "shareOut", desc := "(LOnionProbate$Onion;II)I" } : Jvm.MethodName))) := by decide +kernel
theorem r705 : lw_tbl[705]? = some ((Jvm.Cond.code ({ cls := "OnionProbate$Trial", name := "shareOut", desc := "(LOnionProbate$Onion;II)I" } : Jvm.MethodName) prog_10_method_8_code (7 : Nat) (Option.some Jvm.ClassFile.FieldType.int))) := by decide +kernel
theorem r706 : lw_tbl[706]? = some ((Jvm.Cond.methodLink "OnionProbate$Trial" (59 : Nat) ({ cls := "java/lang/System", name := "arraycopy", desc := "(Ljava/lang/Object;ILjava/lang/Object;II)V" } : Jvm.MethodName))) := by decide +kernel
theorem r707 : lw_tbl[707]? = some ((Jvm.Cond.methodLink "OnionProbate$Trial" (65 : Nat) ({ cls := "OnionProbate$Trial", name := "poorest", desc := "(I)I" } : Jvm.MethodName))) := by decide +kernel
theorem r709 : lw_tbl[709]? = some ((Jvm.Cond.instanceMethod ({ cls := "OnionProbate$Trial", name := "poorest", desc := "(I)I" } : Jvm.MethodName))) := by decide +kernel
theorem r710 : lw_tbl[710]? = some ((Jvm.Cond.code ({ cls := "OnionProbate$Trial", name := "poorest", desc := "(I)I" } : Jvm.MethodName) prog_10_method_9_code (4 : Nat) (Option.some Jvm.ClassFile.FieldType.int))) := by decide +kernel
theorem r711 : lw_tbl[711]? = some ((Jvm.Cond.methodLink "OnionProbateLaw" (105 : Nat) ({ cls := "OnionProbate", name := "dry", desc := "(II)I" } : Jvm.MethodName))) := by decide +kernel
theorem r712 : lw_tbl[712]? = some ((Jvm.Cond.instanceMethod ({ cls := "OnionProbate", name := "dry", desc := "(II)I" } : Jvm.MethodName))) := by decide +kernel
theorem r713 : lw_tbl[713]? = some ((Jvm.Cond.selects "OnionProbate" ({ cls := "OnionProbate", name := "dry", desc := "(II)I" } : Jvm.MethodName) ({ cls := "OnionProbate", name := "dry", desc := "(II)I" } : Jvm.MethodName))) := by decide +kernel
theorem r714 : lw_tbl[714]? = some ((Jvm.Cond.code ({ cls := "OnionProbate", name := "dry", desc := "(II)I" } : Jvm.MethodName) prog_1_method_24_code (6 : Nat) (Option.some Jvm.ClassFile.FieldType.int))) := by decide +kernel
theorem r715 : lw_tbl[715]? = some ((Jvm.Cond.constantLong "OnionProbate" (276 : Nat) (1000000000 : Int64))) := by decide +kernel
theorem r716 : lw_tbl[716]? = some ((Jvm.Cond.constantLong "OnionProbate" (278 : Nat) (100 : Int64))) := by decide +kernel
theorem r717 : lw_tbl[717]? = some ((Jvm.Cond.methodLink "OnionProbateLaw" (109 : Nat) ({ cls := "OnionProbate", name := "guess", desc := "(IIZ)I" } : Jvm.MethodName))) := by decide +kernel
theorem r718 : lw_tbl[718]? = some ((Jvm.Cond.instanceMethod ({ cls := "OnionProbate", name := "guess", desc := "(IIZ)I" } : Jvm.MethodName))) := by decide +kernel
theorem r719 : lw_tbl[719]? = some ((Jvm.Cond.selects "OnionProbate" ({ cls := "OnionProbate", name := "guess", desc := "(IIZ)I" } : Jvm.MethodName) ({ cls := "OnionProbate", name := "guess", desc := "(IIZ)I" } : Jvm.MethodName))) := by decide +kernel
theorem r720 : lw_tbl[720]? = some ((Jvm.Cond.code ({ cls := "OnionProbate", name := "guess", desc := "(IIZ)I" } : Jvm.MethodName) prog_1_method_25_code (4 : Nat) (Option.some Jvm.ClassFile.FieldType.int))) := by decide +kernel
theorem r721 : lw_tbl[721]? = some ((Jvm.Cond.methodLink "OnionProbate" (280 : Nat) ({ cls := "OnionProbate$Guesses", name := "add", desc := "(IIZ)I" } : Jvm.MethodName))) := by decide +kernel
theorem r722 : lw_tbl[722]? = some ((Jvm.Cond.instanceMethod ({ cls := "OnionProbate$Guesses", name := "add", desc := "(IIZ)I" } : Jvm.MethodName))) := by decide +kernel
theorem r723 : lw_tbl[723]? = some ((Jvm.Cond.selects "OnionProbate$Guesses" ({ cls := "OnionProbate$Guesses", name := "add", desc := "(IIZ)I" } : Jvm.MethodName) ({ cls := "OnionProbate$Guesses", name := "add", desc := "(IIZ)I" } : Jvm.MethodName))) := by decide +kernel
theorem r724 : lw_tbl[724]? = some ((Jvm.Cond.code ({ cls := "OnionProbate$Guesses", name := "add", desc := "(IIZ)I" } : Jvm.MethodName) prog_6_method_2_code (4 : Nat) (Option.some Jvm.ClassFile.FieldType.int))) := by decide +kernel
theorem r725 : lw_tbl[725]? = some ((Jvm.Cond.constant "OnionProbate$Guesses" (26 : Nat) (-1000000004 : Int32))) := by decide +kernel
theorem r726 : lw_tbl[726]? = some ((Jvm.Cond.methodLink "OnionProbateLaw" (114 : Nat) ({ cls := "OnionProbate", name := "couldBe", desc := "()I" } : Jvm.MethodName))) := by decide +kernel
theorem r727 : lw_tbl[727]? = some ((Jvm.Cond.instanceMethod ({ cls := "OnionProbate", name := "couldBe", desc := "()I" } : Jvm.MethodName))) := by decide +kernel
theorem r728 : lw_tbl[728]? = some ((Jvm.Cond.selects "OnionProbate" ({ cls := "OnionProbate", name := "couldBe", desc := "()I" } : Jvm.MethodName) ({ cls := "OnionProbate", name := "couldBe", desc := "()I" } : Jvm.MethodName))) := by decide +kernel
theorem r729 : lw_tbl[729]? = some ((Jvm.Cond.code ({ cls := "OnionProbate", name := "couldBe", desc := "()I" } : Jvm.MethodName) prog_1_method_26_code (1 : Nat) (Option.some Jvm.ClassFile.FieldType.int))) := by decide +kernel
theorem r730 : lw_tbl[730]? = some ((Jvm.Cond.methodLink "OnionProbate" (283 : Nat) ({ cls := "OnionProbate$Guesses", name := "fitting", desc := "(LOnionProbate$Case;)I" } : Jvm.MethodName))) := by decide +kernel
theorem r731 : lw_tbl[731]? = some ((Jvm.Cond.instanceMethod ({ cls := "OnionProbate$Guesses", name := "fitting", desc := "(LOnionProbate$Case;)I" } : Jvm.MethodName))) := by decide +kernel
theorem r732 : lw_tbl[732]? = some ((Jvm.Cond.selects "OnionProbate$Guesses" ({ cls := "OnionProbate$Guesses", name := "fitting", desc := "(LOnionProbate$Case;)I" } : Jvm.MethodName) ({ cls := "OnionProbate$Guesses", name := "fitting", desc := "(LOnionProbate$Case;)I" } : Jvm.MethodName))) := by decide +kernel
theorem r733 : lw_tbl[733]? = some ((Jvm.Cond.code ({ cls := "OnionProbate$Guesses", name := "fitting", desc := "(LOnionProbate$Case;)I" } : Jvm.MethodName) prog_6_method_3_code (4 : Nat) (Option.some Jvm.ClassFile.FieldType.int))) := by decide +kernel
theorem r734 : lw_tbl[734]? = some ((Jvm.Cond.methodLink "OnionProbate$Guesses" (32 : Nat) ({ cls := "OnionProbate$Guesses", name := "fits", desc := "(LOnionProbate$Case;I)Z" } : Jvm.MethodName))) := by decide +kernel
theorem r736 : lw_tbl[736]? = some ((Jvm.Cond.instanceMethod ({ cls := "OnionProbate$Guesses", name := "fits", desc := "(LOnionProbate$Case;I)Z" } : Jvm.MethodName))) := by decide +kernel
theorem r737 : lw_tbl[737]? = some ((Jvm.Cond.code ({ cls := "OnionProbate$Guesses", name := "fits", desc := "(LOnionProbate$Case;I)Z" } : Jvm.MethodName) prog_6_method_4_code (5 : Nat) (Option.some Jvm.ClassFile.FieldType.boolean))) := by decide +kernel
theorem r738 : lw_tbl[738]? = some ((Jvm.Cond.methodLink "OnionProbate$Guesses" (36 : Nat) ({ cls := "OnionProbate$Case", name := "kindOfType", desc := "(II)I" } : Jvm.MethodName))) := by decide +kernel
theorem r739 : lw_tbl[739]? = some ((Jvm.Cond.methodLink "OnionProbateLaw" (118 : Nat) ({ cls := "OnionProbate", name := "ask", desc := "()I" } : Jvm.MethodName))) := by decide +kernel
theorem r740 : lw_tbl[740]? = some ((Jvm.Cond.instanceMethod ({ cls := "OnionProbate", name := "ask", desc := "()I" } : Jvm.MethodName))) := by decide +kernel
theorem r741 : lw_tbl[741]? = some ((Jvm.Cond.selects "OnionProbate" ({ cls := "OnionProbate", name := "ask", desc := "()I" } : Jvm.MethodName) ({ cls := "OnionProbate", name := "ask", desc := "()I" } : Jvm.MethodName))) := by decide +kernel
theorem r742 : lw_tbl[742]? = some ((Jvm.Cond.code ({ cls := "OnionProbate", name := "ask", desc := "()I" } : Jvm.MethodName) prog_1_method_27_code (1 : Nat) (Option.some Jvm.ClassFile.FieldType.int))) := by decide +kernel
theorem r743 : lw_tbl[743]? = some ((Jvm.Cond.methodLink "OnionProbate" (286 : Nat) ({ cls := "OnionProbate$Trial", name := "bestQuestion", desc := "(LOnionProbate$Case;I)I" } : Jvm.MethodName))) := by decide +kernel
theorem r744 : lw_tbl[744]? = some ((Jvm.Cond.instanceMethod ({ cls := "OnionProbate$Trial", name := "bestQuestion", desc := "(LOnionProbate$Case;I)I" } : Jvm.MethodName))) := by decide +kernel
theorem r745 : lw_tbl[745]? = some ((Jvm.Cond.selects "OnionProbate$Trial" ({ cls := "OnionProbate$Trial", name := "bestQuestion", desc := "(LOnionProbate$Case;I)I" } : Jvm.MethodName) ({ cls := "OnionProbate$Trial", name := "bestQuestion", desc := "(LOnionProbate$Case;I)I" } : Jvm.MethodName))) := by decide +kernel
theorem r746 : lw_tbl[746]? = some ((Jvm.Cond.code ({ cls := "OnionProbate$Trial", name := "bestQuestion", desc := "(LOnionProbate$Case;I)I" } : Jvm.MethodName) prog_10_method_10_code (7 : Nat) (Option.some Jvm.ClassFile.FieldType.int))) := by decide +kernel
theorem r747 : lw_tbl[747]? = some ((Jvm.Cond.methodLink "OnionProbate$Trial" (68 : Nat) ({ cls := "java/lang/Integer", name := "bitCount", desc := "(I)I" } : Jvm.MethodName))) := by decide +kernel
theorem r748 : lw_tbl[748]? = some ((Jvm.Cond.static ({ cls := "java/lang/Integer", name := "bitCount", desc := "(I)I" } : Jvm.MethodName))) := by decide +kernel
theorem r749 : lw_tbl[749]? = some ((Jvm.Cond.code ({ cls := "java/lang/Integer", name := "bitCount", desc := "(I)I" } : Jvm.MethodName) prog_13_method_49_code (1 : Nat) (Option.some Jvm.ClassFile.FieldType.int))) := by decide +kernel
theorem r750 : lw_tbl[750]? = some ((Jvm.Cond.constant "java/lang/Integer" (265 : Nat) (1431655765 : Int32))) := by decide +kernel
theorem r751 : lw_tbl[751]? = some ((Jvm.Cond.constant "java/lang/Integer" (266 : Nat) (858993459 : Int32))) := by decide +kernel
theorem r752 : lw_tbl[752]? = some ((Jvm.Cond.constant "java/lang/Integer" (267 : Nat) (252645135 : Int32))) := by decide +kernel
theorem r753 : lw_tbl[753]? = some ((Jvm.Cond.methodLink "OnionProbate$Trial" (73 : Nat) ({ cls := "OnionProbate$Trial", name := "greatestAlike", desc := "(LOnionProbate$Case;II)I" } : Jvm.MethodName))) := by decide +kernel
theorem r755 : lw_tbl[755]? = some ((Jvm.Cond.instanceMethod ({ cls := "OnionProbate$Trial", name := "greatestAlike", desc := "(LOnionProbate$Case;II)I" } : Jvm.MethodName))) := by decide +kernel
theorem r756 : lw_tbl[756]? = some ((Jvm.Cond.code ({ cls := "OnionProbate$Trial", name := "greatestAlike", desc := "(LOnionProbate$Case;II)I" } : Jvm.MethodName) prog_10_method_11_code (8 : Nat) (Option.some Jvm.ClassFile.FieldType.int))) := by decide +kernel
theorem r757 : lw_tbl[757]? = some ((Jvm.Cond.methodLink "OnionProbate$Trial" (82 : Nat) ({ cls := "OnionProbate$Case", name := "kindOfType", desc := "(II)I" } : Jvm.MethodName))) := by decide +kernel
theorem r758 : lw_tbl[758]? = some ((Jvm.Cond.methodLink "OnionProbateLaw" (122 : Nat) ({ cls := "OnionProbate", name := "write", desc := "(II)I" } : Jvm.MethodName))) := by decide +kernel
theorem r759 : lw_tbl[759]? = some ((Jvm.Cond.instanceMethod ({ cls := "OnionProbate", name := "write", desc := "(II)I" } : Jvm.MethodName))) := by decide +kernel
theorem r760 : lw_tbl[760]? = some ((Jvm.Cond.selects "OnionProbate" ({ cls := "OnionProbate", name := "write", desc := "(II)I" } : Jvm.MethodName) ({ cls := "OnionProbate", name := "write", desc := "(II)I" } : Jvm.MethodName))) := by decide +kernel
theorem r761 : lw_tbl[761]? = some ((Jvm.Cond.code ({ cls := "OnionProbate", name := "write", desc := "(II)I" } : Jvm.MethodName) prog_1_method_28_code (3 : Nat) (Option.some Jvm.ClassFile.FieldType.int))) := by decide +kernel
theorem r762 : lw_tbl[762]? = some ((Jvm.Cond.methodLink "OnionProbate" (290 : Nat) ({ cls := "OnionProbate$Book", name := "add", desc := "(II)I" } : Jvm.MethodName))) := by decide +kernel
theorem r763 : lw_tbl[763]? = some ((Jvm.Cond.instanceMethod ({ cls := "OnionProbate$Book", name := "add", desc := "(II)I" } : Jvm.MethodName))) := by decide +kernel
theorem r764 : lw_tbl[764]? = some ((Jvm.Cond.selects "OnionProbate$Book" ({ cls := "OnionProbate$Book", name := "add", desc := "(II)I" } : Jvm.MethodName) ({ cls := "OnionProbate$Book", name := "add", desc := "(II)I" } : Jvm.MethodName))) := by decide +kernel
theorem r765 : lw_tbl[765]? = some ((Jvm.Cond.code ({ cls := "OnionProbate$Book", name := "add", desc := "(II)I" } : Jvm.MethodName) prog_2_method_2_code (3 : Nat) (Option.some Jvm.ClassFile.FieldType.int))) := by decide +kernel
theorem r766 : lw_tbl[766]? = some ((Jvm.Cond.constant "OnionProbate$Book" (22 : Nat) (-1000000004 : Int32))) := by decide +kernel
theorem r767 : lw_tbl[767]? = some ((Jvm.Cond.methodLink "OnionProbateLaw" (126 : Nat) ({ cls := "OnionProbate", name := "judge", desc := "()I" } : Jvm.MethodName))) := by decide +kernel
theorem r768 : lw_tbl[768]? = some ((Jvm.Cond.instanceMethod ({ cls := "OnionProbate", name := "judge", desc := "()I" } : Jvm.MethodName))) := by decide +kernel
theorem r769 : lw_tbl[769]? = some ((Jvm.Cond.selects "OnionProbate" ({ cls := "OnionProbate", name := "judge", desc := "()I" } : Jvm.MethodName) ({ cls := "OnionProbate", name := "judge", desc := "()I" } : Jvm.MethodName))) := by decide +kernel
theorem r770 : lw_tbl[770]? = some ((Jvm.Cond.code ({ cls := "OnionProbate", name := "judge", desc := "()I" } : Jvm.MethodName) prog_1_method_29_code (1 : Nat) (Option.some Jvm.ClassFile.FieldType.int))) := by decide +kernel
theorem r771 : lw_tbl[771]? = some ((Jvm.Cond.methodLink "OnionProbate" (292 : Nat) ({ cls := "OnionProbate$Book", name := "firstWrong", desc := "(LOnionProbate$Onion;)I" } : Jvm.MethodName))) := by decide +kernel
theorem r772 : lw_tbl[772]? = some ((Jvm.Cond.instanceMethod ({ cls := "OnionProbate$Book", name := "firstWrong", desc := "(LOnionProbate$Onion;)I" } : Jvm.MethodName))) := by decide +kernel
theorem r773 : lw_tbl[773]? = some ((Jvm.Cond.selects "OnionProbate$Book" ({ cls := "OnionProbate$Book", name := "firstWrong", desc := "(LOnionProbate$Onion;)I" } : Jvm.MethodName) ({ cls := "OnionProbate$Book", name := "firstWrong", desc := "(LOnionProbate$Onion;)I" } : Jvm.MethodName))) := by decide +kernel
theorem r774 : lw_tbl[774]? = some ((Jvm.Cond.code ({ cls := "OnionProbate$Book", name := "firstWrong", desc := "(LOnionProbate$Onion;)I" } : Jvm.MethodName) prog_2_method_3_code (4 : Nat) (Option.some Jvm.ClassFile.FieldType.int))) := by decide +kernel
theorem r775 : lw_tbl[775]? = some ((Jvm.Cond.methodLink "OnionProbateLaw" (130 : Nat) ({ cls := "OnionProbate", name := "tear", desc := "()I" } : Jvm.MethodName))) := by decide +kernel
theorem r776 : lw_tbl[776]? = some ((Jvm.Cond.instanceMethod ({ cls := "OnionProbate", name := "tear", desc := "()I" } : Jvm.MethodName))) := by decide +kernel
theorem r777 : lw_tbl[777]? = some ((Jvm.Cond.selects "OnionProbate" ({ cls := "OnionProbate", name := "tear", desc := "()I" } : Jvm.MethodName) ({ cls := "OnionProbate", name := "tear", desc := "()I" } : Jvm.MethodName))) := by decide +kernel
theorem r778 : lw_tbl[778]? = some ((Jvm.Cond.code ({ cls := "OnionProbate", name := "tear", desc := "()I" } : Jvm.MethodName) prog_1_method_30_code (2 : Nat) (Option.some Jvm.ClassFile.FieldType.int))) := by decide +kernel
theorem r779 : lw_tbl[779]? = some ((Jvm.Cond.methodLink "OnionProbateLaw" (134 : Nat) ({ cls := "OnionProbate", name := "seed", desc := "(I)I" } : Jvm.MethodName))) := by decide +kernel
theorem r780 : lw_tbl[780]? = some ((Jvm.Cond.instanceMethod ({ cls := "OnionProbate", name := "seed", desc := "(I)I" } : Jvm.MethodName))) := by decide +kernel
theorem r781 : lw_tbl[781]? = some ((Jvm.Cond.selects "OnionProbate" ({ cls := "OnionProbate", name := "seed", desc := "(I)I" } : Jvm.MethodName) ({ cls := "OnionProbate", name := "seed", desc := "(I)I" } : Jvm.MethodName))) := by decide +kernel
theorem r782 : lw_tbl[782]? = some ((Jvm.Cond.code ({ cls := "OnionProbate", name := "seed", desc := "(I)I" } : Jvm.MethodName) prog_1_method_31_code (3 : Nat) (Option.some Jvm.ClassFile.FieldType.int))) := by decide +kernel
theorem r783 : lw_tbl[783]? = some ((Jvm.Cond.methodLink "OnionProbateLaw" (138 : Nat) ({ cls := "OnionProbate", name := "keep", desc := "(I)I" } : Jvm.MethodName))) := by decide +kernel
theorem r784 : lw_tbl[784]? = some ((Jvm.Cond.instanceMethod ({ cls := "OnionProbate", name := "keep", desc := "(I)I" } : Jvm.MethodName))) := by decide +kernel
theorem r785 : lw_tbl[785]? = some ((Jvm.Cond.selects "OnionProbate" ({ cls := "OnionProbate", name := "keep", desc := "(I)I" } : Jvm.MethodName) ({ cls := "OnionProbate", name := "keep", desc := "(I)I" } : Jvm.MethodName))) := by decide +kernel
theorem r786 : lw_tbl[786]? = some ((Jvm.Cond.code ({ cls := "OnionProbate", name := "keep", desc := "(I)I" } : Jvm.MethodName) prog_1_method_32_code (2 : Nat) (Option.some Jvm.ClassFile.FieldType.int))) := by decide +kernel
theorem r787 : lw_tbl[787]? = some ((Jvm.Cond.methodLink "OnionProbate" (299 : Nat) ({ cls := "OnionProbate$Onion", name := "copy", desc := "(LOnionProbate$Onion;)V" } : Jvm.MethodName))) := by decide +kernel
theorem r788 : lw_tbl[788]? = some ((Jvm.Cond.methodLink "OnionProbateLaw" (142 : Nat) ({ cls := "OnionProbate", name := "goBack", desc := "(I)I" } : Jvm.MethodName))) := by decide +kernel
theorem r789 : lw_tbl[789]? = some ((Jvm.Cond.instanceMethod ({ cls := "OnionProbate", name := "goBack", desc := "(I)I" } : Jvm.MethodName))) := by decide +kernel
theorem r790 : lw_tbl[790]? = some ((Jvm.Cond.selects "OnionProbate" ({ cls := "OnionProbate", name := "goBack", desc := "(I)I" } : Jvm.MethodName) ({ cls := "OnionProbate", name := "goBack", desc := "(I)I" } : Jvm.MethodName))) := by decide +kernel
theorem r791 : lw_tbl[791]? = some ((Jvm.Cond.code ({ cls := "OnionProbate", name := "goBack", desc := "(I)I" } : Jvm.MethodName) prog_1_method_33_code (2 : Nat) (Option.some Jvm.ClassFile.FieldType.int))) := by decide +kernel
theorem r794 : lw_tbl[794]? = some ((Jvm.Cond.methodLink "OnionProbateLaw" (12 : Nat) ({ cls := "OnionProbateModel", name := "<init>", desc := "()V" } : Jvm.MethodName))) := by decide +kernel
theorem r795 : lw_tbl[795]? = some ((Jvm.Cond.instanceMethod ({ cls := "OnionProbateModel", name := "<init>", desc := "()V" } : Jvm.MethodName))) := by decide +kernel
theorem r796 : lw_tbl[796]? = some ((Jvm.Cond.code ({ cls := "OnionProbateModel", name := "<init>", desc := "()V" } : Jvm.MethodName) prog_12_method_1_code (1 : Nat) (Option.none : Option Jvm.ClassFile.FieldType))) := by decide +kernel
theorem r797 : lw_tbl[797]? = some ((Jvm.Cond.methodLink "OnionProbateModel" (1 : Nat) ({ cls := "java/lang/Object", name := "<init>", desc := "()V" } : Jvm.MethodName))) := by decide +kernel
theorem r798 : lw_tbl[798]? = some ((Jvm.Cond.methodLink "OnionProbateModel" (84 : Nat) ({ cls := "OnionProbateModel", name := "empties", desc := "()V" } : Jvm.MethodName))) := by decide +kernel
theorem r800 : lw_tbl[800]? = some ((Jvm.Cond.instanceMethod ({ cls := "OnionProbateModel", name := "empties", desc := "()V" } : Jvm.MethodName))) := by decide +kernel
theorem r801 : lw_tbl[801]? = some ((Jvm.Cond.code ({ cls := "OnionProbateModel", name := "empties", desc := "()V" } : Jvm.MethodName) prog_12_method_7_code (2 : Nat) (Option.none : Option Jvm.ClassFile.FieldType))) := by decide +kernel
theorem r802 : lw_tbl[802]? = some ((Jvm.Cond.fieldLink "OnionProbateModel" (157 : Nat) "OnionProbateModel" "isCase" "Z")) := by decide +kernel
theorem r803 : lw_tbl[803]? = some ((Jvm.Cond.fieldLink "OnionProbateModel" (161 : Nat) "OnionProbateModel" "middle" "I")) := by decide +kernel
theorem r804 : lw_tbl[804]? = some ((Jvm.Cond.fieldLink "OnionProbateModel" (91 : Nat) "OnionProbateModel" "executors" "I")) := by decide +kernel
theorem r805 : lw_tbl[805]? = some ((Jvm.Cond.fieldLink "OnionProbateModel" (7 : Nat) "OnionProbateModel" "cared" "[I")) := by decide +kernel
theorem r806 : lw_tbl[806]? = some ((Jvm.Cond.fieldLink "OnionProbateModel" (13 : Nat) "OnionProbateModel" "quick" "[I")) := by decide +kernel
theorem r807 : lw_tbl[807]? = some ((Jvm.Cond.fieldLink "OnionProbateModel" (164 : Nat) "OnionProbateModel" "types" "I")) := by decide +kernel
theorem r808 : lw_tbl[808]? = some ((Jvm.Cond.fieldLink "OnionProbateModel" (16 : Nat) "OnionProbateModel" "typeLong" "[I")) := by decide +kernel
theorem r809 : lw_tbl[809]? = some ((Jvm.Cond.fieldLink "OnionProbateModel" (19 : Nat) "OnionProbateModel" "typeKind" "[I")) := by decide +kernel
theorem r810 : lw_tbl[810]? = some ((Jvm.Cond.fieldLink "OnionProbateModel" (22 : Nat) "OnionProbateModel" "now" "[I")) := by decide +kernel
theorem r811 : lw_tbl[811]? = some ((Jvm.Cond.fieldLink "OnionProbateModel" (266 : Nat) "OnionProbateModel" "seed" "I")) := by decide +kernel
theorem r812 : lw_tbl[812]? = some ((Jvm.Cond.fieldLink "OnionProbateModel" (176 : Nat) "OnionProbateModel" "written" "I")) := by decide +kernel
theorem r813 : lw_tbl[813]? = some ((Jvm.Cond.fieldLink "OnionProbateModel" (25 : Nat) "OnionProbateModel" "bookOf" "[I")) := by decide +kernel
theorem r814 : lw_tbl[814]? = some ((Jvm.Cond.fieldLink "OnionProbateModel" (28 : Nat) "OnionProbateModel" "bookGot" "[I")) := by decide +kernel
theorem r815 : lw_tbl[815]? = some ((Jvm.Cond.fieldLink "OnionProbateModel" (173 : Nat) "OnionProbateModel" "guessed" "I")) := by decide +kernel
theorem r816 : lw_tbl[816]? = some ((Jvm.Cond.fieldLink "OnionProbateModel" (31 : Nat) "OnionProbateModel" "guessAt" "[I")) := by decide +kernel
theorem r817 : lw_tbl[817]? = some ((Jvm.Cond.fieldLink "OnionProbateModel" (34 : Nat) "OnionProbateModel" "guessKind" "[I")) := by decide +kernel
theorem r818 : lw_tbl[818]? = some ((Jvm.Cond.fieldLink "OnionProbateModel" (37 : Nat) "OnionProbateModel" "guessIs" "[I")) := by decide +kernel
theorem r819 : lw_tbl[819]? = some ((Jvm.Cond.fieldLink "OnionProbateModel" (40 : Nat) "OnionProbateModel" "text" "[I")) := by decide +kernel
theorem r820 : lw_tbl[820]? = some ((Jvm.Cond.fieldLink "OnionProbateModel" (97 : Nat) "OnionProbateModel" "texted" "I")) := by decide +kernel
theorem r821 : lw_tbl[821]? = some ((Jvm.Cond.fieldLink "OnionProbateModel" (43 : Nat) "OnionProbateModel" "faultPlace" "I")) := by decide +kernel
theorem r822 : lw_tbl[822]? = some ((Jvm.Cond.fieldLink "OnionProbateModel" (101 : Nat) "OnionProbateModel" "at0" "I")) := by decide +kernel
theorem r823 : lw_tbl[823]? = some ((Jvm.Cond.fieldLink "OnionProbateModel" (119 : Nat) "OnionProbateModel" "number" "I")) := by decide +kernel
theorem r824 : lw_tbl[824]? = some ((Jvm.Cond.fieldLink "OnionProbateModel" (116 : Nat) "OnionProbateModel" "numberAt" "I")) := by decide +kernel
theorem r825 : lw_tbl[825]? = some ((Jvm.Cond.fieldLink "OnionProbateModel" (125 : Nat) "OnionProbateModel" "readMiddle" "I")) := by decide +kernel
theorem r826 : lw_tbl[826]? = some ((Jvm.Cond.fieldLink "OnionProbateModel" (128 : Nat) "OnionProbateModel" "readLayers" "I")) := by decide +kernel
theorem r827 : lw_tbl[827]? = some ((Jvm.Cond.fieldLink "OnionProbateModel" (47 : Nat) "OnionProbateModel" "readKind" "[I")) := by decide +kernel
theorem r828 : lw_tbl[828]? = some ((Jvm.Cond.fieldLink "OnionProbateModel" (50 : Nat) "OnionProbateModel" "readThick" "[I")) := by decide +kernel
theorem r829 : lw_tbl[829]? = some ((Jvm.Cond.fieldLink "OnionProbateModel" (131 : Nat) "OnionProbateModel" "readExecutors" "I")) := by decide +kernel
theorem r830 : lw_tbl[830]? = some ((Jvm.Cond.fieldLink "OnionProbateModel" (53 : Nat) "OnionProbateModel" "readCared" "[I")) := by decide +kernel
theorem r831 : lw_tbl[831]? = some ((Jvm.Cond.fieldLink "OnionProbateModel" (56 : Nat) "OnionProbateModel" "readQuick" "[I")) := by decide +kernel
theorem r832 : lw_tbl[832]? = some ((Jvm.Cond.fieldLink "OnionProbateModel" (134 : Nat) "OnionProbateModel" "readTypes" "I")) := by decide +kernel
theorem r833 : lw_tbl[833]? = some ((Jvm.Cond.fieldLink "OnionProbateModel" (59 : Nat) "OnionProbateModel" "readLong" "[I")) := by decide +kernel
theorem r834 : lw_tbl[834]? = some ((Jvm.Cond.fieldLink "OnionProbateModel" (62 : Nat) "OnionProbateModel" "readTypeKind" "[I")) := by decide +kernel
theorem r835 : lw_tbl[835]? = some ((Jvm.Cond.fieldLink "OnionProbateModel" (179 : Nat) "OnionProbateModel" "undos" "I")) := by decide +kernel
theorem r836 : lw_tbl[836]? = some ((Jvm.Cond.fieldLink "OnionProbateModel" (65 : Nat) "OnionProbateModel" "past" "[I")) := by decide +kernel
theorem r837 : lw_tbl[837]? = some ((Jvm.Cond.fieldLink "OnionProbateModel" (68 : Nat) "OnionProbateModel" "least" "[I")) := by decide +kernel
theorem r838 : lw_tbl[838]? = some ((Jvm.Cond.fieldLink "OnionProbateModel" (71 : Nat) "OnionProbateModel" "more" "[I")) := by decide +kernel
theorem r839 : lw_tbl[839]? = some ((Jvm.Cond.fieldLink "OnionProbateModel" (74 : Nat) "OnionProbateModel" "would" "[I")) := by decide +kernel
theorem r840 : lw_tbl[840]? = some ((Jvm.Cond.fieldLink "OnionProbateModel" (77 : Nat) "OnionProbateModel" "images" "[I")) := by decide +kernel
theorem r841 : lw_tbl[841]? = some ((Jvm.Cond.fieldLink "OnionProbateModel" (80 : Nat) "OnionProbateModel" "isKept" "[Z")) := by decide +kernel
theorem r923 : lw_tbl[923]? = some ((Jvm.Cond.methodLink "OnionProbateLaw" (17 : Nat) ({ cls := "OnionProbateModel", name := "feed", desc := "(I)I" } : Jvm.MethodName))) := by decide +kernel
theorem r924 : lw_tbl[924]? = some ((Jvm.Cond.instanceMethod ({ cls := "OnionProbateModel", name := "feed", desc := "(I)I" } : Jvm.MethodName))) := by decide +kernel
theorem r925 : lw_tbl[925]? = some ((Jvm.Cond.selects "OnionProbateModel" ({ cls := "OnionProbateModel", name := "feed", desc := "(I)I" } : Jvm.MethodName) ({ cls := "OnionProbateModel", name := "feed", desc := "(I)I" } : Jvm.MethodName))) := by decide +kernel
theorem r926 : lw_tbl[926]? = some ((Jvm.Cond.code ({ cls := "OnionProbateModel", name := "feed", desc := "(I)I" } : Jvm.MethodName) prog_12_method_8_code (2 : Nat) (Option.some Jvm.ClassFile.FieldType.int))) := by decide +kernel
theorem r927 : lw_tbl[927]? = some ((Jvm.Cond.constantLong "OnionProbateModel" (94 : Nat) (255 : Int64))) := by decide +kernel
theorem r928 : lw_tbl[928]? = some ((Jvm.Cond.methodLink "OnionProbateModel" (87 : Nat) ({ cls := "OnionProbateModel", name := "in", desc := "(JJJ)Z" } : Jvm.MethodName))) := by decide +kernel
theorem r929 : lw_tbl[929]? = some ((Jvm.Cond.static ({ cls := "OnionProbateModel", name := "in", desc := "(JJJ)Z" } : Jvm.MethodName))) := by decide +kernel
theorem r930 : lw_tbl[930]? = some ((Jvm.Cond.code ({ cls := "OnionProbateModel", name := "in", desc := "(JJJ)Z" } : Jvm.MethodName) prog_12_method_3_code (6 : Nat) (Option.some Jvm.ClassFile.FieldType.boolean))) := by decide +kernel
theorem r931 : lw_tbl[931]? = some ((Jvm.Cond.constant "OnionProbateModel" (96 : Nat) (-1000000002 : Int32))) := by decide +kernel
theorem r932 : lw_tbl[932]? = some ((Jvm.Cond.constant "OnionProbateModel" (100 : Nat) (-1000000004 : Int32))) := by decide +kernel
theorem r933 : lw_tbl[933]? = some ((Jvm.Cond.methodLink "OnionProbateLaw" (22 : Nat) ({ cls := "OnionProbateModel", name := "probate", desc := "()I" } : Jvm.MethodName))) := by decide +kernel
theorem r934 : lw_tbl[934]? = some ((Jvm.Cond.instanceMethod ({ cls := "OnionProbateModel", name := "probate", desc := "()I" } : Jvm.MethodName))) := by decide +kernel
theorem r935 : lw_tbl[935]? = some ((Jvm.Cond.selects "OnionProbateModel" ({ cls := "OnionProbateModel", name := "probate", desc := "()I" } : Jvm.MethodName) ({ cls := "OnionProbateModel", name := "probate", desc := "()I" } : Jvm.MethodName))) := by decide +kernel
theorem r936 : lw_tbl[936]? = some ((Jvm.Cond.code ({ cls := "OnionProbateModel", name := "probate", desc := "()I" } : Jvm.MethodName) prog_12_method_20_code (2 : Nat) (Option.some Jvm.ClassFile.FieldType.int))) := by decide +kernel
theorem r937 : lw_tbl[937]? = some ((Jvm.Cond.methodLink "OnionProbateModel" (104 : Nat) ({ cls := "OnionProbateModel", name := "here", desc := "()I" } : Jvm.MethodName))) := by decide +kernel
theorem r939 : lw_tbl[939]? = some ((Jvm.Cond.instanceMethod ({ cls := "OnionProbateModel", name := "here", desc := "()I" } : Jvm.MethodName))) := by decide +kernel
theorem r940 : lw_tbl[940]? = some ((Jvm.Cond.code ({ cls := "OnionProbateModel", name := "here", desc := "()I" } : Jvm.MethodName) prog_12_method_9_code (1 : Nat) (Option.some Jvm.ClassFile.FieldType.int))) := by decide +kernel
theorem r941 : lw_tbl[941]? = some ((Jvm.Cond.methodLink "OnionProbateModel" (167 : Nat) ({ cls := "OnionProbateModel", name := "takeClause", desc := "()I" } : Jvm.MethodName))) := by decide +kernel
theorem r943 : lw_tbl[943]? = some ((Jvm.Cond.instanceMethod ({ cls := "OnionProbateModel", name := "takeClause", desc := "()I" } : Jvm.MethodName))) := by decide +kernel
theorem r944 : lw_tbl[944]? = some ((Jvm.Cond.code ({ cls := "OnionProbateModel", name := "takeClause", desc := "()I" } : Jvm.MethodName) prog_12_method_18_code (4 : Nat) (Option.some Jvm.ClassFile.FieldType.int))) := by decide +kernel
theorem r945 : lw_tbl[945]? = some ((Jvm.Cond.methodLink "OnionProbateModel" (112 : Nat) ({ cls := "OnionProbateModel", name := "fails", desc := "(II)I" } : Jvm.MethodName))) := by decide +kernel
theorem r947 : lw_tbl[947]? = some ((Jvm.Cond.instanceMethod ({ cls := "OnionProbateModel", name := "fails", desc := "(II)I" } : Jvm.MethodName))) := by decide +kernel
theorem r948 : lw_tbl[948]? = some ((Jvm.Cond.code ({ cls := "OnionProbateModel", name := "fails", desc := "(II)I" } : Jvm.MethodName) prog_12_method_10_code (3 : Nat) (Option.some Jvm.ClassFile.FieldType.int))) := by decide +kernel
theorem r949 : lw_tbl[949]? = some ((Jvm.Cond.methodLink "OnionProbateModel" (149 : Nat) ({ cls := "OnionProbateModel", name := "isFull", desc := "(I)Z" } : Jvm.MethodName))) := by decide +kernel
theorem r951 : lw_tbl[951]? = some ((Jvm.Cond.instanceMethod ({ cls := "OnionProbateModel", name := "isFull", desc := "(I)Z" } : Jvm.MethodName))) := by decide +kernel
theorem r952 : lw_tbl[952]? = some ((Jvm.Cond.code ({ cls := "OnionProbateModel", name := "isFull", desc := "(I)Z" } : Jvm.MethodName) prog_12_method_16_code (2 : Nat) (Option.some Jvm.ClassFile.FieldType.boolean))) := by decide +kernel
theorem r953 : lw_tbl[953]? = some ((Jvm.Cond.methodLink "OnionProbateModel" (153 : Nat) ({ cls := "OnionProbateModel", name := "takeBody", desc := "(I)I" } : Jvm.MethodName))) := by decide +kernel
theorem r955 : lw_tbl[955]? = some ((Jvm.Cond.instanceMethod ({ cls := "OnionProbateModel", name := "takeBody", desc := "(I)I" } : Jvm.MethodName))) := by decide +kernel
theorem r956 : lw_tbl[956]? = some ((Jvm.Cond.code ({ cls := "OnionProbateModel", name := "takeBody", desc := "(I)I" } : Jvm.MethodName) prog_12_method_17_code (2 : Nat) (Option.some Jvm.ClassFile.FieldType.int))) := by decide +kernel
theorem r957 : lw_tbl[957]? = some ((Jvm.Cond.methodLink "OnionProbateModel" (137 : Nat) ({ cls := "OnionProbateModel", name := "takeMiddle", desc := "()I" } : Jvm.MethodName))) := by decide +kernel
theorem r959 : lw_tbl[959]? = some ((Jvm.Cond.instanceMethod ({ cls := "OnionProbateModel", name := "takeMiddle", desc := "()I" } : Jvm.MethodName))) := by decide +kernel
theorem r960 : lw_tbl[960]? = some ((Jvm.Cond.code ({ cls := "OnionProbateModel", name := "takeMiddle", desc := "()I" } : Jvm.MethodName) prog_12_method_12_code (2 : Nat) (Option.some Jvm.ClassFile.FieldType.int))) := by decide +kernel
theorem r961 : lw_tbl[961]? = some ((Jvm.Cond.methodLink "OnionProbateModel" (122 : Nat) ({ cls := "OnionProbateModel", name := "takeNumber", desc := "(II)I" } : Jvm.MethodName))) := by decide +kernel
theorem r963 : lw_tbl[963]? = some ((Jvm.Cond.instanceMethod ({ cls := "OnionProbateModel", name := "takeNumber", desc := "(II)I" } : Jvm.MethodName))) := by decide +kernel
theorem r964 : lw_tbl[964]? = some ((Jvm.Cond.code ({ cls := "OnionProbateModel", name := "takeNumber", desc := "(II)I" } : Jvm.MethodName) prog_12_method_11_code (4 : Nat) (Option.some Jvm.ClassFile.FieldType.int))) := by decide +kernel
theorem r965 : lw_tbl[965]? = some ((Jvm.Cond.constantLong "OnionProbateModel" (108 : Nat) (48 : Int64))) := by decide +kernel
theorem r966 : lw_tbl[966]? = some ((Jvm.Cond.constantLong "OnionProbateModel" (110 : Nat) (57 : Int64))) := by decide +kernel
theorem r967 : lw_tbl[967]? = some ((Jvm.Cond.methodLink "OnionProbateModel" (140 : Nat) ({ cls := "OnionProbateModel", name := "takeLayer", desc := "()I" } : Jvm.MethodName))) := by decide +kernel
theorem r969 : lw_tbl[969]? = some ((Jvm.Cond.instanceMethod ({ cls := "OnionProbateModel", name := "takeLayer", desc := "()I" } : Jvm.MethodName))) := by decide +kernel
theorem r970 : lw_tbl[970]? = some ((Jvm.Cond.code ({ cls := "OnionProbateModel", name := "takeLayer", desc := "()I" } : Jvm.MethodName) prog_12_method_13_code (2 : Nat) (Option.some Jvm.ClassFile.FieldType.int))) := by decide +kernel
theorem r971 : lw_tbl[971]? = some ((Jvm.Cond.methodLink "OnionProbateModel" (143 : Nat) ({ cls := "OnionProbateModel", name := "takeExecutor", desc := "()I" } : Jvm.MethodName))) := by decide +kernel
theorem r973 : lw_tbl[973]? = some ((Jvm.Cond.instanceMethod ({ cls := "OnionProbateModel", name := "takeExecutor", desc := "()I" } : Jvm.MethodName))) := by decide +kernel
theorem r974 : lw_tbl[974]? = some ((Jvm.Cond.code ({ cls := "OnionProbateModel", name := "takeExecutor", desc := "()I" } : Jvm.MethodName) prog_12_method_14_code (2 : Nat) (Option.some Jvm.ClassFile.FieldType.int))) := by decide +kernel
theorem r975 : lw_tbl[975]? = some ((Jvm.Cond.methodLink "OnionProbateModel" (146 : Nat) ({ cls := "OnionProbateModel", name := "takeType", desc := "()I" } : Jvm.MethodName))) := by decide +kernel
theorem r977 : lw_tbl[977]? = some ((Jvm.Cond.instanceMethod ({ cls := "OnionProbateModel", name := "takeType", desc := "()I" } : Jvm.MethodName))) := by decide +kernel
theorem r978 : lw_tbl[978]? = some ((Jvm.Cond.code ({ cls := "OnionProbateModel", name := "takeType", desc := "()I" } : Jvm.MethodName) prog_12_method_15_code (4 : Nat) (Option.some Jvm.ClassFile.FieldType.int))) := by decide +kernel
theorem r979 : lw_tbl[979]? = some ((Jvm.Cond.methodLink "OnionProbateModel" (170 : Nat) ({ cls := "OnionProbateModel", name := "takeRead", desc := "()V" } : Jvm.MethodName))) := by decide +kernel
theorem r981 : lw_tbl[981]? = some ((Jvm.Cond.instanceMethod ({ cls := "OnionProbateModel", name := "takeRead", desc := "()V" } : Jvm.MethodName))) := by decide +kernel
theorem r982 : lw_tbl[982]? = some ((Jvm.Cond.code ({ cls := "OnionProbateModel", name := "takeRead", desc := "()V" } : Jvm.MethodName) prog_12_method_19_code (2 : Nat) (Option.none : Option Jvm.ClassFile.FieldType))) := by decide +kernel
theorem r983 : lw_tbl[983]? = some ((Jvm.Cond.methodLink "OnionProbateLaw" (26 : Nat) ({ cls := "OnionProbateModel", name := "fault", desc := "()I" } : Jvm.MethodName))) := by decide +kernel
theorem r984 : lw_tbl[984]? = some ((Jvm.Cond.instanceMethod ({ cls := "OnionProbateModel", name := "fault", desc := "()I" } : Jvm.MethodName))) := by decide +kernel
theorem r985 : lw_tbl[985]? = some ((Jvm.Cond.selects "OnionProbateModel" ({ cls := "OnionProbateModel", name := "fault", desc := "()I" } : Jvm.MethodName) ({ cls := "OnionProbateModel", name := "fault", desc := "()I" } : Jvm.MethodName))) := by decide +kernel
theorem r986 : lw_tbl[986]? = some ((Jvm.Cond.code ({ cls := "OnionProbateModel", name := "fault", desc := "()I" } : Jvm.MethodName) prog_12_method_21_code (1 : Nat) (Option.some Jvm.ClassFile.FieldType.int))) := by decide +kernel
theorem r987 : lw_tbl[987]? = some ((Jvm.Cond.methodLink "OnionProbateLaw" (30 : Nat) ({ cls := "OnionProbateModel", name := "told", desc := "(I)I" } : Jvm.MethodName))) := by decide +kernel
theorem r988 : lw_tbl[988]? = some ((Jvm.Cond.instanceMethod ({ cls := "OnionProbateModel", name := "told", desc := "(I)I" } : Jvm.MethodName))) := by decide +kernel
theorem r989 : lw_tbl[989]? = some ((Jvm.Cond.selects "OnionProbateModel" ({ cls := "OnionProbateModel", name := "told", desc := "(I)I" } : Jvm.MethodName) ({ cls := "OnionProbateModel", name := "told", desc := "(I)I" } : Jvm.MethodName))) := by decide +kernel
theorem r990 : lw_tbl[990]? = some ((Jvm.Cond.code ({ cls := "OnionProbateModel", name := "told", desc := "(I)I" } : Jvm.MethodName) prog_12_method_36_code (2 : Nat) (Option.some Jvm.ClassFile.FieldType.int))) := by decide +kernel
theorem r991 : lw_tbl[991]? = some ((Jvm.Cond.methodLink "OnionProbateModel" (188 : Nat) ({ cls := "OnionProbateModel", name := "allThick", desc := "()I" } : Jvm.MethodName))) := by decide +kernel
theorem r993 : lw_tbl[993]? = some ((Jvm.Cond.instanceMethod ({ cls := "OnionProbateModel", name := "allThick", desc := "()I" } : Jvm.MethodName))) := by decide +kernel
theorem r994 : lw_tbl[994]? = some ((Jvm.Cond.code ({ cls := "OnionProbateModel", name := "allThick", desc := "()I" } : Jvm.MethodName) prog_12_method_26_code (3 : Nat) (Option.some Jvm.ClassFile.FieldType.int))) := by decide +kernel
theorem r995 : lw_tbl[995]? = some ((Jvm.Cond.methodLink "OnionProbateModel" (198 : Nat) ({ cls := "OnionProbateModel", name := "cut", desc := "()I" } : Jvm.MethodName))) := by decide +kernel
theorem r997 : lw_tbl[997]? = some ((Jvm.Cond.instanceMethod ({ cls := "OnionProbateModel", name := "cut", desc := "()I" } : Jvm.MethodName))) := by decide +kernel
theorem r998 : lw_tbl[998]? = some ((Jvm.Cond.code ({ cls := "OnionProbateModel", name := "cut", desc := "()I" } : Jvm.MethodName) prog_12_method_27_code (4 : Nat) (Option.some Jvm.ClassFile.FieldType.int))) := by decide +kernel
theorem r999 : lw_tbl[999]? = some ((Jvm.Cond.methodLink "OnionProbateModel" (201 : Nat) ({ cls := "OnionProbateModel", name := "canBeOnes", desc := "()I" } : Jvm.MethodName))) := by decide +kernel
theorem r1001 : lw_tbl[1001]? = some ((Jvm.Cond.instanceMethod ({ cls := "OnionProbateModel", name := "canBeOnes", desc := "()I" } : Jvm.MethodName))) := by decide +kernel
theorem r1002 : lw_tbl[1002]? = some ((Jvm.Cond.code ({ cls := "OnionProbateModel", name := "canBeOnes", desc := "()I" } : Jvm.MethodName) prog_12_method_29_code (3 : Nat) (Option.some Jvm.ClassFile.FieldType.int))) := by decide +kernel
theorem r1003 : lw_tbl[1003]? = some ((Jvm.Cond.methodLink "OnionProbateModel" (191 : Nat) ({ cls := "OnionProbateModel", name := "canBe", desc := "(I)Z" } : Jvm.MethodName))) := by decide +kernel
theorem r1005 : lw_tbl[1005]? = some ((Jvm.Cond.instanceMethod ({ cls := "OnionProbateModel", name := "canBe", desc := "(I)Z" } : Jvm.MethodName))) := by decide +kernel
theorem r1006 : lw_tbl[1006]? = some ((Jvm.Cond.code ({ cls := "OnionProbateModel", name := "canBe", desc := "(I)Z" } : Jvm.MethodName) prog_12_method_28_code (4 : Nat) (Option.some Jvm.ClassFile.FieldType.boolean))) := by decide +kernel
theorem r1007 : lw_tbl[1007]? = some ((Jvm.Cond.methodLink "OnionProbateModel" (204 : Nat) ({ cls := "OnionProbateModel", name := "sure", desc := "()I" } : Jvm.MethodName))) := by decide +kernel
theorem r1009 : lw_tbl[1009]? = some ((Jvm.Cond.instanceMethod ({ cls := "OnionProbateModel", name := "sure", desc := "()I" } : Jvm.MethodName))) := by decide +kernel
theorem r1010 : lw_tbl[1010]? = some ((Jvm.Cond.code ({ cls := "OnionProbateModel", name := "sure", desc := "()I" } : Jvm.MethodName) prog_12_method_31_code (4 : Nat) (Option.some Jvm.ClassFile.FieldType.int))) := by decide +kernel
theorem r1011 : lw_tbl[1011]? = some ((Jvm.Cond.methodLink "OnionProbateModel" (194 : Nat) ({ cls := "OnionProbateModel", name := "nextOf", desc := "(I)I" } : Jvm.MethodName))) := by decide +kernel
theorem r1013 : lw_tbl[1013]? = some ((Jvm.Cond.instanceMethod ({ cls := "OnionProbateModel", name := "nextOf", desc := "(I)I" } : Jvm.MethodName))) := by decide +kernel
theorem r1014 : lw_tbl[1014]? = some ((Jvm.Cond.code ({ cls := "OnionProbateModel", name := "nextOf", desc := "(I)I" } : Jvm.MethodName) prog_12_method_30_code (4 : Nat) (Option.some Jvm.ClassFile.FieldType.int))) := by decide +kernel
theorem r1015 : lw_tbl[1015]? = some ((Jvm.Cond.methodLink "OnionProbateModel" (207 : Nat) ({ cls := "OnionProbateModel", name := "law", desc := "()I" } : Jvm.MethodName))) := by decide +kernel
theorem r1017 : lw_tbl[1017]? = some ((Jvm.Cond.instanceMethod ({ cls := "OnionProbateModel", name := "law", desc := "()I" } : Jvm.MethodName))) := by decide +kernel
theorem r1018 : lw_tbl[1018]? = some ((Jvm.Cond.code ({ cls := "OnionProbateModel", name := "law", desc := "()I" } : Jvm.MethodName) prog_12_method_32_code (3 : Nat) (Option.some Jvm.ClassFile.FieldType.int))) := by decide +kernel
theorem r1019 : lw_tbl[1019]? = some ((Jvm.Cond.methodLink "OnionProbateModel" (210 : Nat) ({ cls := "OnionProbateModel", name := "envyBy", desc := "([II)I" } : Jvm.MethodName))) := by decide +kernel
theorem r1021 : lw_tbl[1021]? = some ((Jvm.Cond.instanceMethod ({ cls := "OnionProbateModel", name := "envyBy", desc := "([II)I" } : Jvm.MethodName))) := by decide +kernel
theorem r1022 : lw_tbl[1022]? = some ((Jvm.Cond.code ({ cls := "OnionProbateModel", name := "envyBy", desc := "([II)I" } : Jvm.MethodName) prog_12_method_33_code (6 : Nat) (Option.some Jvm.ClassFile.FieldType.int))) := by decide +kernel
theorem r1023 : lw_tbl[1023]? = some ((Jvm.Cond.constant "OnionProbateModel" (197 : Nat) (1000000 : Int32))) := by decide +kernel
theorem r1024 : lw_tbl[1024]? = some ((Jvm.Cond.methodLink "OnionProbateModel" (214 : Nat) ({ cls := "OnionProbateModel", name := "weeps", desc := "()I" } : Jvm.MethodName))) := by decide +kernel
theorem r1026 : lw_tbl[1026]? = some ((Jvm.Cond.instanceMethod ({ cls := "OnionProbateModel", name := "weeps", desc := "()I" } : Jvm.MethodName))) := by decide +kernel
theorem r1027 : lw_tbl[1027]? = some ((Jvm.Cond.code ({ cls := "OnionProbateModel", name := "weeps", desc := "()I" } : Jvm.MethodName) prog_12_method_34_code (3 : Nat) (Option.some Jvm.ClassFile.FieldType.int))) := by decide +kernel
theorem r1028 : lw_tbl[1028]? = some ((Jvm.Cond.methodLink "OnionProbateModel" (217 : Nat) ({ cls := "OnionProbateModel", name := "dryIn", desc := "()I" } : Jvm.MethodName))) := by decide +kernel
theorem r1030 : lw_tbl[1030]? = some ((Jvm.Cond.instanceMethod ({ cls := "OnionProbateModel", name := "dryIn", desc := "()I" } : Jvm.MethodName))) := by decide +kernel
theorem r1031 : lw_tbl[1031]? = some ((Jvm.Cond.code ({ cls := "OnionProbateModel", name := "dryIn", desc := "()I" } : Jvm.MethodName) prog_12_method_35_code (4 : Nat) (Option.some Jvm.ClassFile.FieldType.int))) := by decide +kernel
theorem r1032 : lw_tbl[1032]? = some ((Jvm.Cond.methodLink "OnionProbateLaw" (35 : Nat) ({ cls := "OnionProbateModel", name := "layer", desc := "(II)I" } : Jvm.MethodName))) := by decide +kernel
theorem r1033 : lw_tbl[1033]? = some ((Jvm.Cond.instanceMethod ({ cls := "OnionProbateModel", name := "layer", desc := "(II)I" } : Jvm.MethodName))) := by decide +kernel
theorem r1034 : lw_tbl[1034]? = some ((Jvm.Cond.selects "OnionProbateModel" ({ cls := "OnionProbateModel", name := "layer", desc := "(II)I" } : Jvm.MethodName) ({ cls := "OnionProbateModel", name := "layer", desc := "(II)I" } : Jvm.MethodName))) := by decide +kernel
theorem r1035 : lw_tbl[1035]? = some ((Jvm.Cond.code ({ cls := "OnionProbateModel", name := "layer", desc := "(II)I" } : Jvm.MethodName) prog_12_method_37_code (3 : Nat) (Option.some Jvm.ClassFile.FieldType.int))) := by decide +kernel
theorem r1036 : lw_tbl[1036]? = some ((Jvm.Cond.methodLink "OnionProbateModel" (220 : Nat) ({ cls := "OnionProbateModel", name := "isLayer", desc := "(I)Z" } : Jvm.MethodName))) := by decide +kernel
theorem r1038 : lw_tbl[1038]? = some ((Jvm.Cond.instanceMethod ({ cls := "OnionProbateModel", name := "isLayer", desc := "(I)Z" } : Jvm.MethodName))) := by decide +kernel
theorem r1039 : lw_tbl[1039]? = some ((Jvm.Cond.code ({ cls := "OnionProbateModel", name := "isLayer", desc := "(I)Z" } : Jvm.MethodName) prog_12_method_5_code (2 : Nat) (Option.some Jvm.ClassFile.FieldType.boolean))) := by decide +kernel
theorem r1040 : lw_tbl[1040]? = some ((Jvm.Cond.constant "OnionProbateModel" (223 : Nat) (-1000000001 : Int32))) := by decide +kernel
theorem r1041 : lw_tbl[1041]? = some ((Jvm.Cond.methodLink "OnionProbateModel" (224 : Nat) ({ cls := "OnionProbateModel", name := "worthOf", desc := "(I)I" } : Jvm.MethodName))) := by decide +kernel
theorem r1043 : lw_tbl[1043]? = some ((Jvm.Cond.instanceMethod ({ cls := "OnionProbateModel", name := "worthOf", desc := "(I)I" } : Jvm.MethodName))) := by decide +kernel
theorem r1044 : lw_tbl[1044]? = some ((Jvm.Cond.code ({ cls := "OnionProbateModel", name := "worthOf", desc := "(I)I" } : Jvm.MethodName) prog_12_method_24_code (2 : Nat) (Option.some Jvm.ClassFile.FieldType.int))) := by decide +kernel
theorem r1045 : lw_tbl[1045]? = some ((Jvm.Cond.methodLink "OnionProbateModel" (182 : Nat) ({ cls := "OnionProbateModel", name := "worthBy", desc := "(II)I" } : Jvm.MethodName))) := by decide +kernel
theorem r1046 : lw_tbl[1046]? = some ((Jvm.Cond.static ({ cls := "OnionProbateModel", name := "worthBy", desc := "(II)I" } : Jvm.MethodName))) := by decide +kernel
theorem r1047 : lw_tbl[1047]? = some ((Jvm.Cond.code ({ cls := "OnionProbateModel", name := "worthBy", desc := "(II)I" } : Jvm.MethodName) prog_12_method_22_code (2 : Nat) (Option.some Jvm.ClassFile.FieldType.int))) := by decide +kernel
theorem r1048 : lw_tbl[1048]? = some ((Jvm.Cond.methodLink "OnionProbateModel" (227 : Nat) ({ cls := "OnionProbateModel", name := "stingOf", desc := "(I)I" } : Jvm.MethodName))) := by decide +kernel
theorem r1050 : lw_tbl[1050]? = some ((Jvm.Cond.instanceMethod ({ cls := "OnionProbateModel", name := "stingOf", desc := "(I)I" } : Jvm.MethodName))) := by decide +kernel
theorem r1051 : lw_tbl[1051]? = some ((Jvm.Cond.code ({ cls := "OnionProbateModel", name := "stingOf", desc := "(I)I" } : Jvm.MethodName) prog_12_method_25_code (2 : Nat) (Option.some Jvm.ClassFile.FieldType.int))) := by decide +kernel
theorem r1052 : lw_tbl[1052]? = some ((Jvm.Cond.methodLink "OnionProbateModel" (185 : Nat) ({ cls := "OnionProbateModel", name := "stingBy", desc := "(II)I" } : Jvm.MethodName))) := by decide +kernel
theorem r1053 : lw_tbl[1053]? = some ((Jvm.Cond.static ({ cls := "OnionProbateModel", name := "stingBy", desc := "(II)I" } : Jvm.MethodName))) := by decide +kernel
theorem r1054 : lw_tbl[1054]? = some ((Jvm.Cond.code ({ cls := "OnionProbateModel", name := "stingBy", desc := "(II)I" } : Jvm.MethodName) prog_12_method_23_code (2 : Nat) (Option.some Jvm.ClassFile.FieldType.int))) := by decide +kernel
theorem r1055 : lw_tbl[1055]? = some ((Jvm.Cond.methodLink "OnionProbateLaw" (39 : Nat) ({ cls := "OnionProbateModel", name := "executor", desc := "(II)I" } : Jvm.MethodName))) := by decide +kernel
theorem r1056 : lw_tbl[1056]? = some ((Jvm.Cond.instanceMethod ({ cls := "OnionProbateModel", name := "executor", desc := "(II)I" } : Jvm.MethodName))) := by decide +kernel
theorem r1057 : lw_tbl[1057]? = some ((Jvm.Cond.selects "OnionProbateModel" ({ cls := "OnionProbateModel", name := "executor", desc := "(II)I" } : Jvm.MethodName) ({ cls := "OnionProbateModel", name := "executor", desc := "(II)I" } : Jvm.MethodName))) := by decide +kernel
theorem r1058 : lw_tbl[1058]? = some ((Jvm.Cond.code ({ cls := "OnionProbateModel", name := "executor", desc := "(II)I" } : Jvm.MethodName) prog_12_method_38_code (3 : Nat) (Option.some Jvm.ClassFile.FieldType.int))) := by decide +kernel
theorem r1059 : lw_tbl[1059]? = some ((Jvm.Cond.methodLink "OnionProbateModel" (230 : Nat) ({ cls := "OnionProbateModel", name := "isExecutor", desc := "(I)Z" } : Jvm.MethodName))) := by decide +kernel
theorem r1061 : lw_tbl[1061]? = some ((Jvm.Cond.instanceMethod ({ cls := "OnionProbateModel", name := "isExecutor", desc := "(I)Z" } : Jvm.MethodName))) := by decide +kernel
theorem r1062 : lw_tbl[1062]? = some ((Jvm.Cond.code ({ cls := "OnionProbateModel", name := "isExecutor", desc := "(I)Z" } : Jvm.MethodName) prog_12_method_6_code (2 : Nat) (Option.some Jvm.ClassFile.FieldType.boolean))) := by decide +kernel
theorem r1063 : lw_tbl[1063]? = some ((Jvm.Cond.methodLink "OnionProbateLaw" (43 : Nat) ({ cls := "OnionProbateModel", name := "type", desc := "(II)I" } : Jvm.MethodName))) := by decide +kernel
theorem r1064 : lw_tbl[1064]? = some ((Jvm.Cond.instanceMethod ({ cls := "OnionProbateModel", name := "type", desc := "(II)I" } : Jvm.MethodName))) := by decide +kernel
theorem r1065 : lw_tbl[1065]? = some ((Jvm.Cond.selects "OnionProbateModel" ({ cls := "OnionProbateModel", name := "type", desc := "(II)I" } : Jvm.MethodName) ({ cls := "OnionProbateModel", name := "type", desc := "(II)I" } : Jvm.MethodName))) := by decide +kernel
theorem r1066 : lw_tbl[1066]? = some ((Jvm.Cond.code ({ cls := "OnionProbateModel", name := "type", desc := "(II)I" } : Jvm.MethodName) prog_12_method_39_code (3 : Nat) (Option.some Jvm.ClassFile.FieldType.int))) := by decide +kernel
theorem r1067 : lw_tbl[1067]? = some ((Jvm.Cond.constantLong "OnionProbateModel" (233 : Nat) (7 : Int64))) := by decide +kernel
theorem r1068 : lw_tbl[1068]? = some ((Jvm.Cond.methodLink "OnionProbateLaw" (47 : Nat) ({ cls := "OnionProbateModel", name := "logged", desc := "(II)I" } : Jvm.MethodName))) := by decide +kernel
theorem r1069 : lw_tbl[1069]? = some ((Jvm.Cond.instanceMethod ({ cls := "OnionProbateModel", name := "logged", desc := "(II)I" } : Jvm.MethodName))) := by decide +kernel
theorem r1070 : lw_tbl[1070]? = some ((Jvm.Cond.selects "OnionProbateModel" ({ cls := "OnionProbateModel", name := "logged", desc := "(II)I" } : Jvm.MethodName) ({ cls := "OnionProbateModel", name := "logged", desc := "(II)I" } : Jvm.MethodName))) := by decide +kernel
theorem r1071 : lw_tbl[1071]? = some ((Jvm.Cond.code ({ cls := "OnionProbateModel", name := "logged", desc := "(II)I" } : Jvm.MethodName) prog_12_method_40_code (3 : Nat) (Option.some Jvm.ClassFile.FieldType.int))) := by decide +kernel
theorem r1072 : lw_tbl[1072]? = some ((Jvm.Cond.constantLong "OnionProbateModel" (235 : Nat) (3 : Int64))) := by decide +kernel
theorem r1073 : lw_tbl[1073]? = some ((Jvm.Cond.methodLink "OnionProbateLaw" (51 : Nat) ({ cls := "OnionProbateModel", name := "peel", desc := "(I)I" } : Jvm.MethodName))) := by decide +kernel
theorem r1074 : lw_tbl[1074]? = some ((Jvm.Cond.instanceMethod ({ cls := "OnionProbateModel", name := "peel", desc := "(I)I" } : Jvm.MethodName))) := by decide +kernel
theorem r1075 : lw_tbl[1075]? = some ((Jvm.Cond.selects "OnionProbateModel" ({ cls := "OnionProbateModel", name := "peel", desc := "(I)I" } : Jvm.MethodName) ({ cls := "OnionProbateModel", name := "peel", desc := "(I)I" } : Jvm.MethodName))) := by decide +kernel
theorem r1076 : lw_tbl[1076]? = some ((Jvm.Cond.code ({ cls := "OnionProbateModel", name := "peel", desc := "(I)I" } : Jvm.MethodName) prog_12_method_48_code (2 : Nat) (Option.some Jvm.ClassFile.FieldType.int))) := by decide +kernel
theorem r1077 : lw_tbl[1077]? = some ((Jvm.Cond.methodLink "OnionProbateModel" (244 : Nat) ({ cls := "OnionProbateModel", name := "canPeel", desc := "()Z" } : Jvm.MethodName))) := by decide +kernel
theorem r1079 : lw_tbl[1079]? = some ((Jvm.Cond.instanceMethod ({ cls := "OnionProbateModel", name := "canPeel", desc := "()Z" } : Jvm.MethodName))) := by decide +kernel
theorem r1080 : lw_tbl[1080]? = some ((Jvm.Cond.code ({ cls := "OnionProbateModel", name := "canPeel", desc := "()Z" } : Jvm.MethodName) prog_12_method_47_code (1 : Nat) (Option.some Jvm.ClassFile.FieldType.boolean))) := by decide +kernel
theorem r1081 : lw_tbl[1081]? = some ((Jvm.Cond.constant "OnionProbateModel" (248 : Nat) (-1000000003 : Int32))) := by decide +kernel
theorem r1082 : lw_tbl[1082]? = some ((Jvm.Cond.methodLink "OnionProbateModel" (249 : Nat) ({ cls := "OnionProbateModel", name := "remember", desc := "()V" } : Jvm.MethodName))) := by decide +kernel
theorem r1084 : lw_tbl[1084]? = some ((Jvm.Cond.instanceMethod ({ cls := "OnionProbateModel", name := "remember", desc := "()V" } : Jvm.MethodName))) := by decide +kernel
theorem r1085 : lw_tbl[1085]? = some ((Jvm.Cond.code ({ cls := "OnionProbateModel", name := "remember", desc := "()V" } : Jvm.MethodName) prog_12_method_41_code (2 : Nat) (Option.none : Option Jvm.ClassFile.FieldType))) := by decide +kernel
theorem r1086 : lw_tbl[1086]? = some ((Jvm.Cond.methodLink "OnionProbateModel" (252 : Nat) ({ cls := "OnionProbateModel", name := "peels", desc := "(I)I" } : Jvm.MethodName))) := by decide +kernel
theorem r1088 : lw_tbl[1088]? = some ((Jvm.Cond.instanceMethod ({ cls := "OnionProbateModel", name := "peels", desc := "(I)I" } : Jvm.MethodName))) := by decide +kernel
theorem r1089 : lw_tbl[1089]? = some ((Jvm.Cond.code ({ cls := "OnionProbateModel", name := "peels", desc := "(I)I" } : Jvm.MethodName) prog_12_method_44_code (7 : Nat) (Option.some Jvm.ClassFile.FieldType.int))) := by decide +kernel
theorem r1090 : lw_tbl[1090]? = some ((Jvm.Cond.methodLink "OnionProbateModel" (237 : Nat) ({ cls := "OnionProbateModel", name := "capped", desc := "(I)I" } : Jvm.MethodName))) := by decide +kernel
theorem r1091 : lw_tbl[1091]? = some ((Jvm.Cond.static ({ cls := "OnionProbateModel", name := "capped", desc := "(I)I" } : Jvm.MethodName))) := by decide +kernel
theorem r1092 : lw_tbl[1092]? = some ((Jvm.Cond.code ({ cls := "OnionProbateModel", name := "capped", desc := "(I)I" } : Jvm.MethodName) prog_12_method_43_code (1 : Nat) (Option.some Jvm.ClassFile.FieldType.int))) := by decide +kernel
theorem r1093 : lw_tbl[1093]? = some ((Jvm.Cond.methodLink "OnionProbateModel" (240 : Nat) ({ cls := "OnionProbateModel", name := "enters", desc := "(III)V" } : Jvm.MethodName))) := by decide +kernel
theorem r1095 : lw_tbl[1095]? = some ((Jvm.Cond.instanceMethod ({ cls := "OnionProbateModel", name := "enters", desc := "(III)V" } : Jvm.MethodName))) := by decide +kernel
theorem r1096 : lw_tbl[1096]? = some ((Jvm.Cond.code ({ cls := "OnionProbateModel", name := "enters", desc := "(III)V" } : Jvm.MethodName) prog_12_method_42_code (5 : Nat) (Option.none : Option Jvm.ClassFile.FieldType))) := by decide +kernel
theorem r1097 : lw_tbl[1097]? = some ((Jvm.Cond.methodLink "OnionProbateLaw" (56 : Nat) ({ cls := "OnionProbateModel", name := "stop", desc := "(Z)I" } : Jvm.MethodName))) := by decide +kernel
theorem r1098 : lw_tbl[1098]? = some ((Jvm.Cond.instanceMethod ({ cls := "OnionProbateModel", name := "stop", desc := "(Z)I" } : Jvm.MethodName))) := by decide +kernel
theorem r1099 : lw_tbl[1099]? = some ((Jvm.Cond.selects "OnionProbateModel" ({ cls := "OnionProbateModel", name := "stop", desc := "(Z)I" } : Jvm.MethodName) ({ cls := "OnionProbateModel", name := "stop", desc := "(Z)I" } : Jvm.MethodName))) := by decide +kernel
theorem r1100 : lw_tbl[1100]? = some ((Jvm.Cond.code ({ cls := "OnionProbateModel", name := "stop", desc := "(Z)I" } : Jvm.MethodName) prog_12_method_49_code (3 : Nat) (Option.some Jvm.ClassFile.FieldType.int))) := by decide +kernel
theorem r1101 : lw_tbl[1101]? = some ((Jvm.Cond.methodLink "OnionProbateLaw" (60 : Nat) ({ cls := "OnionProbateModel", name := "visit", desc := "()I" } : Jvm.MethodName))) := by decide +kernel
theorem r1102 : lw_tbl[1102]? = some ((Jvm.Cond.instanceMethod ({ cls := "OnionProbateModel", name := "visit", desc := "()I" } : Jvm.MethodName))) := by decide +kernel
theorem r1103 : lw_tbl[1103]? = some ((Jvm.Cond.selects "OnionProbateModel" ({ cls := "OnionProbateModel", name := "visit", desc := "()I" } : Jvm.MethodName) ({ cls := "OnionProbateModel", name := "visit", desc := "()I" } : Jvm.MethodName))) := by decide +kernel
theorem r1104 : lw_tbl[1104]? = some ((Jvm.Cond.code ({ cls := "OnionProbateModel", name := "visit", desc := "()I" } : Jvm.MethodName) prog_12_method_50_code (1 : Nat) (Option.some Jvm.ClassFile.FieldType.int))) := by decide +kernel
theorem r1105 : lw_tbl[1105]? = some ((Jvm.Cond.methodLink "OnionProbateModel" (255 : Nat) ({ cls := "OnionProbateModel", name := "grows", desc := "()V" } : Jvm.MethodName))) := by decide +kernel
theorem r1107 : lw_tbl[1107]? = some ((Jvm.Cond.instanceMethod ({ cls := "OnionProbateModel", name := "grows", desc := "()V" } : Jvm.MethodName))) := by decide +kernel
theorem r1108 : lw_tbl[1108]? = some ((Jvm.Cond.code ({ cls := "OnionProbateModel", name := "grows", desc := "()V" } : Jvm.MethodName) prog_12_method_45_code (2 : Nat) (Option.none : Option Jvm.ClassFile.FieldType))) := by decide +kernel
theorem r1109 : lw_tbl[1109]? = some ((Jvm.Cond.methodLink "OnionProbateLaw" (64 : Nat) ({ cls := "OnionProbateModel", name := "year", desc := "(I)I" } : Jvm.MethodName))) := by decide +kernel
theorem r1110 : lw_tbl[1110]? = some ((Jvm.Cond.instanceMethod ({ cls := "OnionProbateModel", name := "year", desc := "(I)I" } : Jvm.MethodName))) := by decide +kernel
theorem r1111 : lw_tbl[1111]? = some ((Jvm.Cond.selects "OnionProbateModel" ({ cls := "OnionProbateModel", name := "year", desc := "(I)I" } : Jvm.MethodName) ({ cls := "OnionProbateModel", name := "year", desc := "(I)I" } : Jvm.MethodName))) := by decide +kernel
theorem r1112 : lw_tbl[1112]? = some ((Jvm.Cond.code ({ cls := "OnionProbateModel", name := "year", desc := "(I)I" } : Jvm.MethodName) prog_12_method_52_code (4 : Nat) (Option.some Jvm.ClassFile.FieldType.int))) := by decide +kernel
theorem r1113 : lw_tbl[1113]? = some ((Jvm.Cond.methodLink "OnionProbateModel" (260 : Nat) ({ cls := "OnionProbateModel", name := "yearsRefused", desc := "(I)I" } : Jvm.MethodName))) := by decide +kernel
theorem r1115 : lw_tbl[1115]? = some ((Jvm.Cond.instanceMethod ({ cls := "OnionProbateModel", name := "yearsRefused", desc := "(I)I" } : Jvm.MethodName))) := by decide +kernel
theorem r1116 : lw_tbl[1116]? = some ((Jvm.Cond.code ({ cls := "OnionProbateModel", name := "yearsRefused", desc := "(I)I" } : Jvm.MethodName) prog_12_method_51_code (2 : Nat) (Option.some Jvm.ClassFile.FieldType.int))) := by decide +kernel
theorem r1117 : lw_tbl[1117]? = some ((Jvm.Cond.constantLong "OnionProbateModel" (258 : Nat) (30 : Int64))) := by decide +kernel
theorem r1118 : lw_tbl[1118]? = some ((Jvm.Cond.methodLink "OnionProbateModel" (263 : Nat) ({ cls := "OnionProbateModel", name := "passes", desc := "()V" } : Jvm.MethodName))) := by decide +kernel
theorem r1120 : lw_tbl[1120]? = some ((Jvm.Cond.instanceMethod ({ cls := "OnionProbateModel", name := "passes", desc := "()V" } : Jvm.MethodName))) := by decide +kernel
theorem r1121 : lw_tbl[1121]? = some ((Jvm.Cond.code ({ cls := "OnionProbateModel", name := "passes", desc := "()V" } : Jvm.MethodName) prog_12_method_46_code (2 : Nat) (Option.none : Option Jvm.ClassFile.FieldType))) := by decide +kernel
theorem r1122 : lw_tbl[1122]? = some ((Jvm.Cond.methodLink "OnionProbateLaw" (68 : Nat) ({ cls := "OnionProbateModel", name := "drift", desc := "(I)I" } : Jvm.MethodName))) := by decide +kernel
theorem r1123 : lw_tbl[1123]? = some ((Jvm.Cond.instanceMethod ({ cls := "OnionProbateModel", name := "drift", desc := "(I)I" } : Jvm.MethodName))) := by decide +kernel
theorem r1124 : lw_tbl[1124]? = some ((Jvm.Cond.selects "OnionProbateModel" ({ cls := "OnionProbateModel", name := "drift", desc := "(I)I" } : Jvm.MethodName) ({ cls := "OnionProbateModel", name := "drift", desc := "(I)I" } : Jvm.MethodName))) := by decide +kernel
theorem r1125 : lw_tbl[1125]? = some ((Jvm.Cond.code ({ cls := "OnionProbateModel", name := "drift", desc := "(I)I" } : Jvm.MethodName) prog_12_method_55_code (4 : Nat) (Option.some Jvm.ClassFile.FieldType.int))) := by decide +kernel
theorem r1126 : lw_tbl[1126]? = some ((Jvm.Cond.methodLink "OnionProbateModel" (279 : Nat) ({ cls := "OnionProbateModel", name := "chance", desc := "()V" } : Jvm.MethodName))) := by decide +kernel
theorem r1128 : lw_tbl[1128]? = some ((Jvm.Cond.instanceMethod ({ cls := "OnionProbateModel", name := "chance", desc := "()V" } : Jvm.MethodName))) := by decide +kernel
theorem r1129 : lw_tbl[1129]? = some ((Jvm.Cond.code ({ cls := "OnionProbateModel", name := "chance", desc := "()V" } : Jvm.MethodName) prog_12_method_54_code (3 : Nat) (Option.none : Option Jvm.ClassFile.FieldType))) := by decide +kernel
theorem r1130 : lw_tbl[1130]? = some ((Jvm.Cond.methodLink "OnionProbateModel" (276 : Nat) ({ cls := "OnionProbateModel", name := "draw", desc := "(I)I" } : Jvm.MethodName))) := by decide +kernel
theorem r1132 : lw_tbl[1132]? = some ((Jvm.Cond.instanceMethod ({ cls := "OnionProbateModel", name := "draw", desc := "(I)I" } : Jvm.MethodName))) := by decide +kernel
theorem r1133 : lw_tbl[1133]? = some ((Jvm.Cond.code ({ cls := "OnionProbateModel", name := "draw", desc := "(I)I" } : Jvm.MethodName) prog_12_method_53_code (2 : Nat) (Option.some Jvm.ClassFile.FieldType.int))) := by decide +kernel
theorem r1134 : lw_tbl[1134]? = some ((Jvm.Cond.constantLong "OnionProbateModel" (269 : Nat) (1103515245 : Int64))) := by decide +kernel
theorem r1135 : lw_tbl[1135]? = some ((Jvm.Cond.constantLong "OnionProbateModel" (271 : Nat) (12345 : Int64))) := by decide +kernel
theorem r1136 : lw_tbl[1136]? = some ((Jvm.Cond.constantLong "OnionProbateModel" (273 : Nat) (2147483648 : Int64))) := by decide +kernel
theorem r1137 : lw_tbl[1137]? = some ((Jvm.Cond.constant "OnionProbateModel" (275 : Nat) (65536 : Int32))) := by decide +kernel
theorem r1138 : lw_tbl[1138]? = some ((Jvm.Cond.methodLink "OnionProbateLaw" (72 : Nat) ({ cls := "OnionProbateModel", name := "undo", desc := "(I)I" } : Jvm.MethodName))) := by decide +kernel
theorem r1139 : lw_tbl[1139]? = some ((Jvm.Cond.instanceMethod ({ cls := "OnionProbateModel", name := "undo", desc := "(I)I" } : Jvm.MethodName))) := by decide +kernel
theorem r1140 : lw_tbl[1140]? = some ((Jvm.Cond.selects "OnionProbateModel" ({ cls := "OnionProbateModel", name := "undo", desc := "(I)I" } : Jvm.MethodName) ({ cls := "OnionProbateModel", name := "undo", desc := "(I)I" } : Jvm.MethodName))) := by decide +kernel
theorem r1141 : lw_tbl[1141]? = some ((Jvm.Cond.code ({ cls := "OnionProbateModel", name := "undo", desc := "(I)I" } : Jvm.MethodName) prog_12_method_56_code (3 : Nat) (Option.some Jvm.ClassFile.FieldType.int))) := by decide +kernel
theorem r1142 : lw_tbl[1142]? = some ((Jvm.Cond.methodLink "OnionProbateLaw" (76 : Nat) ({ cls := "OnionProbateModel", name := "worthIt", desc := "(II)I" } : Jvm.MethodName))) := by decide +kernel
theorem r1143 : lw_tbl[1143]? = some ((Jvm.Cond.instanceMethod ({ cls := "OnionProbateModel", name := "worthIt", desc := "(II)I" } : Jvm.MethodName))) := by decide +kernel
theorem r1144 : lw_tbl[1144]? = some ((Jvm.Cond.selects "OnionProbateModel" ({ cls := "OnionProbateModel", name := "worthIt", desc := "(II)I" } : Jvm.MethodName) ({ cls := "OnionProbateModel", name := "worthIt", desc := "(II)I" } : Jvm.MethodName))) := by decide +kernel
theorem r1145 : lw_tbl[1145]? = some ((Jvm.Cond.code ({ cls := "OnionProbateModel", name := "worthIt", desc := "(II)I" } : Jvm.MethodName) prog_12_method_57_code (7 : Nat) (Option.some Jvm.ClassFile.FieldType.int))) := by decide +kernel
theorem r1146 : lw_tbl[1146]? = some ((Jvm.Cond.methodLink "OnionProbateLaw" (80 : Nat) ({ cls := "OnionProbateModel", name := "parts", desc := "(II)I" } : Jvm.MethodName))) := by decide +kernel
theorem r1147 : lw_tbl[1147]? = some ((Jvm.Cond.instanceMethod ({ cls := "OnionProbateModel", name := "parts", desc := "(II)I" } : Jvm.MethodName))) := by decide +kernel
theorem r1148 : lw_tbl[1148]? = some ((Jvm.Cond.selects "OnionProbateModel" ({ cls := "OnionProbateModel", name := "parts", desc := "(II)I" } : Jvm.MethodName) ({ cls := "OnionProbateModel", name := "parts", desc := "(II)I" } : Jvm.MethodName))) := by decide +kernel
theorem r1149 : lw_tbl[1149]? = some ((Jvm.Cond.code ({ cls := "OnionProbateModel", name := "parts", desc := "(II)I" } : Jvm.MethodName) prog_12_method_59_code (9 : Nat) (Option.some Jvm.ClassFile.FieldType.int))) := by decide +kernel
theorem r1150 : lw_tbl[1150]? = some ((Jvm.Cond.constantLong "OnionProbateModel" (282 : Nat) (5 : Int64))) := by decide +kernel
theorem r1151 : lw_tbl[1151]? = some ((Jvm.Cond.methodLink "OnionProbateModel" (284 : Nat) ({ cls := "OnionProbateModel", name := "stingFrom", desc := "(II)I" } : Jvm.MethodName))) := by decide +kernel
theorem r1153 : lw_tbl[1153]? = some ((Jvm.Cond.instanceMethod ({ cls := "OnionProbateModel", name := "stingFrom", desc := "(II)I" } : Jvm.MethodName))) := by decide +kernel
theorem r1154 : lw_tbl[1154]? = some ((Jvm.Cond.code ({ cls := "OnionProbateModel", name := "stingFrom", desc := "(II)I" } : Jvm.MethodName) prog_12_method_58_code (5 : Nat) (Option.some Jvm.ClassFile.FieldType.int))) := by decide +kernel
theorem r1155 : lw_tbl[1155]? = some ((Jvm.Cond.methodLink "OnionProbateLaw" (84 : Nat) ({ cls := "OnionProbateModel", name := "byTurns", desc := "(I)I" } : Jvm.MethodName))) := by decide +kernel
theorem r1156 : lw_tbl[1156]? = some ((Jvm.Cond.instanceMethod ({ cls := "OnionProbateModel", name := "byTurns", desc := "(I)I" } : Jvm.MethodName))) := by decide +kernel
theorem r1157 : lw_tbl[1157]? = some ((Jvm.Cond.selects "OnionProbateModel" ({ cls := "OnionProbateModel", name := "byTurns", desc := "(I)I" } : Jvm.MethodName) ({ cls := "OnionProbateModel", name := "byTurns", desc := "(I)I" } : Jvm.MethodName))) := by decide +kernel
theorem r1158 : lw_tbl[1158]? = some ((Jvm.Cond.code ({ cls := "OnionProbateModel", name := "byTurns", desc := "(I)I" } : Jvm.MethodName) prog_12_method_60_code (7 : Nat) (Option.some Jvm.ClassFile.FieldType.int))) := by decide +kernel
theorem r1159 : lw_tbl[1159]? = some ((Jvm.Cond.methodLink "OnionProbateLaw" (88 : Nat) ({ cls := "OnionProbateModel", name := "twoSides", desc := "(I)I" } : Jvm.MethodName))) := by decide +kernel
theorem r1160 : lw_tbl[1160]? = some ((Jvm.Cond.instanceMethod ({ cls := "OnionProbateModel", name := "twoSides", desc := "(I)I" } : Jvm.MethodName))) := by decide +kernel
theorem r1161 : lw_tbl[1161]? = some ((Jvm.Cond.selects "OnionProbateModel" ({ cls := "OnionProbateModel", name := "twoSides", desc := "(I)I" } : Jvm.MethodName) ({ cls := "OnionProbateModel", name := "twoSides", desc := "(I)I" } : Jvm.MethodName))) := by decide +kernel
theorem r1162 : lw_tbl[1162]? = some ((Jvm.Cond.code ({ cls := "OnionProbateModel", name := "twoSides", desc := "(I)I" } : Jvm.MethodName) prog_12_method_61_code (8 : Nat) (Option.some Jvm.ClassFile.FieldType.int))) := by decide +kernel
theorem r1163 : lw_tbl[1163]? = some ((Jvm.Cond.constantLong "OnionProbateModel" (287 : Nat) (2 : Int64))) := by decide +kernel
theorem r1164 : lw_tbl[1164]? = some ((Jvm.Cond.methodLink "OnionProbateLaw" (92 : Nat) ({ cls := "OnionProbateModel", name := "nextKind", desc := "(I)I" } : Jvm.MethodName))) := by decide +kernel
theorem r1165 : lw_tbl[1165]? = some ((Jvm.Cond.instanceMethod ({ cls := "OnionProbateModel", name := "nextKind", desc := "(I)I" } : Jvm.MethodName))) := by decide +kernel
theorem r1166 : lw_tbl[1166]? = some ((Jvm.Cond.selects "OnionProbateModel" ({ cls := "OnionProbateModel", name := "nextKind", desc := "(I)I" } : Jvm.MethodName) ({ cls := "OnionProbateModel", name := "nextKind", desc := "(I)I" } : Jvm.MethodName))) := by decide +kernel
theorem r1167 : lw_tbl[1167]? = some ((Jvm.Cond.code ({ cls := "OnionProbateModel", name := "nextKind", desc := "(I)I" } : Jvm.MethodName) prog_12_method_62_code (2 : Nat) (Option.some Jvm.ClassFile.FieldType.int))) := by decide +kernel
theorem r1168 : lw_tbl[1168]? = some ((Jvm.Cond.constantLong "OnionProbateModel" (289 : Nat) (4 : Int64))) := by decide +kernel
theorem r1169 : lw_tbl[1169]? = some ((Jvm.Cond.methodLink "OnionProbateLaw" (96 : Nat) ({ cls := "OnionProbateModel", name := "allows", desc := "(I)I" } : Jvm.MethodName))) := by decide +kernel
theorem r1170 : lw_tbl[1170]? = some ((Jvm.Cond.instanceMethod ({ cls := "OnionProbateModel", name := "allows", desc := "(I)I" } : Jvm.MethodName))) := by decide +kernel
theorem r1171 : lw_tbl[1171]? = some ((Jvm.Cond.selects "OnionProbateModel" ({ cls := "OnionProbateModel", name := "allows", desc := "(I)I" } : Jvm.MethodName) ({ cls := "OnionProbateModel", name := "allows", desc := "(I)I" } : Jvm.MethodName))) := by decide +kernel
theorem r1172 : lw_tbl[1172]? = some ((Jvm.Cond.code ({ cls := "OnionProbateModel", name := "allows", desc := "(I)I" } : Jvm.MethodName) prog_12_method_64_code (4 : Nat) (Option.some Jvm.ClassFile.FieldType.int))) := by decide +kernel
theorem r1173 : lw_tbl[1173]? = some ((Jvm.Cond.methodLink "OnionProbateModel" (291 : Nat) ({ cls := "OnionProbateModel", name := "isPair", desc := "(II)Z" } : Jvm.MethodName))) := by decide +kernel
theorem r1175 : lw_tbl[1175]? = some ((Jvm.Cond.instanceMethod ({ cls := "OnionProbateModel", name := "isPair", desc := "(II)Z" } : Jvm.MethodName))) := by decide +kernel
theorem r1176 : lw_tbl[1176]? = some ((Jvm.Cond.code ({ cls := "OnionProbateModel", name := "isPair", desc := "(II)Z" } : Jvm.MethodName) prog_12_method_63_code (6 : Nat) (Option.some Jvm.ClassFile.FieldType.boolean))) := by decide +kernel
theorem r1177 : lw_tbl[1177]? = some ((Jvm.Cond.methodLink "OnionProbateLaw" (100 : Nat) ({ cls := "OnionProbateModel", name := "run", desc := "(I)I" } : Jvm.MethodName))) := by decide +kernel
theorem r1178 : lw_tbl[1178]? = some ((Jvm.Cond.instanceMethod ({ cls := "OnionProbateModel", name := "run", desc := "(I)I" } : Jvm.MethodName))) := by decide +kernel
theorem r1179 : lw_tbl[1179]? = some ((Jvm.Cond.selects "OnionProbateModel" ({ cls := "OnionProbateModel", name := "run", desc := "(I)I" } : Jvm.MethodName) ({ cls := "OnionProbateModel", name := "run", desc := "(I)I" } : Jvm.MethodName))) := by decide +kernel
theorem r1180 : lw_tbl[1180]? = some ((Jvm.Cond.code ({ cls := "OnionProbateModel", name := "run", desc := "(I)I" } : Jvm.MethodName) prog_12_method_65_code (6 : Nat) (Option.some Jvm.ClassFile.FieldType.int))) := by decide +kernel
theorem r1181 : lw_tbl[1181]? = some ((Jvm.Cond.methodLink "OnionProbateLaw" (104 : Nat) ({ cls := "OnionProbateModel", name := "fair", desc := "(I)I" } : Jvm.MethodName))) := by decide +kernel
theorem r1182 : lw_tbl[1182]? = some ((Jvm.Cond.instanceMethod ({ cls := "OnionProbateModel", name := "fair", desc := "(I)I" } : Jvm.MethodName))) := by decide +kernel
theorem r1183 : lw_tbl[1183]? = some ((Jvm.Cond.selects "OnionProbateModel" ({ cls := "OnionProbateModel", name := "fair", desc := "(I)I" } : Jvm.MethodName) ({ cls := "OnionProbateModel", name := "fair", desc := "(I)I" } : Jvm.MethodName))) := by decide +kernel
theorem r1184 : lw_tbl[1184]? = some ((Jvm.Cond.code ({ cls := "OnionProbateModel", name := "fair", desc := "(I)I" } : Jvm.MethodName) prog_12_method_66_code (6 : Nat) (Option.some Jvm.ClassFile.FieldType.int))) := by decide +kernel
theorem r1185 : lw_tbl[1185]? = some ((Jvm.Cond.methodLink "OnionProbateLaw" (108 : Nat) ({ cls := "OnionProbateModel", name := "dry", desc := "(II)I" } : Jvm.MethodName))) := by decide +kernel
theorem r1186 : lw_tbl[1186]? = some ((Jvm.Cond.instanceMethod ({ cls := "OnionProbateModel", name := "dry", desc := "(II)I" } : Jvm.MethodName))) := by decide +kernel
theorem r1187 : lw_tbl[1187]? = some ((Jvm.Cond.selects "OnionProbateModel" ({ cls := "OnionProbateModel", name := "dry", desc := "(II)I" } : Jvm.MethodName) ({ cls := "OnionProbateModel", name := "dry", desc := "(II)I" } : Jvm.MethodName))) := by decide +kernel
theorem r1188 : lw_tbl[1188]? = some ((Jvm.Cond.code ({ cls := "OnionProbateModel", name := "dry", desc := "(II)I" } : Jvm.MethodName) prog_12_method_67_code (6 : Nat) (Option.some Jvm.ClassFile.FieldType.int))) := by decide +kernel
theorem r1189 : lw_tbl[1189]? = some ((Jvm.Cond.constantLong "OnionProbateModel" (295 : Nat) (60 : Int64))) := by decide +kernel
theorem r1190 : lw_tbl[1190]? = some ((Jvm.Cond.constantLong "OnionProbateModel" (297 : Nat) (100 : Int64))) := by decide +kernel
theorem r1191 : lw_tbl[1191]? = some ((Jvm.Cond.constantLong "OnionProbateModel" (299 : Nat) (1000000000 : Int64))) := by decide +kernel
theorem r1192 : lw_tbl[1192]? = some ((Jvm.Cond.methodLink "OnionProbateLaw" (113 : Nat) ({ cls := "OnionProbateModel", name := "guess", desc := "(IIZ)I" } : Jvm.MethodName))) := by decide +kernel
theorem r1193 : lw_tbl[1193]? = some ((Jvm.Cond.instanceMethod ({ cls := "OnionProbateModel", name := "guess", desc := "(IIZ)I" } : Jvm.MethodName))) := by decide +kernel
theorem r1194 : lw_tbl[1194]? = some ((Jvm.Cond.selects "OnionProbateModel" ({ cls := "OnionProbateModel", name := "guess", desc := "(IIZ)I" } : Jvm.MethodName) ({ cls := "OnionProbateModel", name := "guess", desc := "(IIZ)I" } : Jvm.MethodName))) := by decide +kernel
theorem r1195 : lw_tbl[1195]? = some ((Jvm.Cond.code ({ cls := "OnionProbateModel", name := "guess", desc := "(IIZ)I" } : Jvm.MethodName) prog_12_method_68_code (4 : Nat) (Option.some Jvm.ClassFile.FieldType.int))) := by decide +kernel
theorem r1196 : lw_tbl[1196]? = some ((Jvm.Cond.methodLink "OnionProbateLaw" (117 : Nat) ({ cls := "OnionProbateModel", name := "couldBe", desc := "()I" } : Jvm.MethodName))) := by decide +kernel
theorem r1197 : lw_tbl[1197]? = some ((Jvm.Cond.instanceMethod ({ cls := "OnionProbateModel", name := "couldBe", desc := "()I" } : Jvm.MethodName))) := by decide +kernel
theorem r1198 : lw_tbl[1198]? = some ((Jvm.Cond.selects "OnionProbateModel" ({ cls := "OnionProbateModel", name := "couldBe", desc := "()I" } : Jvm.MethodName) ({ cls := "OnionProbateModel", name := "couldBe", desc := "()I" } : Jvm.MethodName))) := by decide +kernel
theorem r1199 : lw_tbl[1199]? = some ((Jvm.Cond.code ({ cls := "OnionProbateModel", name := "couldBe", desc := "()I" } : Jvm.MethodName) prog_12_method_71_code (3 : Nat) (Option.some Jvm.ClassFile.FieldType.int))) := by decide +kernel
theorem r1200 : lw_tbl[1200]? = some ((Jvm.Cond.methodLink "OnionProbateModel" (304 : Nat) ({ cls := "OnionProbateModel", name := "couldBeOne", desc := "(I)Z" } : Jvm.MethodName))) := by decide +kernel
theorem r1202 : lw_tbl[1202]? = some ((Jvm.Cond.instanceMethod ({ cls := "OnionProbateModel", name := "couldBeOne", desc := "(I)Z" } : Jvm.MethodName))) := by decide +kernel
theorem r1203 : lw_tbl[1203]? = some ((Jvm.Cond.code ({ cls := "OnionProbateModel", name := "couldBeOne", desc := "(I)Z" } : Jvm.MethodName) prog_12_method_70_code (4 : Nat) (Option.some Jvm.ClassFile.FieldType.boolean))) := by decide +kernel
theorem r1204 : lw_tbl[1204]? = some ((Jvm.Cond.methodLink "OnionProbateModel" (301 : Nat) ({ cls := "OnionProbateModel", name := "kindIn", desc := "(II)I" } : Jvm.MethodName))) := by decide +kernel
theorem r1206 : lw_tbl[1206]? = some ((Jvm.Cond.instanceMethod ({ cls := "OnionProbateModel", name := "kindIn", desc := "(II)I" } : Jvm.MethodName))) := by decide +kernel
theorem r1207 : lw_tbl[1207]? = some ((Jvm.Cond.code ({ cls := "OnionProbateModel", name := "kindIn", desc := "(II)I" } : Jvm.MethodName) prog_12_method_69_code (3 : Nat) (Option.some Jvm.ClassFile.FieldType.int))) := by decide +kernel
theorem r1208 : lw_tbl[1208]? = some ((Jvm.Cond.methodLink "OnionProbateLaw" (121 : Nat) ({ cls := "OnionProbateModel", name := "ask", desc := "()I" } : Jvm.MethodName))) := by decide +kernel
theorem r1209 : lw_tbl[1209]? = some ((Jvm.Cond.instanceMethod ({ cls := "OnionProbateModel", name := "ask", desc := "()I" } : Jvm.MethodName))) := by decide +kernel
theorem r1210 : lw_tbl[1210]? = some ((Jvm.Cond.selects "OnionProbateModel" ({ cls := "OnionProbateModel", name := "ask", desc := "()I" } : Jvm.MethodName) ({ cls := "OnionProbateModel", name := "ask", desc := "()I" } : Jvm.MethodName))) := by decide +kernel
theorem r1211 : lw_tbl[1211]? = some ((Jvm.Cond.code ({ cls := "OnionProbateModel", name := "ask", desc := "()I" } : Jvm.MethodName) prog_12_method_72_code (9 : Nat) (Option.some Jvm.ClassFile.FieldType.int))) := by decide +kernel
theorem r1212 : lw_tbl[1212]? = some ((Jvm.Cond.methodLink "OnionProbateModel" (307 : Nat) ({ cls := "OnionProbateModel", name := "couldBe", desc := "()I" } : Jvm.MethodName))) := by decide +kernel
theorem r1213 : lw_tbl[1213]? = some ((Jvm.Cond.methodLink "OnionProbateModel" (310 : Nat) ({ cls := "OnionProbateModel", name := "has", desc := "(II)Z" } : Jvm.MethodName))) := by decide +kernel
theorem r1214 : lw_tbl[1214]? = some ((Jvm.Cond.static ({ cls := "OnionProbateModel", name := "has", desc := "(II)Z" } : Jvm.MethodName))) := by decide +kernel
theorem r1215 : lw_tbl[1215]? = some ((Jvm.Cond.code ({ cls := "OnionProbateModel", name := "has", desc := "(II)Z" } : Jvm.MethodName) prog_12_method_4_code (2 : Nat) (Option.some Jvm.ClassFile.FieldType.boolean))) := by decide +kernel
theorem r1216 : lw_tbl[1216]? = some ((Jvm.Cond.methodLink "OnionProbateLaw" (125 : Nat) ({ cls := "OnionProbateModel", name := "write", desc := "(II)I" } : Jvm.MethodName))) := by decide +kernel
theorem r1217 : lw_tbl[1217]? = some ((Jvm.Cond.instanceMethod ({ cls := "OnionProbateModel", name := "write", desc := "(II)I" } : Jvm.MethodName))) := by decide +kernel
theorem r1218 : lw_tbl[1218]? = some ((Jvm.Cond.selects "OnionProbateModel" ({ cls := "OnionProbateModel", name := "write", desc := "(II)I" } : Jvm.MethodName) ({ cls := "OnionProbateModel", name := "write", desc := "(II)I" } : Jvm.MethodName))) := by decide +kernel
theorem r1219 : lw_tbl[1219]? = some ((Jvm.Cond.code ({ cls := "OnionProbateModel", name := "write", desc := "(II)I" } : Jvm.MethodName) prog_12_method_73_code (3 : Nat) (Option.some Jvm.ClassFile.FieldType.int))) := by decide +kernel
theorem r1220 : lw_tbl[1220]? = some ((Jvm.Cond.constantLong "OnionProbateModel" (313 : Nat) (9999 : Int64))) := by decide +kernel
theorem r1221 : lw_tbl[1221]? = some ((Jvm.Cond.methodLink "OnionProbateLaw" (129 : Nat) ({ cls := "OnionProbateModel", name := "judge", desc := "()I" } : Jvm.MethodName))) := by decide +kernel
theorem r1222 : lw_tbl[1222]? = some ((Jvm.Cond.instanceMethod ({ cls := "OnionProbateModel", name := "judge", desc := "()I" } : Jvm.MethodName))) := by decide +kernel
theorem r1223 : lw_tbl[1223]? = some ((Jvm.Cond.selects "OnionProbateModel" ({ cls := "OnionProbateModel", name := "judge", desc := "()I" } : Jvm.MethodName) ({ cls := "OnionProbateModel", name := "judge", desc := "()I" } : Jvm.MethodName))) := by decide +kernel
theorem r1224 : lw_tbl[1224]? = some ((Jvm.Cond.code ({ cls := "OnionProbateModel", name := "judge", desc := "()I" } : Jvm.MethodName) prog_12_method_74_code (2 : Nat) (Option.some Jvm.ClassFile.FieldType.int))) := by decide +kernel
theorem r1225 : lw_tbl[1225]? = some ((Jvm.Cond.methodLink "OnionProbateLaw" (133 : Nat) ({ cls := "OnionProbateModel", name := "tear", desc := "()I" } : Jvm.MethodName))) := by decide +kernel
theorem r1226 : lw_tbl[1226]? = some ((Jvm.Cond.instanceMethod ({ cls := "OnionProbateModel", name := "tear", desc := "()I" } : Jvm.MethodName))) := by decide +kernel
theorem r1227 : lw_tbl[1227]? = some ((Jvm.Cond.selects "OnionProbateModel" ({ cls := "OnionProbateModel", name := "tear", desc := "()I" } : Jvm.MethodName) ({ cls := "OnionProbateModel", name := "tear", desc := "()I" } : Jvm.MethodName))) := by decide +kernel
theorem r1228 : lw_tbl[1228]? = some ((Jvm.Cond.code ({ cls := "OnionProbateModel", name := "tear", desc := "()I" } : Jvm.MethodName) prog_12_method_75_code (2 : Nat) (Option.some Jvm.ClassFile.FieldType.int))) := by decide +kernel
theorem r1229 : lw_tbl[1229]? = some ((Jvm.Cond.methodLink "OnionProbateLaw" (137 : Nat) ({ cls := "OnionProbateModel", name := "seed", desc := "(I)I" } : Jvm.MethodName))) := by decide +kernel
theorem r1230 : lw_tbl[1230]? = some ((Jvm.Cond.instanceMethod ({ cls := "OnionProbateModel", name := "seed", desc := "(I)I" } : Jvm.MethodName))) := by decide +kernel
theorem r1231 : lw_tbl[1231]? = some ((Jvm.Cond.selects "OnionProbateModel" ({ cls := "OnionProbateModel", name := "seed", desc := "(I)I" } : Jvm.MethodName) ({ cls := "OnionProbateModel", name := "seed", desc := "(I)I" } : Jvm.MethodName))) := by decide +kernel
theorem r1232 : lw_tbl[1232]? = some ((Jvm.Cond.code ({ cls := "OnionProbateModel", name := "seed", desc := "(I)I" } : Jvm.MethodName) prog_12_method_76_code (3 : Nat) (Option.some Jvm.ClassFile.FieldType.int))) := by decide +kernel
theorem r1233 : lw_tbl[1233]? = some ((Jvm.Cond.methodLink "OnionProbateLaw" (141 : Nat) ({ cls := "OnionProbateModel", name := "keep", desc := "(I)I" } : Jvm.MethodName))) := by decide +kernel
theorem r1234 : lw_tbl[1234]? = some ((Jvm.Cond.instanceMethod ({ cls := "OnionProbateModel", name := "keep", desc := "(I)I" } : Jvm.MethodName))) := by decide +kernel
theorem r1235 : lw_tbl[1235]? = some ((Jvm.Cond.selects "OnionProbateModel" ({ cls := "OnionProbateModel", name := "keep", desc := "(I)I" } : Jvm.MethodName) ({ cls := "OnionProbateModel", name := "keep", desc := "(I)I" } : Jvm.MethodName))) := by decide +kernel
theorem r1236 : lw_tbl[1236]? = some ((Jvm.Cond.code ({ cls := "OnionProbateModel", name := "keep", desc := "(I)I" } : Jvm.MethodName) prog_12_method_77_code (3 : Nat) (Option.some Jvm.ClassFile.FieldType.int))) := by decide +kernel
theorem r1237 : lw_tbl[1237]? = some ((Jvm.Cond.methodLink "OnionProbateLaw" (145 : Nat) ({ cls := "OnionProbateModel", name := "goBack", desc := "(I)I" } : Jvm.MethodName))) := by decide +kernel
theorem r1238 : lw_tbl[1238]? = some ((Jvm.Cond.instanceMethod ({ cls := "OnionProbateModel", name := "goBack", desc := "(I)I" } : Jvm.MethodName))) := by decide +kernel
theorem r1239 : lw_tbl[1239]? = some ((Jvm.Cond.selects "OnionProbateModel" ({ cls := "OnionProbateModel", name := "goBack", desc := "(I)I" } : Jvm.MethodName) ({ cls := "OnionProbateModel", name := "goBack", desc := "(I)I" } : Jvm.MethodName))) := by decide +kernel
theorem r1240 : lw_tbl[1240]? = some ((Jvm.Cond.code ({ cls := "OnionProbateModel", name := "goBack", desc := "(I)I" } : Jvm.MethodName) prog_12_method_78_code (3 : Nat) (Option.some Jvm.ClassFile.FieldType.int))) := by decide +kernel
