-- ===== PART A: goes FIRST, ahead of the names: the tables' words, and 'selects' of the private methods out of them =====
/-- a private method of a class that the tables say can be made, by its rows of tables_1 -/
def lw_okq (q : MethodName × Nat) : Prop := (q.1.cls ≠ "java/lang/invoke/MethodHandle" ∧ q.1.cls ≠ "java/lang/invoke/VarHandle") ∧ Cond.instantiable q.1.cls q.2 ∈ tables_1 ∧ Cond.privateMethod q.1 ∈ tables_1 ∧ Cond.instanceMethod q.1 ∈ tables_1
theorem lw_p0 : lw_okq (⟨"HornMaze", "refuse", "(I)I"⟩, 15) := ⟨⟨by decide +kernel, by decide +kernel⟩, List.mem_of_getElem? (i := 23) (by decide +kernel), List.mem_of_getElem? (i := 412) (by decide +kernel), List.mem_of_getElem? (i := 413) (by decide +kernel)⟩
theorem lw_p1 : lw_okq (⟨"HornMaze", "grant", "(I)I"⟩, 15) := ⟨⟨by decide +kernel, by decide +kernel⟩, List.mem_of_getElem? (i := 23) (by decide +kernel), List.mem_of_getElem? (i := 423) (by decide +kernel), List.mem_of_getElem? (i := 424) (by decide +kernel)⟩
theorem lw_p2 : lw_okq (⟨"HornMaze$Tokens", "add", "(III)V"⟩, 5) := ⟨⟨by decide +kernel, by decide +kernel⟩, List.mem_of_getElem? (i := 158) (by decide +kernel), List.mem_of_getElem? (i := 560) (by decide +kernel), List.mem_of_getElem? (i := 561) (by decide +kernel)⟩
theorem lw_p3 : lw_okq (⟨"HornMaze$LawReader", "readClause", "(I)Z"⟩, 5) := ⟨⟨by decide +kernel, by decide +kernel⟩, List.mem_of_getElem? (i := 152) (by decide +kernel), List.mem_of_getElem? (i := 571) (by decide +kernel), List.mem_of_getElem? (i := 572) (by decide +kernel)⟩
theorem lw_p4 : lw_okq (⟨"HornMaze$LawReader", "readJoined", "(II)Z"⟩, 5) := ⟨⟨by decide +kernel, by decide +kernel⟩, List.mem_of_getElem? (i := 152) (by decide +kernel), List.mem_of_getElem? (i := 583) (by decide +kernel), List.mem_of_getElem? (i := 584) (by decide +kernel)⟩
theorem lw_p5 : lw_okq (⟨"HornMaze$LawReader", "readPlain", "(I)Z"⟩, 5) := ⟨⟨by decide +kernel, by decide +kernel⟩, List.mem_of_getElem? (i := 152) (by decide +kernel), List.mem_of_getElem? (i := 587) (by decide +kernel), List.mem_of_getElem? (i := 588) (by decide +kernel)⟩
theorem lw_p6 : lw_okq (⟨"HornMaze$LawReader", "readBracketed", "(III)Z"⟩, 5) := ⟨⟨by decide +kernel, by decide +kernel⟩, List.mem_of_getElem? (i := 152) (by decide +kernel), List.mem_of_getElem? (i := 591) (by decide +kernel), List.mem_of_getElem? (i := 592) (by decide +kernel)⟩
theorem lw_p7 : lw_okq (⟨"HornMaze$LawReader", "emit", "(II)V"⟩, 5) := ⟨⟨by decide +kernel, by decide +kernel⟩, List.mem_of_getElem? (i := 152) (by decide +kernel), List.mem_of_getElem? (i := 598) (by decide +kernel), List.mem_of_getElem? (i := 599) (by decide +kernel)⟩
theorem lw_p8 : lw_okq (⟨"HornMaze$LawReader", "readPart", "(I)Z"⟩, 5) := ⟨⟨by decide +kernel, by decide +kernel⟩, List.mem_of_getElem? (i := 152) (by decide +kernel), List.mem_of_getElem? (i := 602) (by decide +kernel), List.mem_of_getElem? (i := 603) (by decide +kernel)⟩
theorem lw_p9 : lw_okq (⟨"HornMaze$LawReader", "joinerOf", "(I)I"⟩, 5) := ⟨⟨by decide +kernel, by decide +kernel⟩, List.mem_of_getElem? (i := 152) (by decide +kernel), List.mem_of_getElem? (i := 610) (by decide +kernel), List.mem_of_getElem? (i := 611) (by decide +kernel)⟩
theorem lw_p10 : lw_okq (⟨"HornMaze$Moves", "setFacts", "(II)V"⟩, 7) := ⟨⟨by decide +kernel, by decide +kernel⟩, List.mem_of_getElem? (i := 197) (by decide +kernel), List.mem_of_getElem? (i := 672) (by decide +kernel), List.mem_of_getElem? (i := 673) (by decide +kernel)⟩
theorem lw_p11 : lw_okq (⟨"HornMaze$Law", "valueOf", "(II[I)J"⟩, 3) := ⟨⟨by decide +kernel, by decide +kernel⟩, List.mem_of_getElem? (i := 614) (by decide +kernel), List.mem_of_getElem? (i := 680) (by decide +kernel), List.mem_of_getElem? (i := 681) (by decide +kernel)⟩
theorem lw_p12 : lw_okq (⟨"HornMaze", "isSetOf", "(II)Z"⟩, 15) := ⟨⟨by decide +kernel, by decide +kernel⟩, List.mem_of_getElem? (i := 23) (by decide +kernel), List.mem_of_getElem? (i := 711) (by decide +kernel), List.mem_of_getElem? (i := 712) (by decide +kernel)⟩
theorem lw_p13 : lw_okq (⟨"HornMaze", "standOf", "(I)I"⟩, 15) := ⟨⟨by decide +kernel, by decide +kernel⟩, List.mem_of_getElem? (i := 23) (by decide +kernel), List.mem_of_getElem? (i := 715) (by decide +kernel), List.mem_of_getElem? (i := 716) (by decide +kernel)⟩
theorem lw_p14 : lw_okq (⟨"HornMaze", "standAfter", "(III)I"⟩, 15) := ⟨⟨by decide +kernel, by decide +kernel⟩, List.mem_of_getElem? (i := 23) (by decide +kernel), List.mem_of_getElem? (i := 719) (by decide +kernel), List.mem_of_getElem? (i := 720) (by decide +kernel)⟩
theorem lw_p15 : lw_okq (⟨"HornMaze", "hearAt", "(III)I"⟩, 15) := ⟨⟨by decide +kernel, by decide +kernel⟩, List.mem_of_getElem? (i := 23) (by decide +kernel), List.mem_of_getElem? (i := 723) (by decide +kernel), List.mem_of_getElem? (i := 724) (by decide +kernel)⟩
def lw_privs_1 : List (MethodName × Nat) := [(⟨"HornMaze", "refuse", "(I)I"⟩, 15), (⟨"HornMaze", "grant", "(I)I"⟩, 15), (⟨"HornMaze$Tokens", "add", "(III)V"⟩, 5), (⟨"HornMaze$LawReader", "readClause", "(I)Z"⟩, 5), (⟨"HornMaze$LawReader", "readJoined", "(II)Z"⟩, 5), (⟨"HornMaze$LawReader", "readPlain", "(I)Z"⟩, 5), (⟨"HornMaze$LawReader", "readBracketed", "(III)Z"⟩, 5), (⟨"HornMaze$LawReader", "emit", "(II)V"⟩, 5), (⟨"HornMaze$LawReader", "readPart", "(I)Z"⟩, 5), (⟨"HornMaze$LawReader", "joinerOf", "(I)I"⟩, 5), (⟨"HornMaze$Moves", "setFacts", "(II)V"⟩, 7), (⟨"HornMaze$Law", "valueOf", "(II[I)J"⟩, 3), (⟨"HornMaze", "isSetOf", "(II)Z"⟩, 15), (⟨"HornMaze", "standOf", "(I)I"⟩, 15), (⟨"HornMaze", "standAfter", "(III)I"⟩, 15), (⟨"HornMaze", "hearAt", "(III)I"⟩, 15)]
theorem lw_r1 : ∀ q ∈ lw_privs_1, lw_okq q := List.forall_mem_cons.mpr ⟨lw_p0, List.forall_mem_cons.mpr ⟨lw_p1, List.forall_mem_cons.mpr ⟨lw_p2, List.forall_mem_cons.mpr ⟨lw_p3, List.forall_mem_cons.mpr ⟨lw_p4, List.forall_mem_cons.mpr ⟨lw_p5, List.forall_mem_cons.mpr ⟨lw_p6, List.forall_mem_cons.mpr ⟨lw_p7, List.forall_mem_cons.mpr ⟨lw_p8, List.forall_mem_cons.mpr ⟨lw_p9, List.forall_mem_cons.mpr ⟨lw_p10, List.forall_mem_cons.mpr ⟨lw_p11, List.forall_mem_cons.mpr ⟨lw_p12, List.forall_mem_cons.mpr ⟨lw_p13, List.forall_mem_cons.mpr ⟨lw_p14, List.forall_mem_cons.mpr ⟨lw_p15, fun _ h => absurd h List.not_mem_nil⟩⟩⟩⟩⟩⟩⟩⟩⟩⟩⟩⟩⟩⟩⟩⟩
theorem lw_p16 : lw_okq (⟨"HornMaze$Moves", "fillTable", "(III)V"⟩, 7) := ⟨⟨by decide +kernel, by decide +kernel⟩, List.mem_of_getElem? (i := 197) (by decide +kernel), List.mem_of_getElem? (i := 736) (by decide +kernel), List.mem_of_getElem? (i := 737) (by decide +kernel)⟩
theorem lw_p17 : lw_okq (⟨"HornMaze", "firstLapWith", "(II)I"⟩, 15) := ⟨⟨by decide +kernel, by decide +kernel⟩, List.mem_of_getElem? (i := 23) (by decide +kernel), List.mem_of_getElem? (i := 764) (by decide +kernel), List.mem_of_getElem? (i := 765) (by decide +kernel)⟩
theorem lw_p18 : lw_okq (⟨"HornMaze", "isAim", "(I)Z"⟩, 15) := ⟨⟨by decide +kernel, by decide +kernel⟩, List.mem_of_getElem? (i := 23) (by decide +kernel), List.mem_of_getElem? (i := 781) (by decide +kernel), List.mem_of_getElem? (i := 782) (by decide +kernel)⟩
theorem lw_p19 : lw_okq (⟨"HornMaze", "findFewest", "(IIII)V"⟩, 15) := ⟨⟨by decide +kernel, by decide +kernel⟩, List.mem_of_getElem? (i := 23) (by decide +kernel), List.mem_of_getElem? (i := 785) (by decide +kernel), List.mem_of_getElem? (i := 786) (by decide +kernel)⟩
theorem lw_p20 : lw_okq (⟨"HornMaze$Search", "clear", "()V"⟩, 14) := ⟨⟨by decide +kernel, by decide +kernel⟩, List.mem_of_getElem? (i := 227) (by decide +kernel), List.mem_of_getElem? (i := 798) (by decide +kernel), List.mem_of_getElem? (i := 799) (by decide +kernel)⟩
theorem lw_p21 : lw_okq (⟨"HornMaze$Search", "add", "(III)V"⟩, 14) := ⟨⟨by decide +kernel, by decide +kernel⟩, List.mem_of_getElem? (i := 227) (by decide +kernel), List.mem_of_getElem? (i := 802) (by decide +kernel), List.mem_of_getElem? (i := 803) (by decide +kernel)⟩
theorem lw_p22 : lw_okq (⟨"HornMaze$Search", "gather", "(II)V"⟩, 14) := ⟨⟨by decide +kernel, by decide +kernel⟩, List.mem_of_getElem? (i := 227) (by decide +kernel), List.mem_of_getElem? (i := 815) (by decide +kernel), List.mem_of_getElem? (i := 816) (by decide +kernel)⟩
theorem lw_p23 : lw_okq (⟨"HornMaze$Search", "isTogether", "(I)Z"⟩, 14) := ⟨⟨by decide +kernel, by decide +kernel⟩, List.mem_of_getElem? (i := 227) (by decide +kernel), List.mem_of_getElem? (i := 819) (by decide +kernel), List.mem_of_getElem? (i := 820) (by decide +kernel)⟩
theorem lw_p24 : lw_okq (⟨"HornMaze$Search", "spread", "(II)V"⟩, 14) := ⟨⟨by decide +kernel, by decide +kernel⟩, List.mem_of_getElem? (i := 227) (by decide +kernel), List.mem_of_getElem? (i := 831) (by decide +kernel), List.mem_of_getElem? (i := 832) (by decide +kernel)⟩
theorem lw_p25 : lw_okq (⟨"HornMaze", "findPairs", "(I)V"⟩, 15) := ⟨⟨by decide +kernel, by decide +kernel⟩, List.mem_of_getElem? (i := 23) (by decide +kernel), List.mem_of_getElem? (i := 868) (by decide +kernel), List.mem_of_getElem? (i := 869) (by decide +kernel)⟩
theorem lw_p26 : lw_okq (⟨"HornMaze$Levels", "positionOf", "(I)I"⟩, 15) := ⟨⟨by decide +kernel, by decide +kernel⟩, List.mem_of_getElem? (i := 279) (by decide +kernel), List.mem_of_getElem? (i := 890) (by decide +kernel), List.mem_of_getElem? (i := 891) (by decide +kernel)⟩
theorem lw_p27 : lw_okq (⟨"HornMaze$Levels", "enterBehind", "(I)V"⟩, 15) := ⟨⟨by decide +kernel, by decide +kernel⟩, List.mem_of_getElem? (i := 279) (by decide +kernel), List.mem_of_getElem? (i := 900) (by decide +kernel), List.mem_of_getElem? (i := 901) (by decide +kernel)⟩
theorem lw_p28 : lw_okq (⟨"HornMaze$Levels", "arrange", "(II)V"⟩, 15) := ⟨⟨by decide +kernel, by decide +kernel⟩, List.mem_of_getElem? (i := 279) (by decide +kernel), List.mem_of_getElem? (i := 906) (by decide +kernel), List.mem_of_getElem? (i := 907) (by decide +kernel)⟩
theorem lw_p29 : lw_okq (⟨"HornMaze$Levels", "settle", "(I)V"⟩, 15) := ⟨⟨by decide +kernel, by decide +kernel⟩, List.mem_of_getElem? (i := 279) (by decide +kernel), List.mem_of_getElem? (i := 910) (by decide +kernel), List.mem_of_getElem? (i := 911) (by decide +kernel)⟩
theorem lw_p30 : lw_okq (⟨"HornMaze$Levels", "isWithin", "(II)Z"⟩, 15) := ⟨⟨by decide +kernel, by decide +kernel⟩, List.mem_of_getElem? (i := 279) (by decide +kernel), List.mem_of_getElem? (i := 927) (by decide +kernel), List.mem_of_getElem? (i := 928) (by decide +kernel)⟩
theorem lw_p31 : lw_okq (⟨"HornMaze", "soonestPair", "(I)I"⟩, 15) := ⟨⟨by decide +kernel, by decide +kernel⟩, List.mem_of_getElem? (i := 23) (by decide +kernel), List.mem_of_getElem? (i := 947) (by decide +kernel), List.mem_of_getElem? (i := 948) (by decide +kernel)⟩
def lw_privs_2 : List (MethodName × Nat) := [(⟨"HornMaze$Moves", "fillTable", "(III)V"⟩, 7), (⟨"HornMaze", "firstLapWith", "(II)I"⟩, 15), (⟨"HornMaze", "isAim", "(I)Z"⟩, 15), (⟨"HornMaze", "findFewest", "(IIII)V"⟩, 15), (⟨"HornMaze$Search", "clear", "()V"⟩, 14), (⟨"HornMaze$Search", "add", "(III)V"⟩, 14), (⟨"HornMaze$Search", "gather", "(II)V"⟩, 14), (⟨"HornMaze$Search", "isTogether", "(I)Z"⟩, 14), (⟨"HornMaze$Search", "spread", "(II)V"⟩, 14), (⟨"HornMaze", "findPairs", "(I)V"⟩, 15), (⟨"HornMaze$Levels", "positionOf", "(I)I"⟩, 15), (⟨"HornMaze$Levels", "enterBehind", "(I)V"⟩, 15), (⟨"HornMaze$Levels", "arrange", "(II)V"⟩, 15), (⟨"HornMaze$Levels", "settle", "(I)V"⟩, 15), (⟨"HornMaze$Levels", "isWithin", "(II)Z"⟩, 15), (⟨"HornMaze", "soonestPair", "(I)I"⟩, 15)]
theorem lw_r2 : ∀ q ∈ lw_privs_2, lw_okq q := List.forall_mem_cons.mpr ⟨lw_p16, List.forall_mem_cons.mpr ⟨lw_p17, List.forall_mem_cons.mpr ⟨lw_p18, List.forall_mem_cons.mpr ⟨lw_p19, List.forall_mem_cons.mpr ⟨lw_p20, List.forall_mem_cons.mpr ⟨lw_p21, List.forall_mem_cons.mpr ⟨lw_p22, List.forall_mem_cons.mpr ⟨lw_p23, List.forall_mem_cons.mpr ⟨lw_p24, List.forall_mem_cons.mpr ⟨lw_p25, List.forall_mem_cons.mpr ⟨lw_p26, List.forall_mem_cons.mpr ⟨lw_p27, List.forall_mem_cons.mpr ⟨lw_p28, List.forall_mem_cons.mpr ⟨lw_p29, List.forall_mem_cons.mpr ⟨lw_p30, List.forall_mem_cons.mpr ⟨lw_p31, fun _ h => absurd h List.not_mem_nil⟩⟩⟩⟩⟩⟩⟩⟩⟩⟩⟩⟩⟩⟩⟩⟩
theorem lw_p32 : lw_okq (⟨"HornMaze", "bringTogether", "(III)I"⟩, 15) := ⟨⟨by decide +kernel, by decide +kernel⟩, List.mem_of_getElem? (i := 23) (by decide +kernel), List.mem_of_getElem? (i := 952) (by decide +kernel), List.mem_of_getElem? (i := 953) (by decide +kernel)⟩
theorem lw_p33 : lw_okq (⟨"HornMaze", "findSights", "(I)V"⟩, 15) := ⟨⟨by decide +kernel, by decide +kernel⟩, List.mem_of_getElem? (i := 23) (by decide +kernel), List.mem_of_getElem? (i := 960) (by decide +kernel), List.mem_of_getElem? (i := 961) (by decide +kernel)⟩
theorem lw_p34 : lw_okq (⟨"HornMaze", "hearOnPaper", "(I)V"⟩, 15) := ⟨⟨by decide +kernel, by decide +kernel⟩, List.mem_of_getElem? (i := 23) (by decide +kernel), List.mem_of_getElem? (i := 1077) (by decide +kernel), List.mem_of_getElem? (i := 1078) (by decide +kernel)⟩
theorem lw_p35 : lw_okq (⟨"HornMazeModel", "refuses", "(I)I"⟩, 43) := ⟨⟨by decide +kernel, by decide +kernel⟩, List.mem_of_getElem? (i := 1114) (by decide +kernel), List.mem_of_getElem? (i := 1258) (by decide +kernel), List.mem_of_getElem? (i := 1259) (by decide +kernel)⟩
theorem lw_p36 : lw_okq (⟨"HornMazeModel", "good", "(I)I"⟩, 43) := ⟨⟨by decide +kernel, by decide +kernel⟩, List.mem_of_getElem? (i := 1114) (by decide +kernel), List.mem_of_getElem? (i := 1262) (by decide +kernel), List.mem_of_getElem? (i := 1263) (by decide +kernel)⟩
theorem lw_p37 : lw_okq (⟨"HornMazeModel", "places", "()I"⟩, 43) := ⟨⟨by decide +kernel, by decide +kernel⟩, List.mem_of_getElem? (i := 1114) (by decide +kernel), List.mem_of_getElem? (i := 1274) (by decide +kernel), List.mem_of_getElem? (i := 1275) (by decide +kernel)⟩
theorem lw_p38 : lw_okq (⟨"HornMazeModel", "isPlace", "(I)Z"⟩, 43) := ⟨⟨by decide +kernel, by decide +kernel⟩, List.mem_of_getElem? (i := 1114) (by decide +kernel), List.mem_of_getElem? (i := 1282) (by decide +kernel), List.mem_of_getElem? (i := 1283) (by decide +kernel)⟩
theorem lw_p39 : lw_okq (⟨"HornMazeModel", "replaces", "(II)I"⟩, 43) := ⟨⟨by decide +kernel, by decide +kernel⟩, List.mem_of_getElem? (i := 1114) (by decide +kernel), List.mem_of_getElem? (i := 1286) (by decide +kernel), List.mem_of_getElem? (i := 1287) (by decide +kernel)⟩
theorem lw_p40 : lw_okq (⟨"HornMazeModel", "words", "()I"⟩, 43) := ⟨⟨by decide +kernel, by decide +kernel⟩, List.mem_of_getElem? (i := 1114) (by decide +kernel), List.mem_of_getElem? (i := 1294) (by decide +kernel), List.mem_of_getElem? (i := 1295) (by decide +kernel)⟩
theorem lw_p41 : lw_okq (⟨"HornMazeModel", "isWord", "(I)Z"⟩, 43) := ⟨⟨by decide +kernel, by decide +kernel⟩, List.mem_of_getElem? (i := 1114) (by decide +kernel), List.mem_of_getElem? (i := 1302) (by decide +kernel), List.mem_of_getElem? (i := 1303) (by decide +kernel)⟩
theorem lw_p42 : lw_okq (⟨"HornMazeModel", "reads", "()Z"⟩, 43) := ⟨⟨by decide +kernel, by decide +kernel⟩, List.mem_of_getElem? (i := 1114) (by decide +kernel), List.mem_of_getElem? (i := 1337) (by decide +kernel), List.mem_of_getElem? (i := 1338) (by decide +kernel)⟩
theorem lw_p43 : lw_okq (⟨"HornMazeModel", "splits", "(I)V"⟩, 43) := ⟨⟨by decide +kernel, by decide +kernel⟩, List.mem_of_getElem? (i := 1114) (by decide +kernel), List.mem_of_getElem? (i := 1341) (by decide +kernel), List.mem_of_getElem? (i := 1342) (by decide +kernel)⟩
theorem lw_p44 : lw_okq (⟨"HornMazeModel", "wordOf", "(II)I"⟩, 43) := ⟨⟨by decide +kernel, by decide +kernel⟩, List.mem_of_getElem? (i := 1114) (by decide +kernel), List.mem_of_getElem? (i := 1351) (by decide +kernel), List.mem_of_getElem? (i := 1352) (by decide +kernel)⟩
theorem lw_p45 : lw_okq (⟨"HornMazeModel", "readClause", "()V"⟩, 43) := ⟨⟨by decide +kernel, by decide +kernel⟩, List.mem_of_getElem? (i := 1114) (by decide +kernel), List.mem_of_getElem? (i := 1356) (by decide +kernel), List.mem_of_getElem? (i := 1357) (by decide +kernel)⟩
theorem lw_p46 : lw_okq (⟨"HornMazeModel", "takes0", "(I)Z"⟩, 43) := ⟨⟨by decide +kernel, by decide +kernel⟩, List.mem_of_getElem? (i := 1114) (by decide +kernel), List.mem_of_getElem? (i := 1360) (by decide +kernel), List.mem_of_getElem? (i := 1361) (by decide +kernel)⟩
theorem lw_p47 : lw_okq (⟨"HornMazeModel", "fine", "()Z"⟩, 43) := ⟨⟨by decide +kernel, by decide +kernel⟩, List.mem_of_getElem? (i := 1114) (by decide +kernel), List.mem_of_getElem? (i := 1364) (by decide +kernel), List.mem_of_getElem? (i := 1365) (by decide +kernel)⟩
def lw_privs_3 : List (MethodName × Nat) := [(⟨"HornMaze", "bringTogether", "(III)I"⟩, 15), (⟨"HornMaze", "findSights", "(I)V"⟩, 15), (⟨"HornMaze", "hearOnPaper", "(I)V"⟩, 15), (⟨"HornMazeModel", "refuses", "(I)I"⟩, 43), (⟨"HornMazeModel", "good", "(I)I"⟩, 43), (⟨"HornMazeModel", "places", "()I"⟩, 43), (⟨"HornMazeModel", "isPlace", "(I)Z"⟩, 43), (⟨"HornMazeModel", "replaces", "(II)I"⟩, 43), (⟨"HornMazeModel", "words", "()I"⟩, 43), (⟨"HornMazeModel", "isWord", "(I)Z"⟩, 43), (⟨"HornMazeModel", "reads", "()Z"⟩, 43), (⟨"HornMazeModel", "splits", "(I)V"⟩, 43), (⟨"HornMazeModel", "wordOf", "(II)I"⟩, 43), (⟨"HornMazeModel", "readClause", "()V"⟩, 43), (⟨"HornMazeModel", "takes0", "(I)Z"⟩, 43), (⟨"HornMazeModel", "fine", "()Z"⟩, 43)]
theorem lw_r3 : ∀ q ∈ lw_privs_3, lw_okq q := List.forall_mem_cons.mpr ⟨lw_p32, List.forall_mem_cons.mpr ⟨lw_p33, List.forall_mem_cons.mpr ⟨lw_p34, List.forall_mem_cons.mpr ⟨lw_p35, List.forall_mem_cons.mpr ⟨lw_p36, List.forall_mem_cons.mpr ⟨lw_p37, List.forall_mem_cons.mpr ⟨lw_p38, List.forall_mem_cons.mpr ⟨lw_p39, List.forall_mem_cons.mpr ⟨lw_p40, List.forall_mem_cons.mpr ⟨lw_p41, List.forall_mem_cons.mpr ⟨lw_p42, List.forall_mem_cons.mpr ⟨lw_p43, List.forall_mem_cons.mpr ⟨lw_p44, List.forall_mem_cons.mpr ⟨lw_p45, List.forall_mem_cons.mpr ⟨lw_p46, List.forall_mem_cons.mpr ⟨lw_p47, fun _ h => absurd h List.not_mem_nil⟩⟩⟩⟩⟩⟩⟩⟩⟩⟩⟩⟩⟩⟩⟩⟩
theorem lw_p48 : lw_okq (⟨"HornMazeModel", "readSum", "(I)V"⟩, 43) := ⟨⟨by decide +kernel, by decide +kernel⟩, List.mem_of_getElem? (i := 1114) (by decide +kernel), List.mem_of_getElem? (i := 1368) (by decide +kernel), List.mem_of_getElem? (i := 1369) (by decide +kernel)⟩
theorem lw_p49 : lw_okq (⟨"HornMazeModel", "readTerm", "(I)V"⟩, 43) := ⟨⟨by decide +kernel, by decide +kernel⟩, List.mem_of_getElem? (i := 1114) (by decide +kernel), List.mem_of_getElem? (i := 1372) (by decide +kernel), List.mem_of_getElem? (i := 1373) (by decide +kernel)⟩
theorem lw_p50 : lw_okq (⟨"HornMazeModel", "readPart", "(I)V"⟩, 43) := ⟨⟨by decide +kernel, by decide +kernel⟩, List.mem_of_getElem? (i := 1114) (by decide +kernel), List.mem_of_getElem? (i := 1376) (by decide +kernel), List.mem_of_getElem? (i := 1377) (by decide +kernel)⟩
theorem lw_p51 : lw_okq (⟨"HornMazeModel", "faults", "()V"⟩, 43) := ⟨⟨by decide +kernel, by decide +kernel⟩, List.mem_of_getElem? (i := 1114) (by decide +kernel), List.mem_of_getElem? (i := 1383) (by decide +kernel), List.mem_of_getElem? (i := 1384) (by decide +kernel)⟩
theorem lw_p52 : lw_okq (⟨"HornMazeModel", "must", "(I)V"⟩, 43) := ⟨⟨by decide +kernel, by decide +kernel⟩, List.mem_of_getElem? (i := 1114) (by decide +kernel), List.mem_of_getElem? (i := 1387) (by decide +kernel), List.mem_of_getElem? (i := 1388) (by decide +kernel)⟩
theorem lw_p53 : lw_okq (⟨"HornMazeModel", "leaf", "()V"⟩, 43) := ⟨⟨by decide +kernel, by decide +kernel⟩, List.mem_of_getElem? (i := 1114) (by decide +kernel), List.mem_of_getElem? (i := 1391) (by decide +kernel), List.mem_of_getElem? (i := 1392) (by decide +kernel)⟩
theorem lw_p54 : lw_okq (⟨"HornMazeModel", "readTest", "(I)V"⟩, 43) := ⟨⟨by decide +kernel, by decide +kernel⟩, List.mem_of_getElem? (i := 1114) (by decide +kernel), List.mem_of_getElem? (i := 1395) (by decide +kernel), List.mem_of_getElem? (i := 1396) (by decide +kernel)⟩
theorem lw_p55 : lw_okq (⟨"HornMazeModel", "readBoth", "(I)V"⟩, 43) := ⟨⟨by decide +kernel, by decide +kernel⟩, List.mem_of_getElem? (i := 1114) (by decide +kernel), List.mem_of_getElem? (i := 1399) (by decide +kernel), List.mem_of_getElem? (i := 1400) (by decide +kernel)⟩
theorem lw_p56 : lw_okq (⟨"HornMazeModel", "readPlain", "(I)V"⟩, 43) := ⟨⟨by decide +kernel, by decide +kernel⟩, List.mem_of_getElem? (i := 1114) (by decide +kernel), List.mem_of_getElem? (i := 1403) (by decide +kernel), List.mem_of_getElem? (i := 1404) (by decide +kernel)⟩
theorem lw_p57 : lw_okq (⟨"HornMazeModel", "looks", "()V"⟩, 43) := ⟨⟨by decide +kernel, by decide +kernel⟩, List.mem_of_getElem? (i := 1114) (by decide +kernel), List.mem_of_getElem? (i := 1419) (by decide +kernel), List.mem_of_getElem? (i := 1420) (by decide +kernel)⟩
theorem lw_p58 : lw_okq (⟨"HornMazeModel", "asksOf", "(IIIII)V"⟩, 43) := ⟨⟨by decide +kernel, by decide +kernel⟩, List.mem_of_getElem? (i := 1114) (by decide +kernel), List.mem_of_getElem? (i := 1423) (by decide +kernel), List.mem_of_getElem? (i := 1424) (by decide +kernel)⟩
theorem lw_p59 : lw_okq (⟨"HornMazeModel", "asks", "(I)V"⟩, 43) := ⟨⟨by decide +kernel, by decide +kernel⟩, List.mem_of_getElem? (i := 1114) (by decide +kernel), List.mem_of_getElem? (i := 1427) (by decide +kernel), List.mem_of_getElem? (i := 1428) (by decide +kernel)⟩
theorem lw_p60 : lw_okq (⟨"HornMazeModel", "codeAt", "(I)I"⟩, 43) := ⟨⟨by decide +kernel, by decide +kernel⟩, List.mem_of_getElem? (i := 1114) (by decide +kernel), List.mem_of_getElem? (i := 1431) (by decide +kernel), List.mem_of_getElem? (i := 1432) (by decide +kernel)⟩
theorem lw_p61 : lw_okq (⟨"HornMazeModel", "sumOf", "(Z)J"⟩, 43) := ⟨⟨by decide +kernel, by decide +kernel⟩, List.mem_of_getElem? (i := 1114) (by decide +kernel), List.mem_of_getElem? (i := 1435) (by decide +kernel), List.mem_of_getElem? (i := 1436) (by decide +kernel)⟩
theorem lw_p62 : lw_okq (⟨"HornMazeModel", "termOf", "(Z)J"⟩, 43) := ⟨⟨by decide +kernel, by decide +kernel⟩, List.mem_of_getElem? (i := 1114) (by decide +kernel), List.mem_of_getElem? (i := 1439) (by decide +kernel), List.mem_of_getElem? (i := 1440) (by decide +kernel)⟩
theorem lw_p63 : lw_okq (⟨"HornMazeModel", "partOf", "(Z)J"⟩, 43) := ⟨⟨by decide +kernel, by decide +kernel⟩, List.mem_of_getElem? (i := 1114) (by decide +kernel), List.mem_of_getElem? (i := 1443) (by decide +kernel), List.mem_of_getElem? (i := 1444) (by decide +kernel)⟩
def lw_privs_4 : List (MethodName × Nat) := [(⟨"HornMazeModel", "readSum", "(I)V"⟩, 43), (⟨"HornMazeModel", "readTerm", "(I)V"⟩, 43), (⟨"HornMazeModel", "readPart", "(I)V"⟩, 43), (⟨"HornMazeModel", "faults", "()V"⟩, 43), (⟨"HornMazeModel", "must", "(I)V"⟩, 43), (⟨"HornMazeModel", "leaf", "()V"⟩, 43), (⟨"HornMazeModel", "readTest", "(I)V"⟩, 43), (⟨"HornMazeModel", "readBoth", "(I)V"⟩, 43), (⟨"HornMazeModel", "readPlain", "(I)V"⟩, 43), (⟨"HornMazeModel", "looks", "()V"⟩, 43), (⟨"HornMazeModel", "asksOf", "(IIIII)V"⟩, 43), (⟨"HornMazeModel", "asks", "(I)V"⟩, 43), (⟨"HornMazeModel", "codeAt", "(I)I"⟩, 43), (⟨"HornMazeModel", "sumOf", "(Z)J"⟩, 43), (⟨"HornMazeModel", "termOf", "(Z)J"⟩, 43), (⟨"HornMazeModel", "partOf", "(Z)J"⟩, 43)]
theorem lw_r4 : ∀ q ∈ lw_privs_4, lw_okq q := List.forall_mem_cons.mpr ⟨lw_p48, List.forall_mem_cons.mpr ⟨lw_p49, List.forall_mem_cons.mpr ⟨lw_p50, List.forall_mem_cons.mpr ⟨lw_p51, List.forall_mem_cons.mpr ⟨lw_p52, List.forall_mem_cons.mpr ⟨lw_p53, List.forall_mem_cons.mpr ⟨lw_p54, List.forall_mem_cons.mpr ⟨lw_p55, List.forall_mem_cons.mpr ⟨lw_p56, List.forall_mem_cons.mpr ⟨lw_p57, List.forall_mem_cons.mpr ⟨lw_p58, List.forall_mem_cons.mpr ⟨lw_p59, List.forall_mem_cons.mpr ⟨lw_p60, List.forall_mem_cons.mpr ⟨lw_p61, List.forall_mem_cons.mpr ⟨lw_p62, List.forall_mem_cons.mpr ⟨lw_p63, fun _ h => absurd h List.not_mem_nil⟩⟩⟩⟩⟩⟩⟩⟩⟩⟩⟩⟩⟩⟩⟩⟩
theorem lw_p64 : lw_okq (⟨"HornMazeModel", "passes0", "(I)Z"⟩, 43) := ⟨⟨by decide +kernel, by decide +kernel⟩, List.mem_of_getElem? (i := 1114) (by decide +kernel), List.mem_of_getElem? (i := 1447) (by decide +kernel), List.mem_of_getElem? (i := 1448) (by decide +kernel)⟩
theorem lw_p65 : lw_okq (⟨"HornMazeModel", "bounded", "(JZ)J"⟩, 43) := ⟨⟨by decide +kernel, by decide +kernel⟩, List.mem_of_getElem? (i := 1114) (by decide +kernel), List.mem_of_getElem? (i := 1451) (by decide +kernel), List.mem_of_getElem? (i := 1452) (by decide +kernel)⟩
theorem lw_p66 : lw_okq (⟨"HornMazeModel", "testOf", "(Z)Z"⟩, 43) := ⟨⟨by decide +kernel, by decide +kernel⟩, List.mem_of_getElem? (i := 1114) (by decide +kernel), List.mem_of_getElem? (i := 1457) (by decide +kernel), List.mem_of_getElem? (i := 1458) (by decide +kernel)⟩
theorem lw_p67 : lw_okq (⟨"HornMazeModel", "bothOf", "(Z)Z"⟩, 43) := ⟨⟨by decide +kernel, by decide +kernel⟩, List.mem_of_getElem? (i := 1114) (by decide +kernel), List.mem_of_getElem? (i := 1461) (by decide +kernel), List.mem_of_getElem? (i := 1462) (by decide +kernel)⟩
theorem lw_p68 : lw_okq (⟨"HornMazeModel", "plainOf", "(Z)Z"⟩, 43) := ⟨⟨by decide +kernel, by decide +kernel⟩, List.mem_of_getElem? (i := 1114) (by decide +kernel), List.mem_of_getElem? (i := 1465) (by decide +kernel), List.mem_of_getElem? (i := 1466) (by decide +kernel)⟩
theorem lw_p69 : lw_okq (⟨"HornMazeModel", "positiveOf", "(Z)Z"⟩, 43) := ⟨⟨by decide +kernel, by decide +kernel⟩, List.mem_of_getElem? (i := 1114) (by decide +kernel), List.mem_of_getElem? (i := 1469) (by decide +kernel), List.mem_of_getElem? (i := 1470) (by decide +kernel)⟩
theorem lw_p70 : lw_okq (⟨"HornMazeModel", "at", "(IIII)I"⟩, 43) := ⟨⟨by decide +kernel, by decide +kernel⟩, List.mem_of_getElem? (i := 1114) (by decide +kernel), List.mem_of_getElem? (i := 1473) (by decide +kernel), List.mem_of_getElem? (i := 1474) (by decide +kernel)⟩
theorem lw_p71 : lw_okq (⟨"HornMazeModel", "goOf", "(IIII)I"⟩, 43) := ⟨⟨by decide +kernel, by decide +kernel⟩, List.mem_of_getElem? (i := 1114) (by decide +kernel), List.mem_of_getElem? (i := 1477) (by decide +kernel), List.mem_of_getElem? (i := 1478) (by decide +kernel)⟩
theorem lw_p72 : lw_okq (⟨"HornMazeModel", "isSet", "(II)Z"⟩, 43) := ⟨⟨by decide +kernel, by decide +kernel⟩, List.mem_of_getElem? (i := 1114) (by decide +kernel), List.mem_of_getElem? (i := 1497) (by decide +kernel), List.mem_of_getElem? (i := 1498) (by decide +kernel)⟩
theorem lw_p73 : lw_okq (⟨"HornMazeModel", "calls", "(III)Z"⟩, 43) := ⟨⟨by decide +kernel, by decide +kernel⟩, List.mem_of_getElem? (i := 1114) (by decide +kernel), List.mem_of_getElem? (i := 1501) (by decide +kernel), List.mem_of_getElem? (i := 1502) (by decide +kernel)⟩
theorem lw_p74 : lw_okq (⟨"HornMazeModel", "setBehind", "(IIII)I"⟩, 43) := ⟨⟨by decide +kernel, by decide +kernel⟩, List.mem_of_getElem? (i := 1114) (by decide +kernel), List.mem_of_getElem? (i := 1505) (by decide +kernel), List.mem_of_getElem? (i := 1506) (by decide +kernel)⟩
theorem lw_p75 : lw_okq (⟨"HornMazeModel", "doorsBehind", "(II)I"⟩, 43) := ⟨⟨by decide +kernel, by decide +kernel⟩, List.mem_of_getElem? (i := 1114) (by decide +kernel), List.mem_of_getElem? (i := 1512) (by decide +kernel), List.mem_of_getElem? (i := 1513) (by decide +kernel)⟩
theorem lw_p76 : lw_okq (⟨"HornMazeModel", "isTo", "(I)Z"⟩, 43) := ⟨⟨by decide +kernel, by decide +kernel⟩, List.mem_of_getElem? (i := 1114) (by decide +kernel), List.mem_of_getElem? (i := 1524) (by decide +kernel), List.mem_of_getElem? (i := 1525) (by decide +kernel)⟩
theorem lw_p77 : lw_okq (⟨"HornMazeModel", "spreads", "(IIII)V"⟩, 43) := ⟨⟨by decide +kernel, by decide +kernel⟩, List.mem_of_getElem? (i := 1114) (by decide +kernel), List.mem_of_getElem? (i := 1528) (by decide +kernel), List.mem_of_getElem? (i := 1529) (by decide +kernel)⟩
theorem lw_p78 : lw_okq (⟨"HornMazeModel", "behind", "(III)I"⟩, 43) := ⟨⟨by decide +kernel, by decide +kernel⟩, List.mem_of_getElem? (i := 1114) (by decide +kernel), List.mem_of_getElem? (i := 1542) (by decide +kernel), List.mem_of_getElem? (i := 1543) (by decide +kernel)⟩
theorem lw_p79 : lw_okq (⟨"HornMazeModel", "spells", "(II)V"⟩, 43) := ⟨⟨by decide +kernel, by decide +kernel⟩, List.mem_of_getElem? (i := 1114) (by decide +kernel), List.mem_of_getElem? (i := 1554) (by decide +kernel), List.mem_of_getElem? (i := 1555) (by decide +kernel)⟩
def lw_privs_5 : List (MethodName × Nat) := [(⟨"HornMazeModel", "passes0", "(I)Z"⟩, 43), (⟨"HornMazeModel", "bounded", "(JZ)J"⟩, 43), (⟨"HornMazeModel", "testOf", "(Z)Z"⟩, 43), (⟨"HornMazeModel", "bothOf", "(Z)Z"⟩, 43), (⟨"HornMazeModel", "plainOf", "(Z)Z"⟩, 43), (⟨"HornMazeModel", "positiveOf", "(Z)Z"⟩, 43), (⟨"HornMazeModel", "at", "(IIII)I"⟩, 43), (⟨"HornMazeModel", "goOf", "(IIII)I"⟩, 43), (⟨"HornMazeModel", "isSet", "(II)Z"⟩, 43), (⟨"HornMazeModel", "calls", "(III)Z"⟩, 43), (⟨"HornMazeModel", "setBehind", "(IIII)I"⟩, 43), (⟨"HornMazeModel", "doorsBehind", "(II)I"⟩, 43), (⟨"HornMazeModel", "isTo", "(I)Z"⟩, 43), (⟨"HornMazeModel", "spreads", "(IIII)V"⟩, 43), (⟨"HornMazeModel", "behind", "(III)I"⟩, 43), (⟨"HornMazeModel", "spells", "(II)V"⟩, 43)]
theorem lw_r5 : ∀ q ∈ lw_privs_5, lw_okq q := List.forall_mem_cons.mpr ⟨lw_p64, List.forall_mem_cons.mpr ⟨lw_p65, List.forall_mem_cons.mpr ⟨lw_p66, List.forall_mem_cons.mpr ⟨lw_p67, List.forall_mem_cons.mpr ⟨lw_p68, List.forall_mem_cons.mpr ⟨lw_p69, List.forall_mem_cons.mpr ⟨lw_p70, List.forall_mem_cons.mpr ⟨lw_p71, List.forall_mem_cons.mpr ⟨lw_p72, List.forall_mem_cons.mpr ⟨lw_p73, List.forall_mem_cons.mpr ⟨lw_p74, List.forall_mem_cons.mpr ⟨lw_p75, List.forall_mem_cons.mpr ⟨lw_p76, List.forall_mem_cons.mpr ⟨lw_p77, List.forall_mem_cons.mpr ⟨lw_p78, List.forall_mem_cons.mpr ⟨lw_p79, fun _ h => absurd h List.not_mem_nil⟩⟩⟩⟩⟩⟩⟩⟩⟩⟩⟩⟩⟩⟩⟩⟩
theorem lw_p80 : lw_okq (⟨"HornMazeModel", "leads", "(III)Z"⟩, 43) := ⟨⟨by decide +kernel, by decide +kernel⟩, List.mem_of_getElem? (i := 1114) (by decide +kernel), List.mem_of_getElem? (i := 1558) (by decide +kernel), List.mem_of_getElem? (i := 1559) (by decide +kernel)⟩
theorem lw_p81 : lw_okq (⟨"HornMazeModel", "pairOf", "(IIII)I"⟩, 43) := ⟨⟨by decide +kernel, by decide +kernel⟩, List.mem_of_getElem? (i := 1114) (by decide +kernel), List.mem_of_getElem? (i := 1589) (by decide +kernel), List.mem_of_getElem? (i := 1590) (by decide +kernel)⟩
theorem lw_p82 : lw_okq (⟨"HornMazeModel", "sights", "()V"⟩, 43) := ⟨⟨by decide +kernel, by decide +kernel⟩, List.mem_of_getElem? (i := 1114) (by decide +kernel), List.mem_of_getElem? (i := 1614) (by decide +kernel), List.mem_of_getElem? (i := 1615) (by decide +kernel)⟩
theorem lw_p83 : lw_okq (⟨"HornMazeModel", "sightBehind", "(II)I"⟩, 43) := ⟨⟨by decide +kernel, by decide +kernel⟩, List.mem_of_getElem? (i := 1114) (by decide +kernel), List.mem_of_getElem? (i := 1618) (by decide +kernel), List.mem_of_getElem? (i := 1619) (by decide +kernel)⟩
theorem lw_p84 : lw_okq (⟨"HornMazeModel", "below", "(I)I"⟩, 43) := ⟨⟨by decide +kernel, by decide +kernel⟩, List.mem_of_getElem? (i := 1114) (by decide +kernel), List.mem_of_getElem? (i := 1646) (by decide +kernel), List.mem_of_getElem? (i := 1647) (by decide +kernel)⟩
def lw_privs_6 : List (MethodName × Nat) := [(⟨"HornMazeModel", "leads", "(III)Z"⟩, 43), (⟨"HornMazeModel", "pairOf", "(IIII)I"⟩, 43), (⟨"HornMazeModel", "sights", "()V"⟩, 43), (⟨"HornMazeModel", "sightBehind", "(II)I"⟩, 43), (⟨"HornMazeModel", "below", "(I)I"⟩, 43)]
theorem lw_r6 : ∀ q ∈ lw_privs_6, lw_okq q := List.forall_mem_cons.mpr ⟨lw_p80, List.forall_mem_cons.mpr ⟨lw_p81, List.forall_mem_cons.mpr ⟨lw_p82, List.forall_mem_cons.mpr ⟨lw_p83, List.forall_mem_cons.mpr ⟨lw_p84, fun _ h => absurd h List.not_mem_nil⟩⟩⟩⟩⟩
def lw_privs : List (MethodName × Nat) := lw_privs_1 ++ (lw_privs_2 ++ (lw_privs_3 ++ (lw_privs_4 ++ (lw_privs_5 ++ (lw_privs_6)))))
def lw_tbl : List Cond := k2_sels lw_privs ++ tables_1
theorem lw_privs_ok : ∀ q ∈ lw_privs, lw_okq q := by
  show ∀ q ∈ lw_privs_1 ++ (lw_privs_2 ++ (lw_privs_3 ++ (lw_privs_4 ++ (lw_privs_5 ++ (lw_privs_6))))), lw_okq q
  exact List.forall_mem_append.mpr ⟨lw_r1, List.forall_mem_append.mpr ⟨lw_r2, List.forall_mem_append.mpr ⟨lw_r3, List.forall_mem_append.mpr ⟨lw_r4, List.forall_mem_append.mpr ⟨lw_r5, lw_r6⟩⟩⟩⟩⟩
def RX0 : String := "HornMaze$Horn"
def TX0 : u_T := fun k => match k with
  | 0 => ("HornMaze$Horn", "isMade", "Z", false)
  | 1 => ("HornMaze$Horn", "doors", "I", false)
  | 2 => ("HornMaze$Horn", "walkers", "I", false)
  | 3 => ("HornMaze$Horn", "at", "[I", true)
  | _ => ("HornMaze$Horn", "seed", "I", false)
def tyX0 : Nat → FieldType := fun k => match k with
  | 0 => .boolean
  | 1 => .int
  | 2 => .int
  | 3 => .array .int
  | _ => .int
abbrev wsX00 : List Cond := u_ws RX0 TX0 5
theorem nmX0 : ∀ a, a < 5 → ∀ b, b < 5 → a ≠ b → (TX0 a).2.1 ≠ (TX0 b).2.1 := by decide +kernel
theorem tyX0_ok : ∀ k, k < 5 → parseFieldDescriptor (TX0 k).2.2.1 = some (tyX0 k) := by decide +kernel
abbrev cX0_init : ByteArray := prog_2_method_1_code
def yX0_init : MethodName := ⟨RX0, "<init>", "()V"⟩
abbrev cX0_begin : ByteArray := prog_2_method_2_code
def yX0_begin : MethodName := ⟨RX0, "begin", "(LHornMaze$Maze;I)V"⟩
abbrev cX0_draw : ByteArray := prog_2_method_3_code
def yX0_draw : MethodName := ⟨RX0, "draw", "(I)I"⟩
def RX1 : String := "HornMaze$Law"
def TX1 : u_T := fun k => match k with
  | 0 => ("HornMaze$Law", "code", "[I", true)
  | 1 => ("HornMaze$Law", "clauses", "[I", true)
  | _ => ("HornMaze$Law", "stack", "[J", true)
def tyX1 : Nat → FieldType := fun k => match k with
  | 0 => .array .int
  | 1 => .array .int
  | _ => .array .long
abbrev wsX10 : List Cond := u_ws RX1 TX1 3
theorem nmX1 : ∀ a, a < 3 → ∀ b, b < 3 → a ≠ b → (TX1 a).2.1 ≠ (TX1 b).2.1 := by decide +kernel
theorem tyX1_ok : ∀ k, k < 3 → parseFieldDescriptor (TX1 k).2.2.1 = some (tyX1 k) := by decide +kernel
abbrev cX1_init : ByteArray := prog_3_method_1_code
def yX1_init : MethodName := ⟨RX1, "<init>", "([I[I)V"⟩
abbrev cX1_told : ByteArray := prog_3_method_2_code
def yX1_told : MethodName := ⟨RX1, "told", "([I)J"⟩
abbrev cX1_bars : ByteArray := prog_3_method_3_code
def yX1_bars : MethodName := ⟨RX1, "bars", "([I)Z"⟩
abbrev cX1_valueOf : ByteArray := prog_3_method_4_code
def yX1_valueOf : MethodName := ⟨RX1, "valueOf", "(II[I)J"⟩
def RX2 : String := "HornMaze$LawReader"
def TX2 : u_T := fun k => match k with
  | 0 => ("HornMaze$LawReader", "tokens", "LHornMaze$Tokens;", true)
  | 1 => ("HornMaze$LawReader", "parts", "I", false)
  | 2 => ("HornMaze$LawReader", "size", "I", false)
  | 3 => ("HornMaze$LawReader", "code", "[I", true)
  | _ => ("HornMaze$LawReader", "clauses", "[I", true)
def tyX2 : Nat → FieldType := fun k => match k with
  | 0 => .object "HornMaze$Tokens"
  | 1 => .int
  | 2 => .int
  | 3 => .array .int
  | _ => .array .int
abbrev wsX20 : List Cond := u_ws RX2 TX2 5
theorem nmX2 : ∀ a, a < 5 → ∀ b, b < 5 → a ≠ b → (TX2 a).2.1 ≠ (TX2 b).2.1 := by decide +kernel
theorem tyX2_ok : ∀ k, k < 5 → parseFieldDescriptor (TX2 k).2.2.1 = some (tyX2 k) := by decide +kernel
abbrev cX2_init : ByteArray := prog_4_method_1_code
def yX2_init : MethodName := ⟨RX2, "<init>", "()V"⟩
abbrev cX2_read : ByteArray := prog_4_method_2_code
def yX2_read : MethodName := ⟨RX2, "read", "([II)LHornMaze$Law;"⟩
abbrev cX2_readClause : ByteArray := prog_4_method_3_code
def yX2_readClause : MethodName := ⟨RX2, "readClause", "(I)Z"⟩
abbrev cX2_readJoined : ByteArray := prog_4_method_4_code
def yX2_readJoined : MethodName := ⟨RX2, "readJoined", "(II)Z"⟩
abbrev cX2_joinerOf : ByteArray := prog_4_method_5_code
def yX2_joinerOf : MethodName := ⟨RX2, "joinerOf", "(I)I"⟩
abbrev cX2_readPlain : ByteArray := prog_4_method_6_code
def yX2_readPlain : MethodName := ⟨RX2, "readPlain", "(I)Z"⟩
abbrev cX2_comparerOf : ByteArray := prog_4_method_7_code
def yX2_comparerOf : MethodName := ⟨RX2, "comparerOf", "(I)I"⟩
abbrev cX2_readPart : ByteArray := prog_4_method_8_code
def yX2_readPart : MethodName := ⟨RX2, "readPart", "(I)Z"⟩
abbrev cX2_readBracketed : ByteArray := prog_4_method_9_code
def yX2_readBracketed : MethodName := ⟨RX2, "readBracketed", "(III)Z"⟩
abbrev cX2_emit : ByteArray := prog_4_method_10_code
def yX2_emit : MethodName := ⟨RX2, "emit", "(II)V"⟩
def RX3 : String := "HornMaze$Levels"
def TX3 : u_T := fun k => match k with
  | 0 => ("HornMaze$Levels", "mix", "I", false)
  | 1 => ("HornMaze$Levels", "root", "I", false)
  | 2 => ("HornMaze$Levels", "begun", "I", false)
  | 3 => ("HornMaze$Levels", "version", "I", false)
  | 4 => ("HornMaze$Levels", "sightCount", "I", false)
  | 5 => ("HornMaze$Levels", "size", "I", false)
  | 6 => ("HornMaze$Levels", "solved", "I", false)
  | 7 => ("HornMaze$Levels", "moves", "LHornMaze$Moves;", true)
  | 8 => ("HornMaze$Levels", "sights", "[I", true)
  | 9 => ("HornMaze$Levels", "seen", "[I", false)
  | 10 => ("HornMaze$Levels", "stands", "[I", false)
  | 11 => ("HornMaze$Levels", "level", "[I", false)
  | 12 => ("HornMaze$Levels", "order", "[I", false)
  | 13 => ("HornMaze$Levels", "waiting", "[I", false)
  | _ => ("HornMaze$Levels", "nextWaiting", "[I", false)
def tyX3 : Nat → FieldType := fun k => match k with
  | 0 => .int
  | 1 => .int
  | 2 => .int
  | 3 => .int
  | 4 => .int
  | 5 => .int
  | 6 => .int
  | 7 => .object "HornMaze$Moves"
  | 8 => .array .int
  | 9 => .array .int
  | 10 => .array .int
  | 11 => .array .int
  | 12 => .array .int
  | 13 => .array .int
  | _ => .array .int
abbrev wsX30 : List Cond := u_ws RX3 TX3 15
theorem nmX3 : ∀ a, a < 15 → ∀ b, b < 15 → a ≠ b → (TX3 a).2.1 ≠ (TX3 b).2.1 := by decide +kernel
theorem tyX3_ok : ∀ k, k < 15 → parseFieldDescriptor (TX3 k).2.2.1 = some (tyX3 k) := by decide +kernel
abbrev cX3_init : ByteArray := prog_5_method_1_code
def yX3_init : MethodName := ⟨RX3, "<init>", "(LHornMaze$Moves;)V"⟩
abbrev cX3_isOf : ByteArray := prog_5_method_2_code
def yX3_isOf : MethodName := ⟨RX3, "isOf", "(III)Z"⟩
abbrev cX3_begin : ByteArray := prog_5_method_3_code
def yX3_begin : MethodName := ⟨RX3, "begin", "(III)V"⟩
abbrev cX3_addSight : ByteArray := prog_5_method_4_code
def yX3_addSight : MethodName := ⟨RX3, "addSight", "(I)V"⟩
abbrev cX3_enter : ByteArray := prog_5_method_5_code
def yX3_enter : MethodName := ⟨RX3, "enter", "(II)V"⟩
abbrev cX3_positionOf : ByteArray := prog_5_method_6_code
def yX3_positionOf : MethodName := ⟨RX3, "positionOf", "(I)I"⟩
abbrev cX3_solve : ByteArray := prog_5_method_7_code
def yX3_solve : MethodName := ⟨RX3, "solve", "()V"⟩
abbrev cX3_enterBehind : ByteArray := prog_5_method_8_code
def yX3_enterBehind : MethodName := ⟨RX3, "enterBehind", "(I)V"⟩
abbrev cX3_settle : ByteArray := prog_5_method_9_code
def yX3_settle : MethodName := ⟨RX3, "settle", "(I)V"⟩
abbrev cX3_arrange : ByteArray := prog_5_method_10_code
def yX3_arrange : MethodName := ⟨RX3, "arrange", "(II)V"⟩
abbrev cX3_levelOf : ByteArray := prog_5_method_11_code
def yX3_levelOf : MethodName := ⟨RX3, "levelOf", "(II)I"⟩
abbrev cX3_firstWord : ByteArray := prog_5_method_12_code
def yX3_firstWord : MethodName := ⟨RX3, "firstWord", "(II)I"⟩
abbrev cX3_isWithin : ByteArray := prog_5_method_13_code
def yX3_isWithin : MethodName := ⟨RX3, "isWithin", "(II)Z"⟩
def RX4 : String := "HornMaze$Maze"
def TX4 : u_T := fun k => match k with
  | 0 => ("HornMaze$Maze", "places", "I", false)
  | 1 => ("HornMaze$Maze", "words", "I", false)
  | 2 => ("HornMaze$Maze", "doors", "I", false)
  | 3 => ("HornMaze$Maze", "lawCount", "I", false)
  | 4 => ("HornMaze$Maze", "inForce", "I", false)
  | 5 => ("HornMaze$Maze", "calledCount", "I", false)
  | 6 => ("HornMaze$Maze", "walkers", "I", false)
  | 7 => ("HornMaze$Maze", "colours", "[I", true)
  | 8 => ("HornMaze$Maze", "opens", "[I", true)
  | 9 => ("HornMaze$Maze", "shuts", "[I", true)
  | 10 => ("HornMaze$Maze", "leads", "[I", true)
  | 11 => ("HornMaze$Maze", "hears", "[I", true)
  | 12 => ("HornMaze$Maze", "called", "[I", true)
  | 13 => ("HornMaze$Maze", "walkerAt", "[I", true)
  | 14 => ("HornMaze$Maze", "walkerKind", "[I", true)
  | 15 => ("HornMaze$Maze", "laws", "[LHornMaze$Law;", true)
  | _ => ("HornMaze$Maze", "store", "LHornMaze$Store;", true)
def tyX4 : Nat → FieldType := fun k => match k with
  | 0 => .int
  | 1 => .int
  | 2 => .int
  | 3 => .int
  | 4 => .int
  | 5 => .int
  | 6 => .int
  | 7 => .array .int
  | 8 => .array .int
  | 9 => .array .int
  | 10 => .array .int
  | 11 => .array .int
  | 12 => .array .int
  | 13 => .array .int
  | 14 => .array .int
  | 15 => .array (.object "HornMaze$Law")
  | _ => .object "HornMaze$Store"
abbrev wsX40 : List Cond := u_ws RX4 TX4 17
theorem nmX4 : ∀ a, a < 17 → ∀ b, b < 17 → a ≠ b → (TX4 a).2.1 ≠ (TX4 b).2.1 := by decide +kernel
theorem tyX4_ok : ∀ k, k < 17 → parseFieldDescriptor (TX4 k).2.2.1 = some (tyX4 k) := by decide +kernel
abbrev cX4_init : ByteArray := prog_6_method_1_code
def yX4_init : MethodName := ⟨RX4, "<init>", "()V"⟩
abbrev cX4_hasPlace : ByteArray := prog_6_method_2_code
def yX4_hasPlace : MethodName := ⟨RX4, "hasPlace", "(I)Z"⟩
abbrev cX4_hasWord : ByteArray := prog_6_method_3_code
def yX4_hasWord : MethodName := ⟨RX4, "hasWord", "(I)Z"⟩
abbrev cX4_hasWalker : ByteArray := prog_6_method_4_code
def yX4_hasWalker : MethodName := ⟨RX4, "hasWalker", "(I)Z"⟩
abbrev cX4_addWord : ByteArray := prog_6_method_5_code
def yX4_addWord : MethodName := ⟨RX4, "addWord", "(II)V"⟩
abbrev cX4_doorsBehind : ByteArray := prog_6_method_6_code
def yX4_doorsBehind : MethodName := ⟨RX4, "doorsBehind", "(II)I"⟩
abbrev cX4_placesOf : ByteArray := prog_6_method_7_code
def yX4_placesOf : MethodName := ⟨RX4, "placesOf", "(I)I"⟩
abbrev cX4_lawInForce : ByteArray := prog_6_method_8_code
def yX4_lawInForce : MethodName := ⟨RX4, "lawInForce", "()LHornMaze$Law;"⟩
abbrev cX4_copyFrom : ByteArray := prog_6_method_9_code
def yX4_copyFrom : MethodName := ⟨RX4, "copyFrom", "(LHornMaze$Maze;)V"⟩
def RX5 : String := "HornMaze$Moves"
def TX5 : u_T := fun k => match k with
  | 0 => ("HornMaze$Moves", "version", "I", false)
  | 1 => ("HornMaze$Moves", "maze", "LHornMaze$Maze;", true)
  | 2 => ("HornMaze$Moves", "facts", "[I", true)
  | 3 => ("HornMaze$Moves", "halves", "[I", true)
  | 4 => ("HornMaze$Moves", "readyWords", "[I", true)
  | 5 => ("HornMaze$Moves", "judgedWords", "[I", true)
  | _ => ("HornMaze$Moves", "allowed", "[I", true)
def tyX5 : Nat → FieldType := fun k => match k with
  | 0 => .int
  | 1 => .object "HornMaze$Maze"
  | 2 => .array .int
  | 3 => .array .int
  | 4 => .array .int
  | 5 => .array .int
  | _ => .array .int
abbrev wsX50 : List Cond := u_ws RX5 TX5 7
theorem nmX5 : ∀ a, a < 7 → ∀ b, b < 7 → a ≠ b → (TX5 a).2.1 ≠ (TX5 b).2.1 := by decide +kernel
theorem tyX5_ok : ∀ k, k < 7 → parseFieldDescriptor (TX5 k).2.2.1 = some (tyX5 k) := by decide +kernel
abbrev cX5_init : ByteArray := prog_7_method_1_code
def yX5_init : MethodName := ⟨RX5, "<init>", "(LHornMaze$Maze;)V"⟩
abbrev cX5_forget : ByteArray := prog_7_method_2_code
def yX5_forget : MethodName := ⟨RX5, "forget", "()V"⟩
abbrev cX5_step : ByteArray := prog_7_method_3_code
def yX5_step : MethodName := ⟨RX5, "step", "(IIII)I"⟩
abbrev cX5_forbids : ByteArray := prog_7_method_4_code
def yX5_forbids : MethodName := ⟨RX5, "forbids", "(II)Z"⟩
abbrev cX5_setFacts : ByteArray := prog_7_method_5_code
def yX5_setFacts : MethodName := ⟨RX5, "setFacts", "(II)V"⟩
abbrev cX5_allowedWords : ByteArray := prog_7_method_6_code
def yX5_allowedWords : MethodName := ⟨RX5, "allowedWords", "(I)I"⟩
abbrev cX5_makeReady : ByteArray := prog_7_method_7_code
def yX5_makeReady : MethodName := ⟨RX5, "makeReady", "(III)V"⟩
abbrev cX5_makeAllReady : ByteArray := prog_7_method_8_code
def yX5_makeAllReady : MethodName := ⟨RX5, "makeAllReady", "(II)V"⟩
abbrev cX5_fillTable : ByteArray := prog_7_method_9_code
def yX5_fillTable : MethodName := ⟨RX5, "fillTable", "(III)V"⟩
abbrev cX5_tableOf : ByteArray := prog_7_method_10_code
def yX5_tableOf : MethodName := ⟨RX5, "tableOf", "(III)I"⟩
abbrev cX5_standBehind : ByteArray := prog_7_method_11_code
def yX5_standBehind : MethodName := ⟨RX5, "standBehind", "(III)I"⟩
abbrev cX5_placeBehind : ByteArray := prog_7_method_12_code
def yX5_placeBehind : MethodName := ⟨RX5, "placeBehind", "(IIII)I"⟩
def RX6 : String := "HornMaze$Search"
def TX6 : u_T := fun k => match k with
  | 0 => ("HornMaze$Search", "fewest", "I", false)
  | 1 => ("HornMaze$Search", "ways", "I", false)
  | 2 => ("HornMaze$Search", "size", "I", false)
  | 3 => ("HornMaze$Search", "goal", "I", false)
  | 4 => ("HornMaze$Search", "mix", "I", false)
  | 5 => ("HornMaze$Search", "begun", "I", false)
  | 6 => ("HornMaze$Search", "aim", "I", false)
  | 7 => ("HornMaze$Search", "skipped", "I", false)
  | 8 => ("HornMaze$Search", "version", "I", false)
  | 9 => ("HornMaze$Search", "moves", "LHornMaze$Moves;", true)
  | 10 => ("HornMaze$Search", "seen", "[I", false)
  | 11 => ("HornMaze$Search", "queue", "[I", false)
  | 12 => ("HornMaze$Search", "from", "[I", false)
  | _ => ("HornMaze$Search", "rows", "[I", false)
def tyX6 : Nat → FieldType := fun k => match k with
  | 0 => .int
  | 1 => .int
  | 2 => .int
  | 3 => .int
  | 4 => .int
  | 5 => .int
  | 6 => .int
  | 7 => .int
  | 8 => .int
  | 9 => .object "HornMaze$Moves"
  | 10 => .array .int
  | 11 => .array .int
  | 12 => .array .int
  | _ => .array .int
abbrev wsX60 : List Cond := u_ws RX6 TX6 14
theorem nmX6 : ∀ a, a < 14 → ∀ b, b < 14 → a ≠ b → (TX6 a).2.1 ≠ (TX6 b).2.1 := by decide +kernel
theorem tyX6_ok : ∀ k, k < 14 → parseFieldDescriptor (TX6 k).2.2.1 = some (tyX6 k) := by decide +kernel
abbrev cX6_init : ByteArray := prog_8_method_1_code
def yX6_init : MethodName := ⟨RX6, "<init>", "(LHornMaze$Moves;)V"⟩
abbrev cX6_find : ByteArray := prog_8_method_2_code
def yX6_find : MethodName := ⟨RX6, "find", "(IIII)V"⟩
abbrev cX6_clear : ByteArray := prog_8_method_3_code
def yX6_clear : MethodName := ⟨RX6, "clear", "()V"⟩
abbrev cX6_gather : ByteArray := prog_8_method_4_code
def yX6_gather : MethodName := ⟨RX6, "gather", "(II)V"⟩
abbrev cX6_isTogether : ByteArray := prog_8_method_5_code
def yX6_isTogether : MethodName := ⟨RX6, "isTogether", "(I)Z"⟩
abbrev cX6_spread : ByteArray := prog_8_method_6_code
def yX6_spread : MethodName := ⟨RX6, "spread", "(II)V"⟩
abbrev cX6_add : ByteArray := prog_8_method_7_code
def yX6_add : MethodName := ⟨RX6, "add", "(III)V"⟩
abbrev cX6_wordOfFirst : ByteArray := prog_8_method_8_code
def yX6_wordOfFirst : MethodName := ⟨RX6, "wordOfFirst", "(I)I"⟩
abbrev cX6_wordsOfFirst : ByteArray := prog_8_method_9_code
def yX6_wordsOfFirst : MethodName := ⟨RX6, "wordsOfFirst", "()I"⟩
def RX7 : String := "HornMaze$Store"
def TX7 : u_T := fun k => match k with
  | 0 => ("HornMaze$Store", "size", "I", false)
  | 1 => ("HornMaze$Store", "total", "I", false)
  | 2 => ("HornMaze$Store", "sets", "[I", true)
  | _ => ("HornMaze$Store", "times", "[I", true)
def tyX7 : Nat → FieldType := fun k => match k with
  | 0 => .int
  | 1 => .int
  | 2 => .array .int
  | _ => .array .int
abbrev wsX70 : List Cond := u_ws RX7 TX7 4
theorem nmX7 : ∀ a, a < 4 → ∀ b, b < 4 → a ≠ b → (TX7 a).2.1 ≠ (TX7 b).2.1 := by decide +kernel
theorem tyX7_ok : ∀ k, k < 4 → parseFieldDescriptor (TX7 k).2.2.1 = some (tyX7 k) := by decide +kernel
abbrev cX7_init : ByteArray := prog_9_method_1_code
def yX7_init : MethodName := ⟨RX7, "<init>", "()V"⟩
abbrev cX7_isFull : ByteArray := prog_9_method_2_code
def yX7_isFull : MethodName := ⟨RX7, "isFull", "()Z"⟩
abbrev cX7_lowerThan : ByteArray := prog_9_method_3_code
def yX7_lowerThan : MethodName := ⟨RX7, "lowerThan", "(I)I"⟩
abbrev cX7_timesOf : ByteArray := prog_9_method_4_code
def yX7_timesOf : MethodName := ⟨RX7, "timesOf", "(I)I"⟩
abbrev cX7_put : ByteArray := prog_9_method_5_code
def yX7_put : MethodName := ⟨RX7, "put", "(I)I"⟩
abbrev cX7_take : ByteArray := prog_9_method_6_code
def yX7_take : MethodName := ⟨RX7, "take", "(I)I"⟩
abbrev cX7_within : ByteArray := prog_9_method_7_code
def yX7_within : MethodName := ⟨RX7, "within", "(I)I"⟩
abbrev cX7_having : ByteArray := prog_9_method_8_code
def yX7_having : MethodName := ⟨RX7, "having", "(I)I"⟩
abbrev cX7_lowestHaving : ByteArray := prog_9_method_9_code
def yX7_lowestHaving : MethodName := ⟨RX7, "lowestHaving", "(I)I"⟩
abbrev cX7_nearest : ByteArray := prog_9_method_10_code
def yX7_nearest : MethodName := ⟨RX7, "nearest", "(I)I"⟩
abbrev cX7_copyStore : ByteArray := prog_9_method_11_code
def yX7_copyStore : MethodName := ⟨RX7, "copyStore", "(LHornMaze$Store;)V"⟩
def RX8 : String := "HornMaze$Tape"
def TX8 : u_T := fun k => match k with
  | 0 => ("HornMaze$Tape", "size", "I", false)
  | _ => ("HornMaze$Tape", "bytes", "[I", true)
def tyX8 : Nat → FieldType := fun k => match k with
  | 0 => .int
  | _ => .array .int
abbrev wsX80 : List Cond := u_ws RX8 TX8 2
theorem nmX8 : ∀ a, a < 2 → ∀ b, b < 2 → a ≠ b → (TX8 a).2.1 ≠ (TX8 b).2.1 := by decide +kernel
theorem tyX8_ok : ∀ k, k < 2 → parseFieldDescriptor (TX8 k).2.2.1 = some (tyX8 k) := by decide +kernel
abbrev cX8_init : ByteArray := prog_10_method_1_code
def yX8_init : MethodName := ⟨RX8, "<init>", "()V"⟩
abbrev cX8_hasRoomFor : ByteArray := prog_10_method_2_code
def yX8_hasRoomFor : MethodName := ⟨RX8, "hasRoomFor", "(I)Z"⟩
abbrev cX8_addFour : ByteArray := prog_10_method_3_code
def yX8_addFour : MethodName := ⟨RX8, "addFour", "(I)V"⟩
def RX9 : String := "HornMaze$Tokens"
def TX9 : u_T := fun k => match k with
  | 0 => ("HornMaze$Tokens", "size", "I", false)
  | 1 => ("HornMaze$Tokens", "at", "I", false)
  | 2 => ("HornMaze$Tokens", "kinds", "[I", true)
  | 3 => ("HornMaze$Tokens", "starts", "[I", true)
  | _ => ("HornMaze$Tokens", "values", "[I", true)
def tyX9 : Nat → FieldType := fun k => match k with
  | 0 => .int
  | 1 => .int
  | 2 => .array .int
  | 3 => .array .int
  | _ => .array .int
abbrev wsX90 : List Cond := u_ws RX9 TX9 5
theorem nmX9 : ∀ a, a < 5 → ∀ b, b < 5 → a ≠ b → (TX9 a).2.1 ≠ (TX9 b).2.1 := by decide +kernel
theorem tyX9_ok : ∀ k, k < 5 → parseFieldDescriptor (TX9 k).2.2.1 = some (tyX9 k) := by decide +kernel
abbrev cX9_init : ByteArray := prog_11_method_1_code
def yX9_init : MethodName := ⟨RX9, "<init>", "()V"⟩
abbrev cX9_scan : ByteArray := prog_11_method_2_code
def yX9_scan : MethodName := ⟨RX9, "scan", "([II)V"⟩
abbrev cX9_kind : ByteArray := prog_11_method_3_code
def yX9_kind : MethodName := ⟨RX9, "kind", "()I"⟩
abbrev cX9_value : ByteArray := prog_11_method_4_code
def yX9_value : MethodName := ⟨RX9, "value", "()I"⟩
abbrev cX9_start : ByteArray := prog_11_method_5_code
def yX9_start : MethodName := ⟨RX9, "start", "()I"⟩
abbrev cX9_advance : ByteArray := prog_11_method_6_code
def yX9_advance : MethodName := ⟨RX9, "advance", "()V"⟩
abbrev cX9_add : ByteArray := prog_11_method_7_code
def yX9_add : MethodName := ⟨RX9, "add", "(III)V"⟩
abbrev cX9_numberOf : ByteArray := prog_11_method_8_code
def yX9_numberOf : MethodName := ⟨RX9, "numberOf", "([III)I"⟩
abbrev cX9_nameOf : ByteArray := prog_11_method_9_code
def yX9_nameOf : MethodName := ⟨RX9, "nameOf", "([III)I"⟩
abbrev cX9_isLetter : ByteArray := prog_11_method_10_code
def yX9_isLetter : MethodName := ⟨RX9, "isLetter", "(I)Z"⟩
abbrev cX9_isDigit : ByteArray := prog_11_method_11_code
def yX9_isDigit : MethodName := ⟨RX9, "isDigit", "(I)Z"⟩
def RX10 : String := "HornMaze"
def TX10 : u_T := fun k => match k with
  | 0 => ("HornMaze", "maze", "LHornMaze$Maze;", true)
  | 1 => ("HornMaze", "tape", "LHornMaze$Tape;", true)
  | 2 => ("HornMaze", "reader", "LHornMaze$LawReader;", true)
  | 3 => ("HornMaze", "moves", "LHornMaze$Moves;", true)
  | 4 => ("HornMaze", "search", "LHornMaze$Search;", true)
  | 5 => ("HornMaze", "pairs", "LHornMaze$Levels;", true)
  | 6 => ("HornMaze", "sights", "LHornMaze$Levels;", true)
  | 7 => ("HornMaze", "latestHorn", "LHornMaze$Horn;", true)
  | 8 => ("HornMaze", "images", "[LHornMaze$Maze;", true)
  | 9 => ("HornMaze", "imageKept", "[Z", true)
  | 10 => ("HornMaze", "refusals", "[I", true)
  | 11 => ("HornMaze", "laps", "[I", true)
  | 12 => ("HornMaze", "latestStatus", "I", false)
  | 13 => ("HornMaze", "latestFault", "I", false)
  | _ => ("HornMaze", "latestStray", "I", false)
def tyX10 : Nat → FieldType := fun k => match k with
  | 0 => .object "HornMaze$Maze"
  | 1 => .object "HornMaze$Tape"
  | 2 => .object "HornMaze$LawReader"
  | 3 => .object "HornMaze$Moves"
  | 4 => .object "HornMaze$Search"
  | 5 => .object "HornMaze$Levels"
  | 6 => .object "HornMaze$Levels"
  | 7 => .object "HornMaze$Horn"
  | 8 => .array (.object "HornMaze$Maze")
  | 9 => .array .boolean
  | 10 => .array .int
  | 11 => .array .int
  | 12 => .int
  | 13 => .int
  | _ => .int
abbrev wsX100 : List Cond := u_ws RX10 TX10 15
theorem nmX10 : ∀ a, a < 15 → ∀ b, b < 15 → a ≠ b → (TX10 a).2.1 ≠ (TX10 b).2.1 := by decide +kernel
theorem tyX10_ok : ∀ k, k < 15 → parseFieldDescriptor (TX10 k).2.2.1 = some (tyX10 k) := by decide +kernel
abbrev cX10_init : ByteArray := prog_1_method_1_code
def yX10_init : MethodName := ⟨RX10, "<init>", "()V"⟩
abbrev cX10_place : ByteArray := prog_1_method_2_code
def yX10_place : MethodName := ⟨RX10, "place", "(I)I"⟩
abbrev cX10_paint : ByteArray := prog_1_method_3_code
def yX10_paint : MethodName := ⟨RX10, "paint", "(II)I"⟩
abbrev cX10_word : ByteArray := prog_1_method_4_code
def yX10_word : MethodName := ⟨RX10, "word", "(II)I"⟩
abbrev cX10_lead : ByteArray := prog_1_method_5_code
def yX10_lead : MethodName := ⟨RX10, "lead", "(III)I"⟩
abbrev cX10_hear : ByteArray := prog_1_method_6_code
def yX10_hear : MethodName := ⟨RX10, "hear", "(III)I"⟩
abbrev cX10_doors : ByteArray := prog_1_method_7_code
def yX10_doors : MethodName := ⟨RX10, "doors", "(I)I"⟩
abbrev cX10_feed : ByteArray := prog_1_method_8_code
def yX10_feed : MethodName := ⟨RX10, "feed", "(IIIII)I"⟩
abbrev cX10_end : ByteArray := prog_1_method_9_code
def yX10_end : MethodName := ⟨RX10, "end", "(I)I"⟩
abbrev cX10_row : ByteArray := prog_1_method_10_code
def yX10_row : MethodName := ⟨RX10, "row", "(I)I"⟩
abbrev cX10_stray : ByteArray := prog_1_method_11_code
def yX10_stray : MethodName := ⟨RX10, "stray", "()I"⟩
abbrev cX10_law : ByteArray := prog_1_method_12_code
def yX10_law : MethodName := ⟨RX10, "law", "()I"⟩
abbrev cX10_fault : ByteArray := prog_1_method_13_code
def yX10_fault : MethodName := ⟨RX10, "fault", "()I"⟩
abbrev cX10_force : ByteArray := prog_1_method_14_code
def yX10_force : MethodName := ⟨RX10, "force", "(I)I"⟩
abbrev cX10_goes : ByteArray := prog_1_method_15_code
def yX10_goes : MethodName := ⟨RX10, "goes", "(IIII)I"⟩
abbrev cX10_barred : ByteArray := prog_1_method_16_code
def yX10_barred : MethodName := ⟨RX10, "barred", "(II)I"⟩
abbrev cX10_call : ByteArray := prog_1_method_17_code
def yX10_call : MethodName := ⟨RX10, "call", "(I)I"⟩
abbrev cX10_tear : ByteArray := prog_1_method_18_code
def yX10_tear : MethodName := ⟨RX10, "tear", "()I"⟩
abbrev cX10_after : ByteArray := prog_1_method_19_code
def yX10_after : MethodName := ⟨RX10, "after", "(III)I"⟩
abbrev cX10_open : ByteArray := prog_1_method_20_code
def yX10_open : MethodName := ⟨RX10, "open", "(I)I"⟩
abbrev cX10_cycle : ByteArray := prog_1_method_21_code
def yX10_cycle : MethodName := ⟨RX10, "cycle", "(III)I"⟩
abbrev cX10_trace : ByteArray := prog_1_method_22_code
def yX10_trace : MethodName := ⟨RX10, "trace", "(III)I"⟩
abbrev cX10_fewest : ByteArray := prog_1_method_23_code
def yX10_fewest : MethodName := ⟨RX10, "fewest", "(III)I"⟩
abbrev cX10_ways : ByteArray := prog_1_method_24_code
def yX10_ways : MethodName := ⟨RX10, "ways", "(III)I"⟩
abbrev cX10_spell : ByteArray := prog_1_method_25_code
def yX10_spell : MethodName := ⟨RX10, "spell", "(IIII)I"⟩
abbrev cX10_without : ByteArray := prog_1_method_26_code
def yX10_without : MethodName := ⟨RX10, "without", "(III)I"⟩
abbrev cX10_spare : ByteArray := prog_1_method_27_code
def yX10_spare : MethodName := ⟨RX10, "spare", "(II)I"⟩
abbrev cX10_stands : ByteArray := prog_1_method_28_code
def yX10_stands : MethodName := ⟨RX10, "stands", "(II)I"⟩
abbrev cX10_pair : ByteArray := prog_1_method_29_code
def yX10_pair : MethodName := ⟨RX10, "pair", "(III)I"⟩
abbrev cX10_which : ByteArray := prog_1_method_30_code
def yX10_which : MethodName := ⟨RX10, "which", "(III)I"⟩
abbrev cX10_farthest : ByteArray := prog_1_method_31_code
def yX10_farthest : MethodName := ⟨RX10, "farthest", "(I)I"⟩
abbrev cX10_bar : ByteArray := prog_1_method_32_code
def yX10_bar : MethodName := ⟨RX10, "bar", "(I)I"⟩
abbrev cX10_plod : ByteArray := prog_1_method_33_code
def yX10_plod : MethodName := ⟨RX10, "plod", "(II)I"⟩
abbrev cX10_sight : ByteArray := prog_1_method_34_code
def yX10_sight : MethodName := ⟨RX10, "sight", "(I)I"⟩
abbrev cX10_ask : ByteArray := prog_1_method_35_code
def yX10_ask : MethodName := ⟨RX10, "ask", "(I)I"⟩
abbrev cX10_hold : ByteArray := prog_1_method_36_code
def yX10_hold : MethodName := ⟨RX10, "hold", "(I)I"⟩
abbrev cX10_drop : ByteArray := prog_1_method_37_code
def yX10_drop : MethodName := ⟨RX10, "drop", "(I)I"⟩
abbrev cX10_held : ByteArray := prog_1_method_38_code
def yX10_held : MethodName := ⟨RX10, "held", "(I)I"⟩
abbrev cX10_kth : ByteArray := prog_1_method_39_code
def yX10_kth : MethodName := ⟨RX10, "kth", "(I)I"⟩
abbrev cX10_rank : ByteArray := prog_1_method_40_code
def yX10_rank : MethodName := ⟨RX10, "rank", "(I)I"⟩
abbrev cX10_about : ByteArray := prog_1_method_41_code
def yX10_about : MethodName := ⟨RX10, "about", "(II)I"⟩
abbrev cX10_near : ByteArray := prog_1_method_42_code
def yX10_near : MethodName := ⟨RX10, "near", "(II)I"⟩
abbrev cX10_between : ByteArray := prog_1_method_43_code
def yX10_between : MethodName := ⟨RX10, "between", "(II)I"⟩
abbrev cX10_walker : ByteArray := prog_1_method_44_code
def yX10_walker : MethodName := ⟨RX10, "walker", "(II)I"⟩
abbrev cX10_where : ByteArray := prog_1_method_45_code
def yX10_where : MethodName := ⟨RX10, "where", "(I)I"⟩
abbrev cX10_say : ByteArray := prog_1_method_46_code
def yX10_say : MethodName := ⟨RX10, "say", "(I)I"⟩
abbrev cX10_horn : ByteArray := prog_1_method_47_code
def yX10_horn : MethodName := ⟨RX10, "horn", "(II)I"⟩
abbrev cX10_drawn : ByteArray := prog_1_method_48_code
def yX10_drawn : MethodName := ⟨RX10, "drawn", "(I)I"⟩
abbrev cX10_image : ByteArray := prog_1_method_49_code
def yX10_image : MethodName := ⟨RX10, "image", "(I)I"⟩
abbrev cX10_back : ByteArray := prog_1_method_50_code
def yX10_back : MethodName := ⟨RX10, "back", "(I)I"⟩
abbrev cX10_count : ByteArray := prog_1_method_51_code
def yX10_count : MethodName := ⟨RX10, "count", "(I)I"⟩
abbrev cX10_status : ByteArray := prog_1_method_52_code
def yX10_status : MethodName := ⟨RX10, "status", "()I"⟩
abbrev cX10_refuse : ByteArray := prog_1_method_53_code
def yX10_refuse : MethodName := ⟨RX10, "refuse", "(I)I"⟩
abbrev cX10_grant : ByteArray := prog_1_method_54_code
def yX10_grant : MethodName := ⟨RX10, "grant", "(I)I"⟩
abbrev cX10_isColour : ByteArray := prog_1_method_55_code
def yX10_isColour : MethodName := ⟨RX10, "isColour", "(I)Z"⟩
abbrev cX10_isKind : ByteArray := prog_1_method_56_code
def yX10_isKind : MethodName := ⟨RX10, "isKind", "(I)Z"⟩
abbrev cX10_isDoors : ByteArray := prog_1_method_57_code
def yX10_isDoors : MethodName := ⟨RX10, "isDoors", "(I)Z"⟩
abbrev cX10_isStoreSet : ByteArray := prog_1_method_58_code
def yX10_isStoreSet : MethodName := ⟨RX10, "isStoreSet", "(I)Z"⟩
abbrev cX10_isAim : ByteArray := prog_1_method_59_code
def yX10_isAim : MethodName := ⟨RX10, "isAim", "(I)Z"⟩
abbrev cX10_isSetOf : ByteArray := prog_1_method_60_code
def yX10_isSetOf : MethodName := ⟨RX10, "isSetOf", "(II)Z"⟩
abbrev cX10_standOf : ByteArray := prog_1_method_61_code
def yX10_standOf : MethodName := ⟨RX10, "standOf", "(I)I"⟩
abbrev cX10_hearAt : ByteArray := prog_1_method_62_code
def yX10_hearAt : MethodName := ⟨RX10, "hearAt", "(III)I"⟩
abbrev cX10_standAfter : ByteArray := prog_1_method_63_code
def yX10_standAfter : MethodName := ⟨RX10, "standAfter", "(III)I"⟩
abbrev cX10_firstLapWith : ByteArray := prog_1_method_64_code
def yX10_firstLapWith : MethodName := ⟨RX10, "firstLapWith", "(II)I"⟩
abbrev cX10_findFewest : ByteArray := prog_1_method_65_code
def yX10_findFewest : MethodName := ⟨RX10, "findFewest", "(IIII)V"⟩
abbrev cX10_findPairs : ByteArray := prog_1_method_66_code
def yX10_findPairs : MethodName := ⟨RX10, "findPairs", "(I)V"⟩
abbrev cX10_findSights : ByteArray := prog_1_method_67_code
def yX10_findSights : MethodName := ⟨RX10, "findSights", "(I)V"⟩
abbrev cX10_soonestPair : ByteArray := prog_1_method_68_code
def yX10_soonestPair : MethodName := ⟨RX10, "soonestPair", "(I)I"⟩
abbrev cX10_bringTogether : ByteArray := prog_1_method_69_code
def yX10_bringTogether : MethodName := ⟨RX10, "bringTogether", "(III)I"⟩
abbrev cX10_hearOnPaper : ByteArray := prog_1_method_70_code
def yX10_hearOnPaper : MethodName := ⟨RX10, "hearOnPaper", "(I)V"⟩
def RX11 : String := "HornMazeModel"
def TX11 : u_T := fun k => match k with
  | 0 => ("HornMazeModel", "status", "I", false)
  | 1 => ("HornMazeModel", "version", "I", false)
  | 2 => ("HornMazeModel", "refused", "[I", true)
  | 3 => ("HornMazeModel", "kept", "[I", true)
  | 4 => ("HornMazeModel", "images", "[I", true)
  | 5 => ("HornMazeModel", "hasImage", "[Z", true)
  | 6 => ("HornMazeModel", "stray", "I", false)
  | 7 => ("HornMazeModel", "words", "[B", true)
  | 8 => ("HornMazeModel", "tape", "[B", true)
  | 9 => ("HornMazeModel", "five", "[I", true)
  | 10 => ("HornMazeModel", "taped", "I", false)
  | 11 => ("HornMazeModel", "fault", "I", false)
  | 12 => ("HornMazeModel", "code", "[I", true)
  | 13 => ("HornMazeModel", "value", "[I", true)
  | 14 => ("HornMazeModel", "placed", "[I", true)
  | 15 => ("HornMazeModel", "tokens", "I", false)
  | 16 => ("HornMazeModel", "token", "I", false)
  | 17 => ("HornMazeModel", "leaves", "I", false)
  | 18 => ("HornMazeModel", "bad", "I", false)
  | 19 => ("HornMazeModel", "go", "I", false)
  | 20 => ("HornMazeModel", "goEnd", "I", false)
  | 21 => ("HornMazeModel", "broken", "Z", false)
  | 22 => ("HornMazeModel", "asked", "[I", true)
  | 23 => ("HornMazeModel", "told", "J", false)
  | 24 => ("HornMazeModel", "isTold", "Z", false)
  | 25 => ("HornMazeModel", "going", "[I", true)
  | 26 => ("HornMazeModel", "bars", "[Z", true)
  | 27 => ("HornMazeModel", "madeBy", "I", false)
  | 28 => ("HornMazeModel", "doorsNow", "I", false)
  | 29 => ("HornMazeModel", "setNow", "I", false)
  | 30 => ("HornMazeModel", "order", "[I", true)
  | 31 => ("HornMazeModel", "far", "[I", true)
  | 32 => ("HornMazeModel", "many", "[I", true)
  | 33 => ("HornMazeModel", "leading", "[Z", true)
  | 34 => ("HornMazeModel", "stands", "I", false)
  | 35 => ("HornMazeModel", "best", "I", false)
  | 36 => ("HornMazeModel", "bestWays", "I", false)
  | 37 => ("HornMazeModel", "spelled", "[I", true)
  | 38 => ("HornMazeModel", "sight", "[I", true)
  | 39 => ("HornMazeModel", "sightBy", "I", false)
  | 40 => ("HornMazeModel", "horn", "[I", true)
  | 41 => ("HornMazeModel", "hornMany", "I", false)
  | _ => ("HornMazeModel", "hornDoors", "I", false)
def tyX11 : Nat → FieldType := fun k => match k with
  | 0 => .int
  | 1 => .int
  | 2 => .array .int
  | 3 => .array .int
  | 4 => .array .int
  | 5 => .array .boolean
  | 6 => .int
  | 7 => .array .byte
  | 8 => .array .byte
  | 9 => .array .int
  | 10 => .int
  | 11 => .int
  | 12 => .array .int
  | 13 => .array .int
  | 14 => .array .int
  | 15 => .int
  | 16 => .int
  | 17 => .int
  | 18 => .int
  | 19 => .int
  | 20 => .int
  | 21 => .boolean
  | 22 => .array .int
  | 23 => .long
  | 24 => .boolean
  | 25 => .array .int
  | 26 => .array .boolean
  | 27 => .int
  | 28 => .int
  | 29 => .int
  | 30 => .array .int
  | 31 => .array .int
  | 32 => .array .int
  | 33 => .array .boolean
  | 34 => .int
  | 35 => .int
  | 36 => .int
  | 37 => .array .int
  | 38 => .array .int
  | 39 => .int
  | 40 => .array .int
  | 41 => .int
  | _ => .int
abbrev wsX110 : List Cond := u_ws RX11 TX11 43
theorem nmX11 : ∀ a, a < 43 → ∀ b, b < 43 → a ≠ b → (TX11 a).2.1 ≠ (TX11 b).2.1 := by decide +kernel
theorem tyX11_ok : ∀ k, k < 43 → parseFieldDescriptor (TX11 k).2.2.1 = some (tyX11 k) := by decide +kernel
abbrev cX11_lies : ByteArray := prog_13_method_1_code
def yX11_lies : MethodName := ⟨RX11, "lies", "(III)Z"⟩
abbrev cX11_refuses : ByteArray := prog_13_method_2_code
def yX11_refuses : MethodName := ⟨RX11, "refuses", "(I)I"⟩
abbrev cX11_good : ByteArray := prog_13_method_3_code
def yX11_good : MethodName := ⟨RX11, "good", "(I)I"⟩
abbrev cX11_isIn : ByteArray := prog_13_method_4_code
def yX11_isIn : MethodName := ⟨RX11, "isIn", "(II)Z"⟩
abbrev cX11_init : ByteArray := prog_13_method_5_code
def yX11_init : MethodName := ⟨RX11, "<init>", "()V"⟩
abbrev cX11_image : ByteArray := prog_13_method_6_code
def yX11_image : MethodName := ⟨RX11, "image", "(I)I"⟩
abbrev cX11_back : ByteArray := prog_13_method_7_code
def yX11_back : MethodName := ⟨RX11, "back", "(I)I"⟩
abbrev cX11_places : ByteArray := prog_13_method_8_code
def yX11_places : MethodName := ⟨RX11, "places", "()I"⟩
abbrev cX11_words : ByteArray := prog_13_method_9_code
def yX11_words : MethodName := ⟨RX11, "words", "()I"⟩
abbrev cX11_isPlace : ByteArray := prog_13_method_10_code
def yX11_isPlace : MethodName := ⟨RX11, "isPlace", "(I)Z"⟩
abbrev cX11_isWord : ByteArray := prog_13_method_11_code
def yX11_isWord : MethodName := ⟨RX11, "isWord", "(I)Z"⟩
abbrev cX11_isKind : ByteArray := prog_13_method_12_code
def yX11_isKind : MethodName := ⟨RX11, "isKind", "(I)Z"⟩
abbrev cX11_replaces : ByteArray := prog_13_method_13_code
def yX11_replaces : MethodName := ⟨RX11, "replaces", "(II)I"⟩
abbrev cX11_place : ByteArray := prog_13_method_14_code
def yX11_place : MethodName := ⟨RX11, "place", "(I)I"⟩
abbrev cX11_paint : ByteArray := prog_13_method_15_code
def yX11_paint : MethodName := ⟨RX11, "paint", "(II)I"⟩
abbrev cX11_word : ByteArray := prog_13_method_16_code
def yX11_word : MethodName := ⟨RX11, "word", "(II)I"⟩
abbrev cX11_lead : ByteArray := prog_13_method_17_code
def yX11_lead : MethodName := ⟨RX11, "lead", "(III)I"⟩
abbrev cX11_hear : ByteArray := prog_13_method_18_code
def yX11_hear : MethodName := ⟨RX11, "hear", "(III)I"⟩
abbrev cX11_doors : ByteArray := prog_13_method_19_code
def yX11_doors : MethodName := ⟨RX11, "doors", "(I)I"⟩
abbrev cX11_row : ByteArray := prog_13_method_20_code
def yX11_row : MethodName := ⟨RX11, "row", "(I)I"⟩
abbrev cX11_stray : ByteArray := prog_13_method_21_code
def yX11_stray : MethodName := ⟨RX11, "stray", "()I"⟩
abbrev cX11_feed : ByteArray := prog_13_method_22_code
def yX11_feed : MethodName := ⟨RX11, "feed", "(IIIII)I"⟩
abbrev cX11_end : ByteArray := prog_13_method_23_code
def yX11_end : MethodName := ⟨RX11, "end", "(I)I"⟩
abbrev cX11_isSmall : ByteArray := prog_13_method_24_code
def yX11_isSmall : MethodName := ⟨RX11, "isSmall", "(I)Z"⟩
abbrev cX11_isDigit : ByteArray := prog_13_method_25_code
def yX11_isDigit : MethodName := ⟨RX11, "isDigit", "(I)Z"⟩
abbrev cX11_wordOf : ByteArray := prog_13_method_26_code
def yX11_wordOf : MethodName := ⟨RX11, "wordOf", "(II)I"⟩
abbrev cX11_splits : ByteArray := prog_13_method_27_code
def yX11_splits : MethodName := ⟨RX11, "splits", "(I)V"⟩
abbrev cX11_fine : ByteArray := prog_13_method_28_code
def yX11_fine : MethodName := ⟨RX11, "fine", "()Z"⟩
abbrev cX11_faults : ByteArray := prog_13_method_29_code
def yX11_faults : MethodName := ⟨RX11, "faults", "()V"⟩
abbrev cX11_takes0 : ByteArray := prog_13_method_30_code
def yX11_takes0 : MethodName := ⟨RX11, "takes0", "(I)Z"⟩
abbrev cX11_must : ByteArray := prog_13_method_31_code
def yX11_must : MethodName := ⟨RX11, "must", "(I)V"⟩
abbrev cX11_leaf : ByteArray := prog_13_method_32_code
def yX11_leaf : MethodName := ⟨RX11, "leaf", "()V"⟩
abbrev cX11_sign : ByteArray := prog_13_method_33_code
def yX11_sign : MethodName := ⟨RX11, "sign", "(C)I"⟩
abbrev cX11_readClause : ByteArray := prog_13_method_34_code
def yX11_readClause : MethodName := ⟨RX11, "readClause", "()V"⟩
abbrev cX11_readTest : ByteArray := prog_13_method_35_code
def yX11_readTest : MethodName := ⟨RX11, "readTest", "(I)V"⟩
abbrev cX11_readBoth : ByteArray := prog_13_method_36_code
def yX11_readBoth : MethodName := ⟨RX11, "readBoth", "(I)V"⟩
abbrev cX11_readPlain : ByteArray := prog_13_method_37_code
def yX11_readPlain : MethodName := ⟨RX11, "readPlain", "(I)V"⟩
abbrev cX11_readSum : ByteArray := prog_13_method_38_code
def yX11_readSum : MethodName := ⟨RX11, "readSum", "(I)V"⟩
abbrev cX11_readTerm : ByteArray := prog_13_method_39_code
def yX11_readTerm : MethodName := ⟨RX11, "readTerm", "(I)V"⟩
abbrev cX11_readPart : ByteArray := prog_13_method_40_code
def yX11_readPart : MethodName := ⟨RX11, "readPart", "(I)V"⟩
abbrev cX11_reads : ByteArray := prog_13_method_41_code
def yX11_reads : MethodName := ⟨RX11, "reads", "()Z"⟩
abbrev cX11_law : ByteArray := prog_13_method_42_code
def yX11_law : MethodName := ⟨RX11, "law", "()I"⟩
abbrev cX11_fault : ByteArray := prog_13_method_43_code
def yX11_fault : MethodName := ⟨RX11, "fault", "()I"⟩
abbrev cX11_force : ByteArray := prog_13_method_44_code
def yX11_force : MethodName := ⟨RX11, "force", "(I)I"⟩
abbrev cX11_codeAt : ByteArray := prog_13_method_45_code
def yX11_codeAt : MethodName := ⟨RX11, "codeAt", "(I)I"⟩
abbrev cX11_passes0 : ByteArray := prog_13_method_46_code
def yX11_passes0 : MethodName := ⟨RX11, "passes0", "(I)Z"⟩
abbrev cX11_bounded : ByteArray := prog_13_method_47_code
def yX11_bounded : MethodName := ⟨RX11, "bounded", "(JZ)J"⟩
abbrev cX11_sumOf : ByteArray := prog_13_method_48_code
def yX11_sumOf : MethodName := ⟨RX11, "sumOf", "(Z)J"⟩
abbrev cX11_termOf : ByteArray := prog_13_method_49_code
def yX11_termOf : MethodName := ⟨RX11, "termOf", "(Z)J"⟩
abbrev cX11_partOf : ByteArray := prog_13_method_50_code
def yX11_partOf : MethodName := ⟨RX11, "partOf", "(Z)J"⟩
abbrev cX11_testOf : ByteArray := prog_13_method_51_code
def yX11_testOf : MethodName := ⟨RX11, "testOf", "(Z)Z"⟩
abbrev cX11_bothOf : ByteArray := prog_13_method_52_code
def yX11_bothOf : MethodName := ⟨RX11, "bothOf", "(Z)Z"⟩
abbrev cX11_plainOf : ByteArray := prog_13_method_53_code
def yX11_plainOf : MethodName := ⟨RX11, "plainOf", "(Z)Z"⟩
abbrev cX11_positiveOf : ByteArray := prog_13_method_54_code
def yX11_positiveOf : MethodName := ⟨RX11, "positiveOf", "(Z)Z"⟩
abbrev cX11_asks : ByteArray := prog_13_method_55_code
def yX11_asks : MethodName := ⟨RX11, "asks", "(I)V"⟩
abbrev cX11_asksOf : ByteArray := prog_13_method_56_code
def yX11_asksOf : MethodName := ⟨RX11, "asksOf", "(IIIII)V"⟩
abbrev cX11_goOf : ByteArray := prog_13_method_57_code
def yX11_goOf : MethodName := ⟨RX11, "goOf", "(IIII)I"⟩
abbrev cX11_at : ByteArray := prog_13_method_58_code
def yX11_at : MethodName := ⟨RX11, "at", "(IIII)I"⟩
abbrev cX11_looks : ByteArray := prog_13_method_59_code
def yX11_looks : MethodName := ⟨RX11, "looks", "()V"⟩
abbrev cX11_doorsBehind : ByteArray := prog_13_method_60_code
def yX11_doorsBehind : MethodName := ⟨RX11, "doorsBehind", "(II)I"⟩
abbrev cX11_goes : ByteArray := prog_13_method_61_code
def yX11_goes : MethodName := ⟨RX11, "goes", "(IIII)I"⟩
abbrev cX11_barred : ByteArray := prog_13_method_62_code
def yX11_barred : MethodName := ⟨RX11, "barred", "(II)I"⟩
abbrev cX11_isSet : ByteArray := prog_13_method_63_code
def yX11_isSet : MethodName := ⟨RX11, "isSet", "(II)Z"⟩
abbrev cX11_setBehind : ByteArray := prog_13_method_64_code
def yX11_setBehind : MethodName := ⟨RX11, "setBehind", "(IIII)I"⟩
abbrev cX11_together : ByteArray := prog_13_method_65_code
def yX11_together : MethodName := ⟨RX11, "together", "(II)I"⟩
abbrev cX11_call : ByteArray := prog_13_method_66_code
def yX11_call : MethodName := ⟨RX11, "call", "(I)I"⟩
abbrev cX11_tear : ByteArray := prog_13_method_67_code
def yX11_tear : MethodName := ⟨RX11, "tear", "()I"⟩
abbrev cX11_calls : ByteArray := prog_13_method_68_code
def yX11_calls : MethodName := ⟨RX11, "calls", "(III)Z"⟩
abbrev cX11_after : ByteArray := prog_13_method_69_code
def yX11_after : MethodName := ⟨RX11, "after", "(III)I"⟩
abbrev cX11_open : ByteArray := prog_13_method_70_code
def yX11_open : MethodName := ⟨RX11, "open", "(I)I"⟩
abbrev cX11_behind : ByteArray := prog_13_method_71_code
def yX11_behind : MethodName := ⟨RX11, "behind", "(III)I"⟩
abbrev cX11_isGoal : ByteArray := prog_13_method_72_code
def yX11_isGoal : MethodName := ⟨RX11, "isGoal", "(III)Z"⟩
abbrev cX11_spreads : ByteArray := prog_13_method_73_code
def yX11_spreads : MethodName := ⟨RX11, "spreads", "(IIII)V"⟩
abbrev cX11_added : ByteArray := prog_13_method_74_code
def yX11_added : MethodName := ⟨RX11, "added", "(II)I"⟩
abbrev cX11_isTo : ByteArray := prog_13_method_75_code
def yX11_isTo : MethodName := ⟨RX11, "isTo", "(I)Z"⟩
abbrev cX11_fewest : ByteArray := prog_13_method_76_code
def yX11_fewest : MethodName := ⟨RX11, "fewest", "(III)I"⟩
abbrev cX11_ways : ByteArray := prog_13_method_77_code
def yX11_ways : MethodName := ⟨RX11, "ways", "(III)I"⟩
abbrev cX11_spell : ByteArray := prog_13_method_78_code
def yX11_spell : MethodName := ⟨RX11, "spell", "(IIII)I"⟩
abbrev cX11_spells : ByteArray := prog_13_method_79_code
def yX11_spells : MethodName := ⟨RX11, "spells", "(II)V"⟩
abbrev cX11_leads : ByteArray := prog_13_method_80_code
def yX11_leads : MethodName := ⟨RX11, "leads", "(III)Z"⟩
abbrev cX11_without : ByteArray := prog_13_method_81_code
def yX11_without : MethodName := ⟨RX11, "without", "(III)I"⟩
abbrev cX11_spare : ByteArray := prog_13_method_82_code
def yX11_spare : MethodName := ⟨RX11, "spare", "(II)I"⟩
abbrev cX11_cycle : ByteArray := prog_13_method_83_code
def yX11_cycle : MethodName := ⟨RX11, "cycle", "(III)I"⟩
abbrev cX11_trace : ByteArray := prog_13_method_84_code
def yX11_trace : MethodName := ⟨RX11, "trace", "(III)I"⟩
abbrev cX11_stands : ByteArray := prog_13_method_85_code
def yX11_stands : MethodName := ⟨RX11, "stands", "(II)I"⟩
abbrev cX11_pairOf : ByteArray := prog_13_method_86_code
def yX11_pairOf : MethodName := ⟨RX11, "pairOf", "(IIII)I"⟩
abbrev cX11_pair : ByteArray := prog_13_method_87_code
def yX11_pair : MethodName := ⟨RX11, "pair", "(III)I"⟩
abbrev cX11_which : ByteArray := prog_13_method_88_code
def yX11_which : MethodName := ⟨RX11, "which", "(III)I"⟩
abbrev cX11_farthest : ByteArray := prog_13_method_89_code
def yX11_farthest : MethodName := ⟨RX11, "farthest", "(I)I"⟩
abbrev cX11_bar : ByteArray := prog_13_method_90_code
def yX11_bar : MethodName := ⟨RX11, "bar", "(I)I"⟩
abbrev cX11_plod : ByteArray := prog_13_method_91_code
def yX11_plod : MethodName := ⟨RX11, "plod", "(II)I"⟩
abbrev cX11_sightBehind : ByteArray := prog_13_method_92_code
def yX11_sightBehind : MethodName := ⟨RX11, "sightBehind", "(II)I"⟩
abbrev cX11_sights : ByteArray := prog_13_method_93_code
def yX11_sights : MethodName := ⟨RX11, "sights", "()V"⟩
abbrev cX11_sight : ByteArray := prog_13_method_94_code
def yX11_sight : MethodName := ⟨RX11, "sight", "(I)I"⟩
abbrev cX11_ask : ByteArray := prog_13_method_95_code
def yX11_ask : MethodName := ⟨RX11, "ask", "(I)I"⟩
abbrev cX11_isNumber : ByteArray := prog_13_method_96_code
def yX11_isNumber : MethodName := ⟨RX11, "isNumber", "(I)Z"⟩
abbrev cX11_hold : ByteArray := prog_13_method_97_code
def yX11_hold : MethodName := ⟨RX11, "hold", "(I)I"⟩
abbrev cX11_drop : ByteArray := prog_13_method_98_code
def yX11_drop : MethodName := ⟨RX11, "drop", "(I)I"⟩
abbrev cX11_held : ByteArray := prog_13_method_99_code
def yX11_held : MethodName := ⟨RX11, "held", "(I)I"⟩
abbrev cX11_below : ByteArray := prog_13_method_100_code
def yX11_below : MethodName := ⟨RX11, "below", "(I)I"⟩
abbrev cX11_kth : ByteArray := prog_13_method_101_code
def yX11_kth : MethodName := ⟨RX11, "kth", "(I)I"⟩
abbrev cX11_rank : ByteArray := prog_13_method_102_code
def yX11_rank : MethodName := ⟨RX11, "rank", "(I)I"⟩
abbrev cX11_about : ByteArray := prog_13_method_103_code
def yX11_about : MethodName := ⟨RX11, "about", "(II)I"⟩
abbrev cX11_near : ByteArray := prog_13_method_104_code
def yX11_near : MethodName := ⟨RX11, "near", "(II)I"⟩
abbrev cX11_between : ByteArray := prog_13_method_105_code
def yX11_between : MethodName := ⟨RX11, "between", "(II)I"⟩
abbrev cX11_walker : ByteArray := prog_13_method_106_code
def yX11_walker : MethodName := ⟨RX11, "walker", "(II)I"⟩
abbrev cX11_where : ByteArray := prog_13_method_107_code
def yX11_where : MethodName := ⟨RX11, "where", "(I)I"⟩
abbrev cX11_say : ByteArray := prog_13_method_108_code
def yX11_say : MethodName := ⟨RX11, "say", "(I)I"⟩
abbrev cX11_horn : ByteArray := prog_13_method_109_code
def yX11_horn : MethodName := ⟨RX11, "horn", "(II)I"⟩
abbrev cX11_drawn : ByteArray := prog_13_method_110_code
def yX11_drawn : MethodName := ⟨RX11, "drawn", "(I)I"⟩
abbrev cX11_count : ByteArray := prog_13_method_111_code
def yX11_count : MethodName := ⟨RX11, "count", "(I)I"⟩
abbrev cX11_status : ByteArray := prog_13_method_112_code
def yX11_status : MethodName := ⟨RX11, "status", "()I"⟩
def RJ6 : String := "java/lang/Integer"
abbrev cJ6_highestOneBit_0f7a4 : ByteArray := prog_15_method_45_code
def yJ6_highestOneBit_0f7a4 : MethodName := ⟨RJ6, "highestOneBit", "(I)I"⟩
abbrev cJ6_numberOfLeadingZeros_0f7a4 : ByteArray := prog_15_method_47_code
def yJ6_numberOfLeadingZeros_0f7a4 : MethodName := ⟨RJ6, "numberOfLeadingZeros", "(I)I"⟩
abbrev cJ6_numberOfTrailingZeros_0f7a4 : ByteArray := prog_15_method_48_code
def yJ6_numberOfTrailingZeros_0f7a4 : MethodName := ⟨RJ6, "numberOfTrailingZeros", "(I)I"⟩
abbrev cJ6_bitCount_0f7a4 : ByteArray := prog_15_method_49_code
def yJ6_bitCount_0f7a4 : MethodName := ⟨RJ6, "bitCount", "(I)I"⟩
def RJ9 : String := "java/lang/Math"
abbrev cJ9_max_7cf53 : ByteArray := prog_16_method_65_code
def yJ9_max_7cf53 : MethodName := ⟨RJ9, "max", "(II)I"⟩
abbrev cJ9_min_7cf53 : ByteArray := prog_16_method_69_code
def yJ9_min_7cf53 : MethodName := ⟨RJ9, "min", "(II)I"⟩
def RJ0 : String := "java/lang/String"
abbrev cJ0_length_8abf5 : ByteArray := prog_18_method_54_code
def yJ0_length_8abf5 : MethodName := ⟨RJ0, "length", "()I"⟩
abbrev cJ0_charAt_5068e : ByteArray := prog_18_method_56_code
def yJ0_charAt_5068e : MethodName := ⟨RJ0, "charAt", "(I)C"⟩
abbrev cJ0_coder_7d493 : ByteArray := prog_18_method_152_code
def yJ0_coder_7d493 : MethodName := ⟨RJ0, "coder", "()B"⟩
abbrev cJ0_isLatin1_aae02 : ByteArray := prog_18_method_154_code
def yJ0_isLatin1_aae02 : MethodName := ⟨RJ0, "isLatin1", "()Z"⟩
abbrev cJ0_checkIndex_df160 : ByteArray := prog_18_method_155_code
def yJ0_checkIndex_df160 : MethodName := ⟨RJ0, "checkIndex", "(II)V"⟩
def RJ1 : String := "java/lang/StringLatin1"
abbrev cJ1_charAt_3b067 : ByteArray := prog_19_method_2_code
def yJ1_charAt_3b067 : MethodName := ⟨RJ1, "charAt", "([BI)C"⟩
def RJ2 : String := "java/lang/StringUTF16"
abbrev cJ2_getChar_3b067 : ByteArray := prog_20_method_5_code
def yJ2_getChar_3b067 : MethodName := ⟨RJ2, "getChar", "([BI)C"⟩
abbrev cJ2_length_9d52b : ByteArray := prog_20_method_6_code
def yJ2_length_9d52b : MethodName := ⟨RJ2, "length", "([B)I"⟩
abbrev cJ2_charAt_3b067 : ByteArray := prog_20_method_83_code
def yJ2_charAt_3b067 : MethodName := ⟨RJ2, "charAt", "([BI)C"⟩
abbrev cJ2_checkIndex_2214a : ByteArray := prog_20_method_91_code
def yJ2_checkIndex_2214a : MethodName := ⟨RJ2, "checkIndex", "(I[B)V"⟩
def RJ10 : String := "java/lang/System"
def RJ7 : String := "java/util/Arrays"
abbrev cJ7_fill_53178 : ByteArray := prog_22_method_103_code
def yJ7_fill_53178 : MethodName := ⟨RJ7, "fill", "([II)V"⟩
abbrev cJ7_copyOf_59c91 : ByteArray := prog_22_method_123_code
def yJ7_copyOf_59c91 : MethodName := ⟨RJ7, "copyOf", "([II)[I"⟩
def RJ3 : String := "jdk/internal/util/Preconditions"
abbrev cJ3_checkIndex_8e157 : ByteArray := prog_23_method_11_code
def yJ3_checkIndex_8e157 : MethodName := ⟨RJ3, "checkIndex", "(IILjava/util/function/BiFunction;)I"⟩
def RL : String := "HornMazeLaw"
abbrev cL_law : ByteArray := code
def yL_law : MethodName := ⟨RL, "law", "([I)Z"⟩
abbrev vwCl : List vw_C := [(RX0, TX0, 5), (RX1, TX1, 3), (RX2, TX2, 5), (RX3, TX3, 15), (RX4, TX4, 17), (RX5, TX5, 7), (RX6, TX6, 14), (RX7, TX7, 4), (RX8, TX8, 2), (RX9, TX9, 5), (RX10, TX10, 15), (RX11, TX11, 43)]
theorem iX0 : ∀ w ∈ u_ws RX0 TX0 5, w ∈ lw_tbl := by decide +kernel
theorem iX1 : ∀ w ∈ u_ws RX1 TX1 3, w ∈ lw_tbl := by decide +kernel
theorem iX2 : ∀ w ∈ u_ws RX2 TX2 5, w ∈ lw_tbl := by decide +kernel
theorem iX3 : ∀ w ∈ u_ws RX3 TX3 15, w ∈ lw_tbl := by decide +kernel
theorem iX4 : ∀ w ∈ u_ws RX4 TX4 17, w ∈ lw_tbl := by decide +kernel
theorem iX5 : ∀ w ∈ u_ws RX5 TX5 7, w ∈ lw_tbl := by decide +kernel
theorem iX6 : ∀ w ∈ u_ws RX6 TX6 14, w ∈ lw_tbl := by decide +kernel
theorem iX7 : ∀ w ∈ u_ws RX7 TX7 4, w ∈ lw_tbl := by decide +kernel
theorem iX8 : ∀ w ∈ u_ws RX8 TX8 2, w ∈ lw_tbl := by decide +kernel
theorem iX9 : ∀ w ∈ u_ws RX9 TX9 5, w ∈ lw_tbl := by decide +kernel
theorem iX10 : ∀ w ∈ u_ws RX10 TX10 15, w ∈ lw_tbl := by decide +kernel
theorem iX11 : ∀ w ∈ u_ws RX11 TX11 43, w ∈ lw_tbl := by decide +kernel
theorem instX : ∀ q ∈ vwCl, Cond.instantiable q.1 q.2.2 ∈ lw_tbl ∧ Cond.initialized q.1 ∈ lw_tbl := by decide +kernel
