section
-- ===== PART A: goes FIRST, ahead of the names: the tables' words, and 'selects' of the private methods out of them =====
/-- a private method of a class that the tables say can be made, by its rows of tables_1 -/
def lw_okq (q : MethodName × Nat) : Prop := (q.1.cls ≠ "java/lang/invoke/MethodHandle" ∧ q.1.cls ≠ "java/lang/invoke/VarHandle") ∧ Cond.instantiable q.1.cls q.2 ∈ tables_1 ∧ Cond.privateMethod q.1 ∈ tables_1 ∧ Cond.instanceMethod q.1 ∈ tables_1
theorem lw_p0 : lw_okq (⟨"Clueyard$Square", "canStand", "(LClueyard$Words;II)Z"⟩, 5) := ⟨⟨by decide +kernel, by decide +kernel⟩, List.mem_of_getElem? (i := 74) (by decide +kernel), List.mem_of_getElem? (i := 297) (by decide +kernel), List.mem_of_getElem? (i := 298) (by decide +kernel)⟩
theorem lw_p1 : lw_okq (⟨"Clueyard$Square", "agreesWithFixed", "(LClueyard$Words;I)Z"⟩, 5) := ⟨⟨by decide +kernel, by decide +kernel⟩, List.mem_of_getElem? (i := 74) (by decide +kernel), List.mem_of_getElem? (i := 301) (by decide +kernel), List.mem_of_getElem? (i := 302) (by decide +kernel)⟩
theorem lw_p2 : lw_okq (⟨"Clueyard$Square", "weightOfSquare", "(LClueyard$Words;)I"⟩, 5) := ⟨⟨by decide +kernel, by decide +kernel⟩, List.mem_of_getElem? (i := 74) (by decide +kernel), List.mem_of_getElem? (i := 313) (by decide +kernel), List.mem_of_getElem? (i := 314) (by decide +kernel)⟩
theorem lw_p3 : lw_okq (⟨"Clueyard$Square", "keep", "(I)V"⟩, 5) := ⟨⟨by decide +kernel, by decide +kernel⟩, List.mem_of_getElem? (i := 74) (by decide +kernel), List.mem_of_getElem? (i := 325) (by decide +kernel), List.mem_of_getElem? (i := 326) (by decide +kernel)⟩
theorem lw_p4 : lw_okq (⟨"Clueyard$Square", "weightIfFill", "(LClueyard$Words;)I"⟩, 5) := ⟨⟨by decide +kernel, by decide +kernel⟩, List.mem_of_getElem? (i := 74) (by decide +kernel), List.mem_of_getElem? (i := 341) (by decide +kernel), List.mem_of_getElem? (i := 342) (by decide +kernel)⟩
theorem lw_p5 : lw_okq (⟨"Clueyard", "rank", "(I)I"⟩, 12) := ⟨⟨by decide +kernel, by decide +kernel⟩, List.mem_of_getElem? (i := 21) (by decide +kernel), List.mem_of_getElem? (i := 364) (by decide +kernel), List.mem_of_getElem? (i := 365) (by decide +kernel)⟩
theorem lw_p6 : lw_okq (⟨"Clueyard", "isAhead", "(II)Z"⟩, 12) := ⟨⟨by decide +kernel, by decide +kernel⟩, List.mem_of_getElem? (i := 21) (by decide +kernel), List.mem_of_getElem? (i := 368) (by decide +kernel), List.mem_of_getElem? (i := 369) (by decide +kernel)⟩
theorem lw_p7 : lw_okq (⟨"Clueyard", "keptStreak", "(I)I"⟩, 12) := ⟨⟨by decide +kernel, by decide +kernel⟩, List.mem_of_getElem? (i := 21) (by decide +kernel), List.mem_of_getElem? (i := 372) (by decide +kernel), List.mem_of_getElem? (i := 373) (by decide +kernel)⟩
theorem lw_p8 : lw_okq (⟨"Clueyard$Progress", "dayIndex", "(I)I"⟩, 3) := ⟨⟨by decide +kernel, by decide +kernel⟩, List.mem_of_getElem? (i := 145) (by decide +kernel), List.mem_of_getElem? (i := 384) (by decide +kernel), List.mem_of_getElem? (i := 385) (by decide +kernel)⟩
theorem lw_p9 : lw_okq (⟨"java/lang/Throwable", "fillInStackTrace", "(I)Ljava/lang/Throwable;"⟩, 6) := ⟨⟨by decide +kernel, by decide +kernel⟩, List.mem_of_getElem? (i := 446) (by decide +kernel), List.mem_of_getElem? (i := 444) (by decide +kernel), List.mem_of_getElem? (i := 445) (by decide +kernel)⟩
theorem lw_p10 : lw_okq (⟨"Clueyard", "needRoomForLetter", "()V"⟩, 12) := ⟨⟨by decide +kernel, by decide +kernel⟩, List.mem_of_getElem? (i := 21) (by decide +kernel), List.mem_of_getElem? (i := 476) (by decide +kernel), List.mem_of_getElem? (i := 477) (by decide +kernel)⟩
theorem lw_p11 : lw_okq (⟨"Clueyard$Words", "putInOrder", "(I)V"⟩, 7) := ⟨⟨by decide +kernel, by decide +kernel⟩, List.mem_of_getElem? (i := 43) (by decide +kernel), List.mem_of_getElem? (i := 587) (by decide +kernel), List.mem_of_getElem? (i := 588) (by decide +kernel)⟩
theorem lw_p12 : lw_okq (⟨"Clueyard", "mayPublishToday", "()Z"⟩, 12) := ⟨⟨by decide +kernel, by decide +kernel⟩, List.mem_of_getElem? (i := 21) (by decide +kernel), List.mem_of_getElem? (i := 688) (by decide +kernel), List.mem_of_getElem? (i := 689) (by decide +kernel)⟩
theorem lw_p13 : lw_okq (⟨"Clueyard", "today", "()I"⟩, 12) := ⟨⟨by decide +kernel, by decide +kernel⟩, List.mem_of_getElem? (i := 21) (by decide +kernel), List.mem_of_getElem? (i := 696) (by decide +kernel), List.mem_of_getElem? (i := 697) (by decide +kernel)⟩
theorem lw_p14 : lw_okq (⟨"Clueyard", "findClues", "()Z"⟩, 12) := ⟨⟨by decide +kernel, by decide +kernel⟩, List.mem_of_getElem? (i := 21) (by decide +kernel), List.mem_of_getElem? (i := 700) (by decide +kernel), List.mem_of_getElem? (i := 701) (by decide +kernel)⟩
theorem lw_p15 : lw_okq (⟨"Clueyard$Clues", "canBeUsed", "(II)Z"⟩, 5) := ⟨⟨by decide +kernel, by decide +kernel⟩, List.mem_of_getElem? (i := 97) (by decide +kernel), List.mem_of_getElem? (i := 712) (by decide +kernel), List.mem_of_getElem? (i := 713) (by decide +kernel)⟩
def lw_privs_1 : List (MethodName × Nat) := [(⟨"Clueyard$Square", "canStand", "(LClueyard$Words;II)Z"⟩, 5), (⟨"Clueyard$Square", "agreesWithFixed", "(LClueyard$Words;I)Z"⟩, 5), (⟨"Clueyard$Square", "weightOfSquare", "(LClueyard$Words;)I"⟩, 5), (⟨"Clueyard$Square", "keep", "(I)V"⟩, 5), (⟨"Clueyard$Square", "weightIfFill", "(LClueyard$Words;)I"⟩, 5), (⟨"Clueyard", "rank", "(I)I"⟩, 12), (⟨"Clueyard", "isAhead", "(II)Z"⟩, 12), (⟨"Clueyard", "keptStreak", "(I)I"⟩, 12), (⟨"Clueyard$Progress", "dayIndex", "(I)I"⟩, 3), (⟨"java/lang/Throwable", "fillInStackTrace", "(I)Ljava/lang/Throwable;"⟩, 6), (⟨"Clueyard", "needRoomForLetter", "()V"⟩, 12), (⟨"Clueyard$Words", "putInOrder", "(I)V"⟩, 7), (⟨"Clueyard", "mayPublishToday", "()Z"⟩, 12), (⟨"Clueyard", "today", "()I"⟩, 12), (⟨"Clueyard", "findClues", "()Z"⟩, 12), (⟨"Clueyard$Clues", "canBeUsed", "(II)Z"⟩, 5)]
theorem lw_r1 : ∀ q ∈ lw_privs_1, lw_okq q := List.forall_mem_cons.mpr ⟨lw_p0, List.forall_mem_cons.mpr ⟨lw_p1, List.forall_mem_cons.mpr ⟨lw_p2, List.forall_mem_cons.mpr ⟨lw_p3, List.forall_mem_cons.mpr ⟨lw_p4, List.forall_mem_cons.mpr ⟨lw_p5, List.forall_mem_cons.mpr ⟨lw_p6, List.forall_mem_cons.mpr ⟨lw_p7, List.forall_mem_cons.mpr ⟨lw_p8, List.forall_mem_cons.mpr ⟨lw_p9, List.forall_mem_cons.mpr ⟨lw_p10, List.forall_mem_cons.mpr ⟨lw_p11, List.forall_mem_cons.mpr ⟨lw_p12, List.forall_mem_cons.mpr ⟨lw_p13, List.forall_mem_cons.mpr ⟨lw_p14, List.forall_mem_cons.mpr ⟨lw_p15, fun _ h => absurd h List.not_mem_nil⟩⟩⟩⟩⟩⟩⟩⟩⟩⟩⟩⟩⟩⟩⟩⟩
theorem lw_p16 : lw_okq (⟨"Clueyard$Clues", "isChosenAhead", "(II)Z"⟩, 5) := ⟨⟨by decide +kernel, by decide +kernel⟩, List.mem_of_getElem? (i := 97) (by decide +kernel), List.mem_of_getElem? (i := 717) (by decide +kernel), List.mem_of_getElem? (i := 718) (by decide +kernel)⟩
theorem lw_p17 : lw_okq (⟨"Clueyard", "needCellOf", "(III)V"⟩, 12) := ⟨⟨by decide +kernel, by decide +kernel⟩, List.mem_of_getElem? (i := 21) (by decide +kernel), List.mem_of_getElem? (i := 777) (by decide +kernel), List.mem_of_getElem? (i := 778) (by decide +kernel)⟩
theorem lw_p18 : lw_okq (⟨"Clueyard", "needUnfinished", "(III)V"⟩, 12) := ⟨⟨by decide +kernel, by decide +kernel⟩, List.mem_of_getElem? (i := 21) (by decide +kernel), List.mem_of_getElem? (i := 781) (by decide +kernel), List.mem_of_getElem? (i := 782) (by decide +kernel)⟩
theorem lw_p19 : lw_okq (⟨"Clueyard", "becomeRight", "(III)V"⟩, 12) := ⟨⟨by decide +kernel, by decide +kernel⟩, List.mem_of_getElem? (i := 21) (by decide +kernel), List.mem_of_getElem? (i := 798) (by decide +kernel), List.mem_of_getElem? (i := 799) (by decide +kernel)⟩
theorem lw_p20 : lw_okq (⟨"Clueyard", "countIfSolved", "(II)V"⟩, 12) := ⟨⟨by decide +kernel, by decide +kernel⟩, List.mem_of_getElem? (i := 21) (by decide +kernel), List.mem_of_getElem? (i := 810) (by decide +kernel), List.mem_of_getElem? (i := 811) (by decide +kernel)⟩
theorem lw_p21 : lw_okq (⟨"Clueyard$Solver", "cost", "(I)I"⟩, 4) := ⟨⟨by decide +kernel, by decide +kernel⟩, List.mem_of_getElem? (i := 182) (by decide +kernel), List.mem_of_getElem? (i := 839) (by decide +kernel), List.mem_of_getElem? (i := 840) (by decide +kernel)⟩
theorem lw_p22 : lw_okq (⟨"Clueyard", "replay", "(II)V"⟩, 12) := ⟨⟨by decide +kernel, by decide +kernel⟩, List.mem_of_getElem? (i := 21) (by decide +kernel), List.mem_of_getElem? (i := 924) (by decide +kernel), List.mem_of_getElem? (i := 925) (by decide +kernel)⟩
theorem lw_p23 : lw_okq (⟨"ClueyardModel", "canSpell", "(I)Z"⟩, 30) := ⟨⟨by decide +kernel, by decide +kernel⟩, List.mem_of_getElem? (i := 944) (by decide +kernel), List.mem_of_getElem? (i := 1049) (by decide +kernel), List.mem_of_getElem? (i := 1050) (by decide +kernel)⟩
theorem lw_p24 : lw_okq (⟨"ClueyardModel", "chars", "()I"⟩, 30) := ⟨⟨by decide +kernel, by decide +kernel⟩, List.mem_of_getElem? (i := 944) (by decide +kernel), List.mem_of_getElem? (i := 1056) (by decide +kernel), List.mem_of_getElem? (i := 1057) (by decide +kernel)⟩
theorem lw_p25 : lw_okq (⟨"ClueyardModel", "fails", "(I)I"⟩, 30) := ⟨⟨by decide +kernel, by decide +kernel⟩, List.mem_of_getElem? (i := 944) (by decide +kernel), List.mem_of_getElem? (i := 1082) (by decide +kernel), List.mem_of_getElem? (i := 1083) (by decide +kernel)⟩
theorem lw_p26 : lw_okq (⟨"ClueyardModel", "isWord", "(I)Z"⟩, 30) := ⟨⟨by decide +kernel, by decide +kernel⟩, List.mem_of_getElem? (i := 944) (by decide +kernel), List.mem_of_getElem? (i := 1090) (by decide +kernel), List.mem_of_getElem? (i := 1091) (by decide +kernel)⟩
theorem lw_p27 : lw_okq (⟨"ClueyardModel", "orders", "()V"⟩, 30) := ⟨⟨by decide +kernel, by decide +kernel⟩, List.mem_of_getElem? (i := 944) (by decide +kernel), List.mem_of_getElem? (i := 1098) (by decide +kernel), List.mem_of_getElem? (i := 1099) (by decide +kernel)⟩
theorem lw_p28 : lw_okq (⟨"ClueyardModel", "findsFills", "()V"⟩, 30) := ⟨⟨by decide +kernel, by decide +kernel⟩, List.mem_of_getElem? (i := 944) (by decide +kernel), List.mem_of_getElem? (i := 1117) (by decide +kernel), List.mem_of_getElem? (i := 1118) (by decide +kernel)⟩
theorem lw_p29 : lw_okq (⟨"ClueyardModel", "fitsRow", "(II)Z"⟩, 30) := ⟨⟨by decide +kernel, by decide +kernel⟩, List.mem_of_getElem? (i := 944) (by decide +kernel), List.mem_of_getElem? (i := 1121) (by decide +kernel), List.mem_of_getElem? (i := 1122) (by decide +kernel)⟩
theorem lw_p30 : lw_okq (⟨"ClueyardModel", "tries", "(III)V"⟩, 30) := ⟨⟨by decide +kernel, by decide +kernel⟩, List.mem_of_getElem? (i := 944) (by decide +kernel), List.mem_of_getElem? (i := 1125) (by decide +kernel), List.mem_of_getElem? (i := 1126) (by decide +kernel)⟩
theorem lw_p31 : lw_okq (⟨"ClueyardModel", "columnOf", "(IIII)I"⟩, 30) := ⟨⟨by decide +kernel, by decide +kernel⟩, List.mem_of_getElem? (i := 944) (by decide +kernel), List.mem_of_getElem? (i := 1129) (by decide +kernel), List.mem_of_getElem? (i := 1130) (by decide +kernel)⟩
def lw_privs_2 : List (MethodName × Nat) := [(⟨"Clueyard$Clues", "isChosenAhead", "(II)Z"⟩, 5), (⟨"Clueyard", "needCellOf", "(III)V"⟩, 12), (⟨"Clueyard", "needUnfinished", "(III)V"⟩, 12), (⟨"Clueyard", "becomeRight", "(III)V"⟩, 12), (⟨"Clueyard", "countIfSolved", "(II)V"⟩, 12), (⟨"Clueyard$Solver", "cost", "(I)I"⟩, 4), (⟨"Clueyard", "replay", "(II)V"⟩, 12), (⟨"ClueyardModel", "canSpell", "(I)Z"⟩, 30), (⟨"ClueyardModel", "chars", "()I"⟩, 30), (⟨"ClueyardModel", "fails", "(I)I"⟩, 30), (⟨"ClueyardModel", "isWord", "(I)Z"⟩, 30), (⟨"ClueyardModel", "orders", "()V"⟩, 30), (⟨"ClueyardModel", "findsFills", "()V"⟩, 30), (⟨"ClueyardModel", "fitsRow", "(II)Z"⟩, 30), (⟨"ClueyardModel", "tries", "(III)V"⟩, 30), (⟨"ClueyardModel", "columnOf", "(IIII)I"⟩, 30)]
theorem lw_r2 : ∀ q ∈ lw_privs_2, lw_okq q := List.forall_mem_cons.mpr ⟨lw_p16, List.forall_mem_cons.mpr ⟨lw_p17, List.forall_mem_cons.mpr ⟨lw_p18, List.forall_mem_cons.mpr ⟨lw_p19, List.forall_mem_cons.mpr ⟨lw_p20, List.forall_mem_cons.mpr ⟨lw_p21, List.forall_mem_cons.mpr ⟨lw_p22, List.forall_mem_cons.mpr ⟨lw_p23, List.forall_mem_cons.mpr ⟨lw_p24, List.forall_mem_cons.mpr ⟨lw_p25, List.forall_mem_cons.mpr ⟨lw_p26, List.forall_mem_cons.mpr ⟨lw_p27, List.forall_mem_cons.mpr ⟨lw_p28, List.forall_mem_cons.mpr ⟨lw_p29, List.forall_mem_cons.mpr ⟨lw_p30, List.forall_mem_cons.mpr ⟨lw_p31, fun _ h => absurd h List.not_mem_nil⟩⟩⟩⟩⟩⟩⟩⟩⟩⟩⟩⟩⟩⟩⟩⟩
theorem lw_p32 : lw_okq (⟨"ClueyardModel", "isClue", "(I)Z"⟩, 30) := ⟨⟨by decide +kernel, by decide +kernel⟩, List.mem_of_getElem? (i := 944) (by decide +kernel), List.mem_of_getElem? (i := 1154) (by decide +kernel), List.mem_of_getElem? (i := 1155) (by decide +kernel)⟩
theorem lw_p33 : lw_okq (⟨"ClueyardModel", "clueFor", "(II)I"⟩, 30) := ⟨⟨by decide +kernel, by decide +kernel⟩, List.mem_of_getElem? (i := 944) (by decide +kernel), List.mem_of_getElem? (i := 1174) (by decide +kernel), List.mem_of_getElem? (i := 1175) (by decide +kernel)⟩
theorem lw_p34 : lw_okq (⟨"ClueyardModel", "isPuzzle", "(I)Z"⟩, 30) := ⟨⟨by decide +kernel, by decide +kernel⟩, List.mem_of_getElem? (i := 944) (by decide +kernel), List.mem_of_getElem? (i := 1182) (by decide +kernel), List.mem_of_getElem? (i := 1183) (by decide +kernel)⟩
theorem lw_p35 : lw_okq (⟨"ClueyardModel", "isCell", "(III)Z"⟩, 30) := ⟨⟨by decide +kernel, by decide +kernel⟩, List.mem_of_getElem? (i := 944) (by decide +kernel), List.mem_of_getElem? (i := 1194) (by decide +kernel), List.mem_of_getElem? (i := 1195) (by decide +kernel)⟩
theorem lw_p36 : lw_okq (⟨"ClueyardModel", "isSolver", "(I)Z"⟩, 30) := ⟨⟨by decide +kernel, by decide +kernel⟩, List.mem_of_getElem? (i := 944) (by decide +kernel), List.mem_of_getElem? (i := 1198) (by decide +kernel), List.mem_of_getElem? (i := 1199) (by decide +kernel)⟩
theorem lw_p37 : lw_okq (⟨"ClueyardModel", "isOver", "(III)Z"⟩, 30) := ⟨⟨by decide +kernel, by decide +kernel⟩, List.mem_of_getElem? (i := 944) (by decide +kernel), List.mem_of_getElem? (i := 1202) (by decide +kernel), List.mem_of_getElem? (i := 1203) (by decide +kernel)⟩
theorem lw_p38 : lw_okq (⟨"ClueyardModel", "openOf", "(I)I"⟩, 30) := ⟨⟨by decide +kernel, by decide +kernel⟩, List.mem_of_getElem? (i := 944) (by decide +kernel), List.mem_of_getElem? (i := 1206) (by decide +kernel), List.mem_of_getElem? (i := 1207) (by decide +kernel)⟩
theorem lw_p39 : lw_okq (⟨"ClueyardModel", "counts", "(II)V"⟩, 30) := ⟨⟨by decide +kernel, by decide +kernel⟩, List.mem_of_getElem? (i := 944) (by decide +kernel), List.mem_of_getElem? (i := 1210) (by decide +kernel), List.mem_of_getElem? (i := 1211) (by decide +kernel)⟩
theorem lw_p40 : lw_okq (⟨"ClueyardModel", "solved", "(II)I"⟩, 30) := ⟨⟨by decide +kernel, by decide +kernel⟩, List.mem_of_getElem? (i := 944) (by decide +kernel), List.mem_of_getElem? (i := 1214) (by decide +kernel), List.mem_of_getElem? (i := 1215) (by decide +kernel)⟩
theorem lw_p41 : lw_okq (⟨"ClueyardModel", "dayOf", "(II)I"⟩, 30) := ⟨⟨by decide +kernel, by decide +kernel⟩, List.mem_of_getElem? (i := 944) (by decide +kernel), List.mem_of_getElem? (i := 1218) (by decide +kernel), List.mem_of_getElem? (i := 1219) (by decide +kernel)⟩
theorem lw_p42 : lw_okq (⟨"ClueyardModel", "streakOf", "(I)I"⟩, 30) := ⟨⟨by decide +kernel, by decide +kernel⟩, List.mem_of_getElem? (i := 944) (by decide +kernel), List.mem_of_getElem? (i := 1230) (by decide +kernel), List.mem_of_getElem? (i := 1231) (by decide +kernel)⟩
def lw_privs_3 : List (MethodName × Nat) := [(⟨"ClueyardModel", "isClue", "(I)Z"⟩, 30), (⟨"ClueyardModel", "clueFor", "(II)I"⟩, 30), (⟨"ClueyardModel", "isPuzzle", "(I)Z"⟩, 30), (⟨"ClueyardModel", "isCell", "(III)Z"⟩, 30), (⟨"ClueyardModel", "isSolver", "(I)Z"⟩, 30), (⟨"ClueyardModel", "isOver", "(III)Z"⟩, 30), (⟨"ClueyardModel", "openOf", "(I)I"⟩, 30), (⟨"ClueyardModel", "counts", "(II)V"⟩, 30), (⟨"ClueyardModel", "solved", "(II)I"⟩, 30), (⟨"ClueyardModel", "dayOf", "(II)I"⟩, 30), (⟨"ClueyardModel", "streakOf", "(I)I"⟩, 30)]
theorem lw_r3 : ∀ q ∈ lw_privs_3, lw_okq q := List.forall_mem_cons.mpr ⟨lw_p32, List.forall_mem_cons.mpr ⟨lw_p33, List.forall_mem_cons.mpr ⟨lw_p34, List.forall_mem_cons.mpr ⟨lw_p35, List.forall_mem_cons.mpr ⟨lw_p36, List.forall_mem_cons.mpr ⟨lw_p37, List.forall_mem_cons.mpr ⟨lw_p38, List.forall_mem_cons.mpr ⟨lw_p39, List.forall_mem_cons.mpr ⟨lw_p40, List.forall_mem_cons.mpr ⟨lw_p41, List.forall_mem_cons.mpr ⟨lw_p42, fun _ h => absurd h List.not_mem_nil⟩⟩⟩⟩⟩⟩⟩⟩⟩⟩⟩
def lw_privs : List (MethodName × Nat) := lw_privs_1 ++ (lw_privs_2 ++ (lw_privs_3))
def lw_tbl : List Cond := k2_sels lw_privs ++ tables_1
theorem lw_privs_ok : ∀ q ∈ lw_privs, lw_okq q := by
  show ∀ q ∈ lw_privs_1 ++ (lw_privs_2 ++ (lw_privs_3)), lw_okq q
  exact List.forall_mem_append.mpr ⟨lw_r1, List.forall_mem_append.mpr ⟨lw_r2, lw_r3⟩⟩
end
section
/-! ===== BEGIN words of one list among another's, by their places ===== -/
theorem goodIn_r {big : List Cond} (ws : List Cond) (ps : List Nat) (hp : ws = ps.filterMap (fun i => big[i]?)) (h : ws.all goodWord = true) : GoodIn big ws := by
  intro w hw
  have h1 := List.all_eq_true.mp h w hw
  rw [hp] at hw
  obtain ⟨i, -, hi⟩ := List.mem_filterMap.mp hw
  have hm : w ∈ big := by first | exact List.mem_of_getElem? hi | exact List.getElem?_mem hi
  exact ⟨hm, good_of_word h1⟩
theorem goodIn_app {big a b : List Cond} (ha : GoodIn big a) (hb : GoodIn big b) : GoodIn big (a ++ b) := fun w h => (List.mem_append.mp h).elim (ha w) (hb w)
theorem goodIn_ca {big a b : List Cond} {c : Cond} (ha : GoodIn big (c :: a)) (hb : GoodIn big b) : GoodIn big (c :: (a ++ b)) := fun w h => (List.mem_cons.mp h).elim (fun e => ha w (List.mem_cons.mpr (Or.inl e))) (fun h => (List.mem_append.mp h).elim (fun h => ha w (List.mem_cons.mpr (Or.inr h))) (hb w))
theorem goodIn_sub {big ws : List Cond} (hm : ∀ w ∈ ws, w ∈ big) (h : ws.all goodWord = true) : GoodIn big ws := fun w hw => ⟨hm w hw, good_of_word (List.all_eq_true.mp h w hw)⟩
/-! ===== END ===== -/

/-! ===== BEGIN exceptions that leave a method, and their catching by the caller (launches without stack traces) ===== -/
section VXA
/-! The laws vx_back, vx_callV, vx_callS, vx_callSW, vx_throw0, vx_throwS follow proofs of the library, with one case more: JvmDerived/Free/Laws.lean (Back.of_free), Shelf42/LK1.lean (callV, callS), Shelf/KitTraced.lean (throwNew0V, throwNewS). -/
/-- where a method has thrown q: the class by its name, the cell, what was written, the world -/
def vx_T (XC : String → State → State → Prop) (st : State) (q : Addr) (t : State) (mc ms : Nat) (free : Addr → Prop) : Prop :=
  ∃ (E : String) (ce : Cell) (L : List Loc), XC E st t ∧ t.heap[q]? = some ce ∧ ce.vm = .none ∧ st.vm.findClass E = some ce.cls ∧ st.WarmedH t.vm ∧ st.sameButNew ({ t with vm := st.vm } : State) L mc ms ∧ ∀ z ∈ L, free z.base
def vx_Q (Qc : Array Value → State → Outcome → State → Prop) (XC : String → State → State → Prop) (mc ms : Nat) (free : Addr → Prop) : Array Value → State → Outcome → State → Prop := fun a st o t =>
  (Qc a st o t ∧ ∃ L, FrameEnd st o t L mc ms ∧ ∀ q ∈ L, free q.base) ∨ ∃ q, o = .threw q ∧ vx_T XC st q t mc ms free
/-- a callee that returns or throws -/
def vx_Met (l : Launch) (y : MethodName) (ws : List Cond) (rm : Room) (Pc : Array Value → State → Prop) (Qc : Array Value → State → Outcome → State → Prop) (XC : String → State → State → Prop) (mc ms : Nat) (free : Addr → Prop) : Prop :=
  MetFree l y (headSpec ws rm) Pc (fun _ _ _ _ _ => True) (vx_Q Qc XC mc ms free)
def vx_Post (XC : String → State → State → Prop) (mc ms : Nat) (free : Addr → Prop) : Pt → Array Value → Addr → Pt → Prop := fun A a q B =>
  ∃ (g : JFrame) (mk : MethodId) (t : State) (L : List Loc) (E : String) (ce : Cell), B.U.heap = t.heap ∧ B.U.vm = t.vm ∧ XC E (A.U.calling g mk a) t ∧ t.heap[q]? = some ce ∧ ce.vm = .none ∧ A.U.vm.findClass E = some ce.cls ∧ B.locs = A.locs ++ L ∧ (∀ z ∈ L, free z.base) ∧ B.cells = A.cells + mc ∧ B.slots = A.slots + ms
def vx_Back (l : Launch) (R : Room) (p : Program) (e : Env) (below : List Frame) (s : State) (sargs : Array Value) (y : MethodName) (len W9 : Nat)
    (Pre : Pt → Array Value → Prop) (Post : Pt → Array Value → Option Value → Pt → Prop) (PostX : Pt → Array Value → Addr → Pt → Prop) : Prop :=
  ∀ (m : MethodId) (meth : Method) (c : Code) (A : Pt) (g : JFrame) (ig : Instr) (mk : MethodId) (a : Array Value),
    Stand p l e R s m sargs below meth c A.U A.locs A.cells A.slots → g.method = m → g.locals.size = c.maxLocals → decode c.code g.pc = .ok (ig, len) →
    2 * g.monitorRoom + (g.stack.map fun v => v.category).sum ≤ W9 → A.U.methodNamed? y = some mk → Pre A a →
    (∃ (v : Option Value) (B : Pt), Stand p l e R s m sargs below meth c B.U B.locs B.cells B.slots ∧ Post A a v B ∧
      Steps p.tables e below (doInvoke e (A.U.setTop g) [] mk a).1 (B.U.setTop { g with pc := g.pc + len, stack := v.toList ++ g.stack })) ∨
    (∃ (q : Addr) (B : Pt), Stand p l e R s m sargs below meth c B.U B.locs B.cells B.slots ∧ PostX A a q B ∧
      Steps p.tables e below (doInvoke e (A.U.setTop g) [] mk a).1 ((B.U.setTop g).pushFrame (.throwing q)))
section Payer
variable {l : Launch} {R : Room} {p : Program} {e : Env} {below : List Frame} {s : State} {sargs : Array Value} {y : MethodName} {len W9 : Nat}
theorem vx_back {ws : List Cond} {rm : Room} {Pc : Array Value → State → Prop} {Qc : Array Value → State → Outcome → State → Prop} {XC : String → State → State → Prop} {mc ms : Nat} {free : Addr → Prop} {bytes : ByteArray} {maxL : Nat} {ret : Option FieldType}
    (hM : vx_Met l y ws rm Pc Qc XC mc ms free) (hblind : FrameBlind Pc) (hrc : rm.cells = mc) (hrs : rm.slots = ms)
    (hframes : rm.frames + 1 ≤ R.frames) (hlocals : W9 + (maxL + 11) + rm.locals ≤ R.locals)
    (hws : ∀ w ∈ ws, ∀ a' U, s.WarmedH U.vm → w.before a' U = true) (hcode : Cond.code y bytes maxL ret ∈ ws) (hinit : ∀ a' U, s.WarmedH U.vm → (Cond.initialized y.cls).before a' U = true) :
    vx_Back l R p e below s sargs y len W9 (PreOf R mc ms Pc) (PostOf Qc mc ms free) (vx_Post XC mc ms free) := by
  intro m meth c A g ig mk a X hg hsize hdg hW hn hp
  have h1 : (headSpec ws rm).pre.before a A.U = true := atoms_intro fun w hw => hws w hw _ _ X.warmed
  have h2 : (Cond.code y bytes maxL ret).before a A.U = true := hws _ hcode _ _ X.warmed
  have h3 : (Cond.initialized y.cls).before a A.U = true := hinit _ _ X.warmed
  have h4 : A.cells + (headSpec ws rm).room.cells ≤ R.cells := by rw [show (headSpec ws rm).room.cells = mc from hrc]; exact hp.1
  have h5 : A.slots + (headSpec ws rm).room.slots ≤ R.slots := by rw [show (headSpec ws rm).room.slots = ms from hrs]; exact hp.2.1
  have hPc : Pc a (A.U.calling g mk a) := hblind _ _ _ _ hp.2.2
  obtain ⟨U, Ls, c0, s0⟩ := A
  dsimp only [Pt.U, Pt.locs, Pt.cells, Pt.slots] at h1 h2 h3 h4 h5 X hn hPc ⊢
  obtain ⟨methY, cY, hmY, hcY, -, hlY, -, -, -, -⟩ := Cond.code_spec hn h2
  obtain ⟨kY, hkY, -⟩ := className_of_methodNamed hn
  have hinitY : kY.init = .initialized := Cond.initialized_spec (findClass_of_methodNamed hn) hkY h3
  have h : At U g.method c below := by rw [hg]; exact X.here
  have hlocals9 : W9 + (maxL + 11) + (headSpec ws rm).room.locals ≤ R.locals := hlocals
  have happ : (headSpec ws rm).appliesLoose y e.platform (U.calling g mk a) = true :=
    Spec.appliesLoose_calling (g := g) h hdg hn hkY hinitY
      (X.room_calling (g := g) (R' := (headSpec ws rm).room) hsize hmY hcY hframes (by rw [hlY]; omega) h4 h5) h1
  obtain ⟨mid, hmid⟩ := h.above
  have hfr : (U.setTop g).frames = (.java g :: mid) ++ below := by rw [State.frames_setTop' g h.top, hmid]; rfl
  obtain ⟨o, s₂, hsteps, -, hend, hq⟩ := Steps.callFree hM p X.admits X.cas X.clock (acts := []) hfr happ hPc trivial
  have hq' : vx_Q Qc XC mc ms free a (U.calling g mk a) o s₂ := hq
  rw [State.frames_setTop' g h.top] at hend
  obtain ⟨g₀, hg0⟩ := Option.isSome_iff_exists.mp h.top
  obtain ⟨r, hr⟩ := State.topJava?_eq_some.mp hg0
  have hr' : (({ U with heap := s₂.heap, slotsUsed := s₂.slotsUsed } : State).setVm s₂.vm).frames = .java g₀ :: r := hr
  rcases hq' with ⟨hqc, L, hfe, hL⟩ | ⟨q, rfl, E, ce, L, hx, hce, hcv, hcl, hW₂, hsm, hL⟩
  · obtain ⟨⟨v, rfl⟩, hW₂, e2, q2, q3, q4, q5, q6⟩ := id hfe
    have e3 : s₂ = ({ (U.calling g mk a).setFrames s₂.frames with heap := s₂.heap, slotsUsed := s₂.slotsUsed } : State).setVm s₂.vm := by
      have : s₂ = ({ s₂ with vm := (U.calling g mk a).vm } : State).setVm s₂.vm := rfl
      rw [e2] at this
      exact this
    obtain ⟨c₂, i₂, len₂, hc₂, hd₂, hf₂⟩ := hend
    have hW' : U.WarmedH s₂.vm := hW₂
    have hcc : c₂ = c := by
      have h1 : s₂.code? g.method = U.code? g.method := by
        rw [State.code?_eq, State.code?_eq, hW'.alike.method?]
      exact Option.some.inj (hc₂.symm.trans (h1.trans h.code))
    subst hcc
    have hlen : len₂ = len := by rw [hdg] at hd₂; cases hd₂; rfl
    subst hlen
    have hs₂ : s₂ = (({ U with heap := s₂.heap, slotsUsed := s₂.slotsUsed } : State).setVm s₂.vm).setTop { g with pc := g.pc + len₂, stack := v.toList ++ g.stack } := by
      refine e3.trans ?_
      rw [hf₂, State.calling_eq h.top, State.setFrames_setFrames, State.setTop_of_frames _ hr', hr]
      rfl
    have hsame : U.sameButNew ({ U with heap := s₂.heap, slotsUsed := s₂.slotsUsed } : State) L mc ms := by
      refine ⟨?_, q2, q3, q4, q5, q6⟩
      obtain ⟨t, ht, -⟩ := State.frames_cons hr
      show ({ U with heap := s₂.heap, slotsUsed := s₂.slotsUsed } : State) = { U.setFrames U.frames with heap := s₂.heap, slotsUsed := s₂.slotsUsed }
      rw [State.setFrames_self ht]
    subst hg
    refine Or.inl ⟨v, ⟨(({ U with heap := s₂.heap, slotsUsed := s₂.slotsUsed } : State).setVm s₂.vm), Ls ++ L, c0 + mc, s0 + ms⟩,
      ⟨X.admits, X.cas, X.clock, X.frames, X.room, X.hears, X.method, X.code, (X.here.setHeapUsed s₂.heap s₂.slotsUsed).setVm hW'.alike, X.tail, State.WarmedH.trans X.warmed hW', X.limits, X.bytes, X.same.trans (hsame.setVm s.vm)⟩,
      ⟨g, mk, s₂, L, rfl, rfl, hqc, rfl, hL, rfl, rfl⟩, ?_⟩
    show Steps p.tables e below _ ((({ U with heap := s₂.heap, slotsUsed := s₂.slotsUsed } : State).setVm s₂.vm).setTop { g with pc := g.pc + len₂, stack := v.toList ++ g.stack })
    rw [← hs₂]
    exact hsteps
  · obtain ⟨e2, q2, q3, q4, q5, q6⟩ := id hsm
    have e3 : s₂ = ({ (U.calling g mk a).setFrames s₂.frames with heap := s₂.heap, slotsUsed := s₂.slotsUsed } : State).setVm s₂.vm := by
      have : s₂ = ({ s₂ with vm := (U.calling g mk a).vm } : State).setVm s₂.vm := rfl
      rw [e2] at this
      exact this
    have hf₂ : s₂.frames = .throwing q :: .java g :: U.frames.tail := hend
    have hW' : U.WarmedH s₂.vm := hW₂
    have hs₂ : s₂ = ((({ U with heap := s₂.heap, slotsUsed := s₂.slotsUsed } : State).setVm s₂.vm).setTop g).pushFrame (.throwing q) := by
      refine e3.trans ?_
      rw [hf₂, State.calling_eq h.top, State.setFrames_setFrames, State.pushFrame, State.frames_setTop _ hr', State.setTop_of_frames _ hr', State.setFrames_setFrames, hr]
      rfl
    have hsame : U.sameButNew ({ U with heap := s₂.heap, slotsUsed := s₂.slotsUsed } : State) L mc ms := by
      refine ⟨?_, q2, q3, q4, q5, q6⟩
      obtain ⟨t, ht, -⟩ := State.frames_cons hr
      show ({ U with heap := s₂.heap, slotsUsed := s₂.slotsUsed } : State) = { U.setFrames U.frames with heap := s₂.heap, slotsUsed := s₂.slotsUsed }
      rw [State.setFrames_self ht]
    subst hg
    refine Or.inr ⟨q, ⟨(({ U with heap := s₂.heap, slotsUsed := s₂.slotsUsed } : State).setVm s₂.vm), Ls ++ L, c0 + mc, s0 + ms⟩,
      ⟨X.admits, X.cas, X.clock, X.frames, X.room, X.hears, X.method, X.code, (X.here.setHeapUsed s₂.heap s₂.slotsUsed).setVm hW'.alike, X.tail, State.WarmedH.trans X.warmed hW', X.limits, X.bytes, X.same.trans (hsame.setVm s.vm)⟩,
      ⟨g, mk, s₂, L, E, ce, rfl, rfl, hx, hce, hcv, hcl, rfl, hL, rfl, rfl⟩, ?_⟩
    show Steps p.tables e below _ (((({ U with heap := s₂.heap, slotsUsed := s₂.slotsUsed } : State).setVm s₂.vm).setTop g).pushFrame (.throwing q))
    rw [← hs₂]
    exact hsteps
end Payer
section Calls
variable {p : Program} {l : Launch} {e : Env} {R : Room} {s : State} {m : MethodId} {args : Array Value} {below : List Frame} {meth : Method} {c : Code} {T : State} {locs : List Loc} {cells slots : Nat}
theorem vx_callV (X : Stand p l e R s m args below meth c T locs cells slots) (hexec : p.tables.exec = Jvm.exec) {own C : String} {index : Nat} {y : MethodName} {bytes : ByteArray} {maxL : Nat} {ret : Option FieldType}
    (hown : s.vm.findClass own = some m.cls) (hlink : (Cond.methodLink own index y).before args s = true) (hinst : (Cond.instanceMethod y).before args s = true) (hsel : (Cond.selects C y y).before args s = true)
    (hcode : (Cond.code y bytes maxL ret).before args s = true) (hy : y.cls ≠ "java/lang/invoke/MethodHandle" ∧ y.cls ≠ "java/lang/invoke/VarHandle")
    {W9 : Nat} {Pre : Pt → Array Value → Prop} {Post : Pt → Array Value → Option Value → Pt → Prop} {PostX : Pt → Array Value → Addr → Pt → Prop} (hK : vx_Back l R p e below s args y 3 W9 Pre Post PostX)
    {b : Addr} {cellB : Cell} (hcell : T.heap[b]? = some cellB) (hobj : cellB.vm.isStatics = false) (hcls : s.vm.findClass C = some cellB.cls)
    {g : JFrame} (hg : g.method = m) (hsize : g.locals.size = c.maxLocals) {argsL rest : List Value} (hlen : ∀ sig, parseMethodDescriptor y.desc = some sig → argsL.length = sig.parameters.length)
    (hstack : g.stack = argsL.reverse ++ .ref b :: rest) (hW : 2 * g.monitorRoom + (rest.map fun v => v.category).sum ≤ W9) (hdg : decode c.code g.pc = .ok (.invokevirtual index, 3))
    (hpre : ∀ vm₁, s.WarmedH vm₁ → Pre ⟨T.setVm vm₁, locs, cells, slots⟩ (Value.ref b :: argsL).toArray) :
    (∃ (v : Option Value) (vm₁ : Vm) (B : Pt), s.WarmedH vm₁ ∧ Stand p l e R s m args below meth c B.U B.locs B.cells B.slots ∧ Post ⟨T.setVm vm₁, locs, cells, slots⟩ (Value.ref b :: argsL).toArray v B ∧
      ∀ target, Steps p.tables e below (B.U.setTop { g with pc := g.pc + 3, stack := v.toList ++ rest }) target → Steps p.tables e below (T.setTop g) target) ∨
    (∃ (q : Addr) (vm₁ : Vm) (B : Pt), s.WarmedH vm₁ ∧ Stand p l e R s m args below meth c B.U B.locs B.cells B.slots ∧ PostX ⟨T.setVm vm₁, locs, cells, slots⟩ (Value.ref b :: argsL).toArray q B ∧
      Steps p.tables e below (T.setTop g) ((B.U.setTop { g with stack := rest }).pushFrame (.throwing q))) := by
  obtain ⟨mk, methM, hnamed, hmethM, hstM, habM⟩ := Cond.instanceMethod_spec hinst
  obtain ⟨methM', cM, hmethM', -, -, -, -, -, -, hsigM⟩ := Cond.code_spec hnamed hcode
  cases hmethM.symm.trans hmethM'
  obtain ⟨c2, r2, m2, q1, q2, q3, q4, kP, hkP, hkPi⟩ := Cond.selects_spec hsel
  cases hcls.symm.trans q1
  cases (State.methodFound?_of_named hnamed hy).symm.trans q2
  cases hnamed.symm.trans q3
  have hselP : selectMethod e.platform s.vm cellB.cls mk = .method mk := by rw [Launch.admits_selectMethod X.admits]; exact q4
  obtain ⟨vm₁, X₁, hstep₁⟩ := X.invokevirtual hexec hown hlink hnamed hmethM hstM hkP hkPi hy (a := b) (cell := cellB) hcell
    (fun z h => by rw [h] at hobj; cases hobj) hselP hmethM habM hkP hkPi (g := g) hg (argsL := argsL) (rest := rest) (hlen _ hsigM) hstack hdg
  rcases hK m meth c ⟨T.setVm vm₁, locs, cells, slots⟩ { g with stack := rest } (.invokevirtual index) mk (Value.ref b :: argsL).toArray X₁ hg hsize hdg hW (X₁.named hnamed) (hpre vm₁ X₁.warmed) with ⟨v, B, X', hpost, hsteps⟩ | ⟨q, B, X', hpost, hsteps⟩
  · exact Or.inl ⟨v, vm₁, B, X₁.warmed, X', hpost, fun target h => hstep₁ _ fun acts => by rw [doInvoke_state]; exact hsteps.trans h⟩
  · exact Or.inr ⟨q, vm₁, B, X₁.warmed, X', hpost, hstep₁ _ fun acts => by rw [doInvoke_state]; exact hsteps⟩
theorem vx_callS (X : Stand p l e R s m args below meth c T locs cells slots) (hexec : p.tables.exec = Jvm.exec) {own : String} {index : Nat} {y : MethodName} {bytes : ByteArray} {maxL : Nat} {ret : Option FieldType}
    (hown : s.vm.findClass own = some m.cls) (hlink : (Cond.methodLink own index y).before args s = true) (hstat : (Cond.static y).before args s = true) (hinit : (Cond.initialized y.cls).before args s = true)
    (hcode : (Cond.code y bytes maxL ret).before args s = true) (hy : y.cls ≠ "java/lang/invoke/MethodHandle" ∧ y.cls ≠ "java/lang/invoke/VarHandle")
    {W9 : Nat} {Pre : Pt → Array Value → Prop} {Post : Pt → Array Value → Option Value → Pt → Prop} {PostX : Pt → Array Value → Addr → Pt → Prop} (hK : vx_Back l R p e below s args y 3 W9 Pre Post PostX)
    {g : JFrame} (hg : g.method = m) (hsize : g.locals.size = c.maxLocals) {argsL rest : List Value} (hlen : ∀ sig, parseMethodDescriptor y.desc = some sig → argsL.length = sig.parameters.length)
    (hstack : g.stack = argsL.reverse ++ rest) (hW : 2 * g.monitorRoom + (rest.map fun v => v.category).sum ≤ W9) (hdg : decode c.code g.pc = .ok (.invokestatic index, 3))
    (hpre : ∀ vm₁, s.WarmedH vm₁ → Pre ⟨T.setVm vm₁, locs, cells, slots⟩ argsL.toArray) :
    (∃ (v : Option Value) (vm₁ : Vm) (B : Pt), s.WarmedH vm₁ ∧ Stand p l e R s m args below meth c B.U B.locs B.cells B.slots ∧ Post ⟨T.setVm vm₁, locs, cells, slots⟩ argsL.toArray v B ∧
      ∀ target, Steps p.tables e below (B.U.setTop { g with pc := g.pc + 3, stack := v.toList ++ rest }) target → Steps p.tables e below (T.setTop g) target) ∨
    (∃ (q : Addr) (vm₁ : Vm) (B : Pt), s.WarmedH vm₁ ∧ Stand p l e R s m args below meth c B.U B.locs B.cells B.slots ∧ PostX ⟨T.setVm vm₁, locs, cells, slots⟩ argsL.toArray q B ∧
      Steps p.tables e below (T.setTop g) ((B.U.setTop { g with stack := rest }).pushFrame (.throwing q))) := by
  obtain ⟨mk, hnamed⟩ := Cond.code_named hcode
  obtain ⟨methM, cM, hmethM, -, -, -, -, -, -, hsigM⟩ := Cond.code_spec hnamed hcode
  have hstatic : methM.isStatic = true := Cond.static_spec hnamed hmethM hstat
  obtain ⟨kP, hkP, -⟩ := className_of_methodNamed hnamed
  have hinitP : kP.init = .initialized := Cond.initialized_spec (findClass_of_methodNamed hnamed) hkP hinit
  obtain ⟨vm₁, X₁, hstep₁⟩ := X.invokestatic hexec hown hlink hnamed hmethM hstatic hkP hinitP hy (g := g) hg (argsL := argsL) (rest := rest) (hlen _ hsigM) hstack hdg
  rcases hK m meth c ⟨T.setVm vm₁, locs, cells, slots⟩ { g with stack := rest } (.invokestatic index) mk argsL.toArray X₁ hg hsize hdg hW (X₁.named hnamed) (hpre vm₁ X₁.warmed) with ⟨v, B, X', hpost, hsteps⟩ | ⟨q, B, X', hpost, hsteps⟩
  · exact Or.inl ⟨v, vm₁, B, X₁.warmed, X', hpost, fun target h => hstep₁ _ fun acts => by rw [doInvoke_state]; exact hsteps.trans h⟩
  · exact Or.inr ⟨q, vm₁, B, X₁.warmed, X', hpost, hstep₁ _ fun acts => by rw [doInvoke_state]; exact hsteps⟩
end Calls
theorem vx_cls {s : State} {T : State} {vm₁ : Vm} {E : String} {k : ClassId} (hW : s.WarmedH vm₁) (h : (T.setVm vm₁).vm.findClass E = some k) : s.vm.findClass E = some k := by
  have h1 : vm₁.findClass E = some k := h
  rw [hW.alike.findClass] at h1
  exact h1
/-- the method's frame g, with q thrown over it -/
def vx_W (p : Program) (l : Launch) (e : Env) (R : Room) (s : State) (m : MethodId) (args : Array Value) (below : List Frame) (meth : Method) (c : Code) (H : Heap) (locs : List Loc) (cells slots : Nat) (Q : State → Prop) (g : JFrame) (q : Addr) : Prop :=
  ∀ T : State, T.heap = H → Stand p l e R s m args below meth c T locs cells slots → ∃ t, Steps p.tables e below ((T.setTop g).pushFrame (.throwing q)) t ∧ Q t
def vx_Run (p : Program) (l : Launch) (e : Env) (R : Room) (s : State) (m : MethodId) (args : Array Value) (below : List Frame) (meth : Method) (c : Code) (H : Heap) (locs : List Loc) (cells slots mc ms : Nat) (g : JFrame) (rest : List Value) (Qa : State → Outcome → State → Prop) (XC : String → State → State → Prop) (free : Addr → Prop) : Prop :=
  ∀ T : State, T.heap = H → Stand p l e R s m args below meth c T locs cells slots →
    (∃ (v : Option Value) (st₀ t T' : State) (L : List Loc), st₀.heap = H ∧ Stand p l e R s m args below meth c T' (locs ++ L) (cells + mc) (slots + ms) ∧ (∀ q ∈ L, free q.base) ∧ T'.heap = t.heap ∧ T'.vm = t.vm ∧ Qa st₀ (.returned v) t ∧
      Goes p e below T g T' { g with pc := g.pc + 3, stack := v.toList ++ rest }) ∨
    (∃ (q : Addr) (st₀ t T' : State) (L : List Loc) (E : String) (ce : Cell), st₀.heap = H ∧ Stand p l e R s m args below meth c T' (locs ++ L) (cells + mc) (slots + ms) ∧ (∀ z ∈ L, free z.base) ∧ T'.heap = t.heap ∧ T'.vm = t.vm ∧ XC E st₀ t ∧ t.heap[q]? = some ce ∧ ce.vm = .none ∧ s.vm.findClass E = some ce.cls ∧
      Steps p.tables e below (T.setTop g) ((T'.setTop { g with stack := rest }).pushFrame (.throwing q)))
def vx_X {S : Type} (px : S → Prop) (B : String → S → State → Prop) (A : Nat → Prop) : String → State → State → Prop := fun E st t => ∃ u : S, px u ∧ B E u t ∧ va_F A st t
section Runs
variable {p : Program} {l : Launch} {e : Env} {R : Room} {s : State} {m : MethodId} {args : Array Value} {below : List Frame} {meth : Method} {c : Code} {H : Heap} {locs : List Loc} {cells slots : Nat}
variable {y : MethodName} {bytes cc : ByteArray} {maxL nL mc ms n index : Nat} {ret : Option FieldType} {ws : List Cond} {rm : Room} {Pc : Array Value → State → Prop} {Qc : Array Value → State → Outcome → State → Prop} {XC : String → State → State → Prop} {free : Addr → Prop} {Ts : List Cond} {own C : String} {b : Addr} {As rest : List Value} {g : JFrame}
theorem vx_callBack (cb : CallB R s args own index y bytes maxL ret ws rm mc ms n) (hM : vx_Met l y ws rm Pc Qc XC mc ms free) (hbl : FrameBlind Pc) : vx_Back l R p e below s args y 3 8 (PreOf R mc ms Pc) (PostOf Qc mc ms free) (vx_Post XC mc ms free) := by
  obtain ⟨hrc, hrs, hfr, hlo, hws, hcw, -, hini, -⟩ := cb
  exact vx_back (bytes := bytes) (maxL := maxL) (ret := ret) hM hbl hrc hrs hfr hlo hws hcw (fun a' U hW => word_at hW (Or.inl (by first | rfl | simp [Cond.onTables, Cond.keeps, Cond.steady])) hini)
theorem vx_runV (S : CallFix p m c cc nL s args Ts own) (hM : vx_Met l y ws rm Pc Qc XC mc ms free) (cw : CallW R s args own C index y bytes maxL ret ws rm mc ms n) (hp : PreV s H C b Pc As)
    (hg : g.method = m) (hn : As.length = n) (hsize : g.locals.size = nL) (hstack : g.stack = As.reverse ++ .ref b :: rest) (hW : 2 * g.monitorRoom + (rest.map fun v => v.category).sum ≤ 8) (hdg : decode cc g.pc = .ok (.invokevirtual index, 3)) (hf : cells + mc ≤ R.cells ∧ slots + ms ≤ R.slots) :
    vx_Run p l e R s m args below meth c H locs cells slots mc ms g rest (Qc (Value.ref b :: As).toArray) XC free := by
  have hK : vx_Back l R p e below s args y 3 8 (PreOf R mc ms Pc) (PostOf Qc mc ms free) (vx_Post XC mc ms free) := vx_callBack cw.1 hM hp.1
  obtain ⟨⟨-, -, -, -, -, -, hcode, -, hy, hlen, hl⟩, hin, hse⟩ := cw
  obtain ⟨hx, hb, hml, ho, -⟩ := S
  obtain ⟨-, ⟨cellB, hcB, hoB, hclB⟩, hPc⟩ := hp
  intro T hT X
  rcases vx_callV X hx (C := C) (bytes := bytes) (maxL := maxL) (ret := ret) ho hl hin hse hcode hy hK (by rw [hT]; exact hcB) hoB hclB hg (hsize.trans hml.symm) (argsL := As) (rest := rest) (fun sig h => hn.trans (hlen sig h)) hstack hW (by rw [hb]; exact hdg)
    (fun vm₁ hW₁ => ⟨hf.1, hf.2, hPc (T.setVm vm₁) hT hW₁⟩) with ⟨v, vm₁, ⟨U', l2, c2, s2⟩, hW₁, X', ⟨g', mk, t, L, e1, e2, hq, h1, hL, h2, h3⟩, st⟩ | ⟨q, vm₁, ⟨U', l2, c2, s2⟩, hW₁, X', ⟨g', mk, t, L, E, ce, e1, e2, hq, hce, hcv, hcl, h1, hL, h2, h3⟩, st⟩
  · dsimp only [Pt.U, Pt.locs, Pt.cells, Pt.slots] at X' e1 e2 h1 h2 h3 st
    subst h1; subst h2; subst h3
    exact Or.inl ⟨v, (T.setVm vm₁).calling g' mk (Value.ref b :: As).toArray, t, U', L, hT, X', hL, e1, e2, hq, st⟩
  · dsimp only [Pt.U, Pt.locs, Pt.cells, Pt.slots] at X' e1 e2 h1 h2 h3 st hcl
    subst h1; subst h2; subst h3
    exact Or.inr ⟨q, (T.setVm vm₁).calling g' mk (Value.ref b :: As).toArray, t, U', L, E, ce, hT, X', hL, e1, e2, hq, hce, hcv, vx_cls hW₁ hcl, st⟩
theorem vx_runS (S : CallFix p m c cc nL s args Ts own) (hM : vx_Met l y ws rm Pc Qc XC mc ms free) (cw : CallB R s args own index y bytes maxL ret ws rm mc ms n ∧ (Cond.static y).before args s = true) (hp : PreS s H Pc As)
    (hg : g.method = m) (hn : As.length = n) (hsize : g.locals.size = nL) (hstack : g.stack = As.reverse ++ rest) (hW : 2 * g.monitorRoom + (rest.map fun v => v.category).sum ≤ 8) (hdg : decode cc g.pc = .ok (.invokestatic index, 3)) (hf : cells + mc ≤ R.cells ∧ slots + ms ≤ R.slots) :
    vx_Run p l e R s m args below meth c H locs cells slots mc ms g rest (Qc As.toArray) XC free := by
  have hK : vx_Back l R p e below s args y 3 8 (PreOf R mc ms Pc) (PostOf Qc mc ms free) (vx_Post XC mc ms free) := vx_callBack cw.1 hM hp.1
  obtain ⟨⟨-, -, -, -, -, -, hcode, hini, hy, hlen, hl⟩, hstt⟩ := cw
  obtain ⟨hx, hb, hml, ho, -⟩ := S
  intro T hT X
  rcases vx_callS X hx (bytes := bytes) (maxL := maxL) (ret := ret) ho hl hstt hini hcode hy hK hg (hsize.trans hml.symm) (argsL := As) (rest := rest) (fun sig h => hn.trans (hlen sig h)) hstack hW (by rw [hb]; exact hdg)
    (fun vm₁ hW₁ => ⟨hf.1, hf.2, hp.2 (T.setVm vm₁) hT hW₁⟩) with ⟨v, vm₁, ⟨U', l2, c2, s2⟩, hW₁, X', ⟨g', mk, t, L, e1, e2, hq, h1, hL, h2, h3⟩, st⟩ | ⟨q, vm₁, ⟨U', l2, c2, s2⟩, hW₁, X', ⟨g', mk, t, L, E, ce, e1, e2, hq, hce, hcv, hcl, h1, hL, h2, h3⟩, st⟩
  · dsimp only [Pt.U, Pt.locs, Pt.cells, Pt.slots] at X' e1 e2 h1 h2 h3 st
    subst h1; subst h2; subst h3
    exact Or.inl ⟨v, (T.setVm vm₁).calling g' mk As.toArray, t, U', L, hT, X', hL, e1, e2, hq, st⟩
  · dsimp only [Pt.U, Pt.locs, Pt.cells, Pt.slots] at X' e1 e2 h1 h2 h3 st hcl
    subst h1; subst h2; subst h3
    exact Or.inr ⟨q, (T.setVm vm₁).calling g' mk As.toArray, t, U', L, E, ce, hT, X', hL, e1, e2, hq, hce, hcv, vx_cls hW₁ hcl, st⟩
end Runs
section Rows
variable {p : Program} {l : Launch} {e : Env} {R : Room} {s : State} {m : MethodId} {args : Array Value} {below : List Frame} {meth : Method} {c : Code} {H : Heap} {locs : List Loc} {cells slots : Nat} {Q : State → Prop}
variable {mc ms : Nat} {free : Addr → Prop} {A0 A1 : Nat → Prop} {H0 : Heap} {a : Array Value} {pc : Nat} {ls : Array Slot} {st0 rest : List Value}
theorem vx_keep {st₀ t T' : State} {L : List Loc} (h0 : st₀.heap = H) (e1 : T'.heap = t.heap) (hS : va_S A0 H0 H locs) (hA : ∀ q, q < H.size → A1 q → A0 q) (hf : ∀ q, free q → A0 q) (hL : ∀ q ∈ L, free q.base) (hF : va_F A1 st₀ t) :
    H.size ≤ T'.heap.size ∧ (∀ q : Nat, q < H.size → ¬ A1 q → T'.heap[q]? = H[q]?) ∧ va_S A0 H0 T'.heap (locs ++ L) := by
  obtain ⟨hz, hk⟩ := hF
  rw [h0] at hz hk
  exact ⟨by rw [e1]; exact hz, fun q h1 h2 => by rw [e1]; exact hk q h1 h2,
    ⟨Nat.le_trans hS.1 (by rw [e1]; exact hz), fun q h1 h2 => by rw [e1, hk q (Nat.lt_of_lt_of_le h1 hS.1) (fun z => h2 (hA q (Nat.lt_of_lt_of_le h1 hS.1) z))]; exact hS.2.1 q h1 h2, fun q hq => by
      rcases List.mem_append.mp hq with h | h
      · exact hS.2.2 q h
      · exact hf _ (hL q h)⟩⟩
theorem vx_calli {S SX : Type} {post : Int32 → S → Prop} {px : SX → Prop} {B : S → State → Prop} {BX : String → SX → State → Prop} {AX : Nat → Prop} (hr : vx_Run p l e R s m args below meth c H locs cells slots mc ms (F0 m pc ls st0) rest (va_Qi post B A1 a) (vx_X px BX AX) free) (hS : va_S A0 H0 H locs) (hA : ∀ q, q < H.size → A1 q → A0 q) (hf : ∀ q, free q → A0 q) (hAX : ∀ q, q < H.size → AX q → A0 q)
    (kx : ∀ (E : String) (ce : Cell) (q9 : Addr) (u : SX) (t : State) (H1 : Heap) (locs1 : List Loc), t.heap = H1 → s.vm.Alike t.vm → px u → BX E u t → H.size ≤ H1.size → (∀ q : Nat, q < H.size → ¬ AX q → H1[q]? = H[q]?) → va_S A0 H0 H1 locs1 → H1[q9]? = some ce → ce.vm = .none → s.vm.findClass E = some ce.cls → vx_W p l e R s m args below meth c H1 locs1 (cells + mc) (slots + ms) Q (F0 m pc ls rest) q9)
    (kk : ∀ (r : Int32) (u : S) (t : State) (H1 : Heap) (locs1 : List Loc), t.heap = H1 → s.vm.Alike t.vm → post r u → B u t → H.size ≤ H1.size → (∀ q : Nat, q < H.size → ¬ A1 q → H1[q]? = H[q]?) → va_S A0 H0 H1 locs1 → W p l e R s m args below meth c H1 locs1 (cells + mc) (slots + ms) Q (F0 m (pc + 3) ls (.int r :: rest))) : W p l e R s m args below meth c H locs cells slots Q (F0 m pc ls st0) := by
  intro T hT X
  rcases hr T hT X with ⟨v, st₀, t, T', L, h0, X', hL, e1, e2, ⟨⟨r, u, hv, hp, hb⟩, hF⟩, st⟩ | ⟨q, st₀, t, T', L, E, ce, h0, X', hL, e1, e2, ⟨u, hp, hb, hF⟩, hce, hcv, hcl, st⟩
  · cases hv
    obtain ⟨k1, k2, k3⟩ := vx_keep h0 e1 hS hA hf hL hF
    obtain ⟨t2, a1, b1⟩ := kk r u t T'.heap (locs ++ L) e1.symm (by rw [← e2]; exact X'.warmed.alike) hp hb k1 k2 k3 T' rfl X'
    exact ⟨t2, st t2 a1, b1⟩
  · obtain ⟨k1, k2, k3⟩ := vx_keep h0 e1 hS hAX hf hL hF
    obtain ⟨t2, a1, b1⟩ := kx E ce q u t T'.heap (locs ++ L) e1.symm (by rw [← e2]; exact X'.warmed.alike) hp hb k1 k2 k3 (by rw [e1]; exact hce) hcv hcl T' rfl X'
    exact ⟨t2, st.trans a1, b1⟩
theorem vx_calll {S SX : Type} {post : Int64 → S → Prop} {px : SX → Prop} {B : S → State → Prop} {BX : String → SX → State → Prop} {AX : Nat → Prop} (hr : vx_Run p l e R s m args below meth c H locs cells slots mc ms (F0 m pc ls st0) rest (va_Ql post B A1 a) (vx_X px BX AX) free) (hS : va_S A0 H0 H locs) (hA : ∀ q, q < H.size → A1 q → A0 q) (hf : ∀ q, free q → A0 q) (hAX : ∀ q, q < H.size → AX q → A0 q)
    (kx : ∀ (E : String) (ce : Cell) (q9 : Addr) (u : SX) (t : State) (H1 : Heap) (locs1 : List Loc), t.heap = H1 → s.vm.Alike t.vm → px u → BX E u t → H.size ≤ H1.size → (∀ q : Nat, q < H.size → ¬ AX q → H1[q]? = H[q]?) → va_S A0 H0 H1 locs1 → H1[q9]? = some ce → ce.vm = .none → s.vm.findClass E = some ce.cls → vx_W p l e R s m args below meth c H1 locs1 (cells + mc) (slots + ms) Q (F0 m pc ls rest) q9)
    (kk : ∀ (r : Int64) (u : S) (t : State) (H1 : Heap) (locs1 : List Loc), t.heap = H1 → s.vm.Alike t.vm → post r u → B u t → H.size ≤ H1.size → (∀ q : Nat, q < H.size → ¬ A1 q → H1[q]? = H[q]?) → va_S A0 H0 H1 locs1 → W p l e R s m args below meth c H1 locs1 (cells + mc) (slots + ms) Q (F0 m (pc + 3) ls (.long r :: rest))) : W p l e R s m args below meth c H locs cells slots Q (F0 m pc ls st0) := by
  intro T hT X
  rcases hr T hT X with ⟨v, st₀, t, T', L, h0, X', hL, e1, e2, ⟨⟨r, u, hv, hp, hb⟩, hF⟩, st⟩ | ⟨q, st₀, t, T', L, E, ce, h0, X', hL, e1, e2, ⟨u, hp, hb, hF⟩, hce, hcv, hcl, st⟩
  · cases hv
    obtain ⟨k1, k2, k3⟩ := vx_keep h0 e1 hS hA hf hL hF
    obtain ⟨t2, a1, b1⟩ := kk r u t T'.heap (locs ++ L) e1.symm (by rw [← e2]; exact X'.warmed.alike) hp hb k1 k2 k3 T' rfl X'
    exact ⟨t2, st t2 a1, b1⟩
  · obtain ⟨k1, k2, k3⟩ := vx_keep h0 e1 hS hAX hf hL hF
    obtain ⟨t2, a1, b1⟩ := kx E ce q u t T'.heap (locs ++ L) e1.symm (by rw [← e2]; exact X'.warmed.alike) hp hb k1 k2 k3 (by rw [e1]; exact hce) hcv hcl T' rfl X'
    exact ⟨t2, st.trans a1, b1⟩
theorem vx_callf {S SX : Type} {post : UInt32 → S → Prop} {px : SX → Prop} {B : S → State → Prop} {BX : String → SX → State → Prop} {AX : Nat → Prop} (hr : vx_Run p l e R s m args below meth c H locs cells slots mc ms (F0 m pc ls st0) rest (va_Qf post B A1 a) (vx_X px BX AX) free) (hS : va_S A0 H0 H locs) (hA : ∀ q, q < H.size → A1 q → A0 q) (hf : ∀ q, free q → A0 q) (hAX : ∀ q, q < H.size → AX q → A0 q)
    (kx : ∀ (E : String) (ce : Cell) (q9 : Addr) (u : SX) (t : State) (H1 : Heap) (locs1 : List Loc), t.heap = H1 → s.vm.Alike t.vm → px u → BX E u t → H.size ≤ H1.size → (∀ q : Nat, q < H.size → ¬ AX q → H1[q]? = H[q]?) → va_S A0 H0 H1 locs1 → H1[q9]? = some ce → ce.vm = .none → s.vm.findClass E = some ce.cls → vx_W p l e R s m args below meth c H1 locs1 (cells + mc) (slots + ms) Q (F0 m pc ls rest) q9)
    (kk : ∀ (r : UInt32) (u : S) (t : State) (H1 : Heap) (locs1 : List Loc), t.heap = H1 → s.vm.Alike t.vm → post r u → B u t → H.size ≤ H1.size → (∀ q : Nat, q < H.size → ¬ A1 q → H1[q]? = H[q]?) → va_S A0 H0 H1 locs1 → W p l e R s m args below meth c H1 locs1 (cells + mc) (slots + ms) Q (F0 m (pc + 3) ls (.float r :: rest))) : W p l e R s m args below meth c H locs cells slots Q (F0 m pc ls st0) := by
  intro T hT X
  rcases hr T hT X with ⟨v, st₀, t, T', L, h0, X', hL, e1, e2, ⟨⟨r, u, hv, hp, hb⟩, hF⟩, st⟩ | ⟨q, st₀, t, T', L, E, ce, h0, X', hL, e1, e2, ⟨u, hp, hb, hF⟩, hce, hcv, hcl, st⟩
  · cases hv
    obtain ⟨k1, k2, k3⟩ := vx_keep h0 e1 hS hA hf hL hF
    obtain ⟨t2, a1, b1⟩ := kk r u t T'.heap (locs ++ L) e1.symm (by rw [← e2]; exact X'.warmed.alike) hp hb k1 k2 k3 T' rfl X'
    exact ⟨t2, st t2 a1, b1⟩
  · obtain ⟨k1, k2, k3⟩ := vx_keep h0 e1 hS hAX hf hL hF
    obtain ⟨t2, a1, b1⟩ := kx E ce q u t T'.heap (locs ++ L) e1.symm (by rw [← e2]; exact X'.warmed.alike) hp hb k1 k2 k3 (by rw [e1]; exact hce) hcv hcl T' rfl X'
    exact ⟨t2, st.trans a1, b1⟩
theorem vx_calld {S SX : Type} {post : UInt64 → S → Prop} {px : SX → Prop} {B : S → State → Prop} {BX : String → SX → State → Prop} {AX : Nat → Prop} (hr : vx_Run p l e R s m args below meth c H locs cells slots mc ms (F0 m pc ls st0) rest (va_Qd post B A1 a) (vx_X px BX AX) free) (hS : va_S A0 H0 H locs) (hA : ∀ q, q < H.size → A1 q → A0 q) (hf : ∀ q, free q → A0 q) (hAX : ∀ q, q < H.size → AX q → A0 q)
    (kx : ∀ (E : String) (ce : Cell) (q9 : Addr) (u : SX) (t : State) (H1 : Heap) (locs1 : List Loc), t.heap = H1 → s.vm.Alike t.vm → px u → BX E u t → H.size ≤ H1.size → (∀ q : Nat, q < H.size → ¬ AX q → H1[q]? = H[q]?) → va_S A0 H0 H1 locs1 → H1[q9]? = some ce → ce.vm = .none → s.vm.findClass E = some ce.cls → vx_W p l e R s m args below meth c H1 locs1 (cells + mc) (slots + ms) Q (F0 m pc ls rest) q9)
    (kk : ∀ (r : UInt64) (u : S) (t : State) (H1 : Heap) (locs1 : List Loc), t.heap = H1 → s.vm.Alike t.vm → post r u → B u t → H.size ≤ H1.size → (∀ q : Nat, q < H.size → ¬ A1 q → H1[q]? = H[q]?) → va_S A0 H0 H1 locs1 → W p l e R s m args below meth c H1 locs1 (cells + mc) (slots + ms) Q (F0 m (pc + 3) ls (.double r :: rest))) : W p l e R s m args below meth c H locs cells slots Q (F0 m pc ls st0) := by
  intro T hT X
  rcases hr T hT X with ⟨v, st₀, t, T', L, h0, X', hL, e1, e2, ⟨⟨r, u, hv, hp, hb⟩, hF⟩, st⟩ | ⟨q, st₀, t, T', L, E, ce, h0, X', hL, e1, e2, ⟨u, hp, hb, hF⟩, hce, hcv, hcl, st⟩
  · cases hv
    obtain ⟨k1, k2, k3⟩ := vx_keep h0 e1 hS hA hf hL hF
    obtain ⟨t2, a1, b1⟩ := kk r u t T'.heap (locs ++ L) e1.symm (by rw [← e2]; exact X'.warmed.alike) hp hb k1 k2 k3 T' rfl X'
    exact ⟨t2, st t2 a1, b1⟩
  · obtain ⟨k1, k2, k3⟩ := vx_keep h0 e1 hS hAX hf hL hF
    obtain ⟨t2, a1, b1⟩ := kx E ce q u t T'.heap (locs ++ L) e1.symm (by rw [← e2]; exact X'.warmed.alike) hp hb k1 k2 k3 (by rw [e1]; exact hce) hcv hcl T' rfl X'
    exact ⟨t2, st.trans a1, b1⟩
theorem vx_callv {S SX : Type} {post : S → Prop} {px : SX → Prop} {B : S → State → Prop} {BX : String → SX → State → Prop} {AX : Nat → Prop} (hr : vx_Run p l e R s m args below meth c H locs cells slots mc ms (F0 m pc ls st0) rest (va_Qv post B A1 a) (vx_X px BX AX) free) (hS : va_S A0 H0 H locs) (hA : ∀ q, q < H.size → A1 q → A0 q) (hf : ∀ q, free q → A0 q) (hAX : ∀ q, q < H.size → AX q → A0 q)
    (kx : ∀ (E : String) (ce : Cell) (q9 : Addr) (u : SX) (t : State) (H1 : Heap) (locs1 : List Loc), t.heap = H1 → s.vm.Alike t.vm → px u → BX E u t → H.size ≤ H1.size → (∀ q : Nat, q < H.size → ¬ AX q → H1[q]? = H[q]?) → va_S A0 H0 H1 locs1 → H1[q9]? = some ce → ce.vm = .none → s.vm.findClass E = some ce.cls → vx_W p l e R s m args below meth c H1 locs1 (cells + mc) (slots + ms) Q (F0 m pc ls rest) q9)
    (kk : ∀ (u : S) (t : State) (H1 : Heap) (locs1 : List Loc), t.heap = H1 → s.vm.Alike t.vm → post u → B u t → H.size ≤ H1.size → (∀ q : Nat, q < H.size → ¬ A1 q → H1[q]? = H[q]?) → va_S A0 H0 H1 locs1 → W p l e R s m args below meth c H1 locs1 (cells + mc) (slots + ms) Q (F0 m (pc + 3) ls (rest))) : W p l e R s m args below meth c H locs cells slots Q (F0 m pc ls st0) := by
  intro T hT X
  rcases hr T hT X with ⟨v, st₀, t, T', L, h0, X', hL, e1, e2, ⟨⟨u, hv, hp, hb⟩, hF⟩, st⟩ | ⟨q, st₀, t, T', L, E, ce, h0, X', hL, e1, e2, ⟨u, hp, hb, hF⟩, hce, hcv, hcl, st⟩
  · cases hv
    obtain ⟨k1, k2, k3⟩ := vx_keep h0 e1 hS hA hf hL hF
    obtain ⟨t2, a1, b1⟩ := kk u t T'.heap (locs ++ L) e1.symm (by rw [← e2]; exact X'.warmed.alike) hp hb k1 k2 k3 T' rfl X'
    exact ⟨t2, st t2 a1, b1⟩
  · obtain ⟨k1, k2, k3⟩ := vx_keep h0 e1 hS hAX hf hL hF
    obtain ⟨t2, a1, b1⟩ := kx E ce q u t T'.heap (locs ++ L) e1.symm (by rw [← e2]; exact X'.warmed.alike) hp hb k1 k2 k3 (by rw [e1]; exact hce) hcv hcl T' rfl X'
    exact ⟨t2, st.trans a1, b1⟩
/-- caught by the row x of this method's table; the rows ahead don't take it -/
theorem vx_catch {own name : String} {E : String} {ce : Cell} {q : Addr} (hown : s.vm.findClass own = some m.cls) (pre : List ExceptionTableEntry) (x : ExceptionTableEntry) (suf : List ExceptionTableEntry) (hsplit : c.exceptionTable.toList = pre ++ x :: suf)
    (hpass : ∀ z ∈ pre, covers z pc = false ∨ (z.catchType ≠ 0 ∧ ∃ nm : String, (Cond.classLink own z.catchType nm).before args s = true ∧ va_Nc E nm s)) (hx : covers x pc = true) (h0 : x.catchType ≠ 0)
    (hlink : (Cond.classLink own x.catchType name).before args s = true) (hcast : (Cond.castable E name).before args s = true) (hcell : H[q]? = some ce) (hv : ce.vm = .none) (hcl : s.vm.findClass E = some ce.cls)
    (kk : W p l e R s m args below meth c H locs cells slots Q (F0 m x.handlerPc ls [.ref q])) : vx_W p l e R s m args below meth c H locs cells slots Q (F0 m pc ls rest) q := by
  intro T hT X
  have hpl : e.platform.magicAccessors = ({} : Platform).magicAccessors := by rw [X.admits.platform]
  obtain ⟨c3, c4, hc3, hc4, hasg⟩ := Cond.castable_spec hcast
  cases Option.some.inj (hc3.symm.trans hcl)
  obtain ⟨c5, hc5, hcl5⟩ := Cond.classLink_spec hown hlink e.platform hpl
  cases Option.some.inj (hc4.symm.trans hc5)
  obtain ⟨vm', X', st⟩ := X.thenCaughtThrough q (g := F0 m pc ls rest) rfl (Steps.refl _) (by rw [hT]; exact hcell) (by rw [hv]; rfl) (by obtain ⟨k9, h9, -⟩ := Vm.findClass_spec hcl; exact ⟨k9, h9⟩) pre x suf hsplit
    (fun z hz => by
      rcases hpass z hz with h | ⟨hz0, nm, hl1, hn1⟩
      · exact Or.inl h
      · obtain ⟨c6, hc6, hcl6⟩ := Cond.classLink_spec hown hl1 e.platform hpl
        obtain ⟨a8, b8, h1, h2, h3⟩ := hn1
        cases Option.some.inj (h1.symm.trans hcl)
        cases Option.some.inj (h2.symm.trans hc6)
        exact Or.inr ⟨hz0, _, hcl6, h3⟩) hx (Or.inr ⟨h0, c4, hcl5, hasg⟩)
  obtain ⟨t, a1, b1⟩ := kk (T.setVm vm') hT X'
  exact ⟨t, st.trans a1, b1⟩
end Rows
section Ends
variable {p : Program} {l : Launch} {e : Env} {R : Room} {s : State} {m : MethodId} {args : Array Value} {below : List Frame} {meth : Method} {c : Code} {H : Heap} {locs : List Loc} {cells slots : Nat} {Q : State → Prop}
variable {mc ms : Nat} {free : Addr → Prop} {A0 A1 : Nat → Prop} {H0 : Heap} {a : Array Value} {ls : Array Slot} {st0 rest : List Value}
variable {Qc : Array Value → State → Outcome → State → Prop} {XC : String → State → State → Prop}
/-- what a body that may throw owes at its end -/
def vx_MQ (below : List Frame) (Qc : Array Value → State → Outcome → State → Prop) (XC : String → State → State → Prop) (a : Array Value) (s : State) (mc ms : Nat) (free : Addr → Prop) : State → Prop := fun t =>
  ∃ o, t.status = .running ∧ Ended t below o ∧ vx_Q Qc XC mc ms free a s o t
theorem vx_ret {g : JFrame} {mc ms : Nat} (k : W p l e R s m args below meth c H locs cells slots (MQ below Qc args s mc ms free) g) : W p l e R s m args below meth c H locs cells slots (vx_MQ below Qc XC args s mc ms free) g := by
  intro T hT X
  obtain ⟨t, a1, o, b1, b2, b3, b4⟩ := k T hT X
  exact ⟨t, a1, o, b1, b2, Or.inl ⟨b3, b4⟩⟩
/-- not caught here: it goes on to the caller -/
theorem vx_widen {g : JFrame} {q : Addr} {k n : Nat} (h1 : cells ≤ k) (h2 : slots ≤ n) (kk : vx_W p l e R s m args below meth c H locs k n Q g q) : vx_W p l e R s m args below meth c H locs cells slots Q g q := fun T hT X => kk T hT (stand_widen X h1 h2)
theorem vx_out {pc : Nat} {E : String} {ce : Cell} {q : Addr} {mc ms : Nat} (hout : ∀ x ∈ c.exceptionTable.toList, covers x pc = false) (hlocks : meth.locks = false) (hcell : H[q]? = some ce) (hv : ce.vm = .none) (hcl : s.vm.findClass E = some ce.cls)
    (hx : ∀ t : State, t.heap = H → s.vm.Alike t.vm → XC E s t) (hf : ∀ z ∈ locs, free z.base) (hc : cells ≤ mc) (hs : slots ≤ ms) :
    vx_W p l e R s m args below meth c H locs cells slots (vx_MQ below Qc XC args s mc ms free) (F0 m pc ls rest) q := by
  intro T hT X
  obtain ⟨st1, hrun, hend, hW, hsm⟩ := X.leaveThrown q (g := F0 m pc ls rest) rfl rfl rfl hout hlocks
  have hcell9 : (T.setFrames (.throwing q :: below)).heap[q]? = some ce := by
    show T.heap[q]? = some ce
    rw [hT]; exact hcell
  exact ⟨_, st1, .threw q, hrun, hend, Or.inr ⟨q, rfl, E, ce, locs, hx _ hT hW.alike, hcell9, hv, hcl, hW, hsm.mono hc hs, hf⟩⟩
theorem vx_frame {U : State} {k n : Nat} (h : s.sameButNew ({ U with vm := s.vm } : State) locs k n) : s.heap.size ≤ U.heap.size ∧ ∀ q : Nat, q < s.heap.size → (∀ z ∈ locs, z.base ≠ q) → U.heap[q]? = s.heap[q]? := by
  obtain ⟨-, h2, -, -, -, h6⟩ := h
  refine ⟨h2, fun q hq hz => ?_⟩
  obtain ⟨c9, e1, e2, e3, e4⟩ := h6 q _ (Array.getElem?_eq_getElem hq)
  have hs : c9.slots = (s.heap[q]).slots := Array.ext_getElem? fun i => e4 i fun hm => hz _ hm rfl
  have h9 : c9 = s.heap[q] := by
    rw [hs] at e2
    exact e2
  have e5 : U.heap[q]? = some c9 := e1
  rw [e5, h9, Array.getElem?_eq_getElem hq]
/-- the words of a throw but the four that speak of the heap -/
def vx_no (w : Cond) : Bool := decide (w ≠ .isRef (.static Bundle.tN "UNASSIGNED_STACK" Bundle.steD)) && decide (w ≠ .isRef (.static Bundle.tN "SUPPRESSED_SENTINEL" Bundle.listD)) && decide (w ≠ .laysStatic Bundle.tN "UNASSIGNED_STACK" Bundle.steD) && decide (w ≠ .laysStatic Bundle.tN "SUPPRESSED_SENTINEL" Bundle.listD)
def vx_at0 (own : String) (ic : Nat) (X : String) (names : List String) : List Cond := (Bundle.ownAtoms0 own ic X names).filter vx_no
def vx_atS (own : String) (ic : Nat) (X : String) (names : List String) : List Cond := (Bundle.ownAtoms own ic X names).filter vx_no
/-- a word that the tables alone decide, or a good one -/
def vx_ot (w : Cond) : Bool := w.onTables || goodWord w
theorem vx_ot_at {args a' : Array Value} {s U : State} {w : Cond} (hW : s.WarmedH U.vm) (hvm : s.vm = U.vm) (hg : vx_ot w = true) (h : w.before args s = true) : w.before a' U = true := by
  simp only [vx_ot, Bool.or_eq_true] at hg
  rcases hg with hg | hg
  · exact va_tabs hg hvm h
  · exact word_at hW (good_of_word hg) h
/-- a list's words: the good ones out of the method's own list, the others by premises of their own -/
theorem vx_hat {args : Array Value} {s : State} {L B : List Cond} (h1 : ∀ w ∈ L.filter goodWord, w.before args s = true) (h2 : ∀ w ∈ L.filter (fun w => !goodWord w), w ∈ B) (h3 : ∀ w ∈ B, w.before args s = true) : ∀ w ∈ L, w.before args s = true := by
  intro w hw
  by_cases g : goodWord w = true
  · exact h1 w (List.mem_filter.mpr ⟨hw, g⟩)
  · refine h3 w (h2 w (List.mem_filter.mpr ⟨hw, ?_⟩))
    show (!goodWord w) = true
    cases hgw : goodWord w
    · rfl
    · exact absurd hgw g
theorem vx_c {args : Array Value} {s : State} {w : Cond} {B : List Cond} (h : w.before args s = true) (t : ∀ w ∈ B, w.before args s = true) : ∀ w' ∈ w :: B, w'.before args s = true := fun w' h' => (List.mem_cons.mp h').elim (fun e => by rw [e]; exact h) (t w')
theorem vx_n {args : Array Value} {s : State} : ∀ w ∈ ([] : List Cond), w.before args s = true := fun _ h => nomatch h
theorem vx_own {args : Array Value} {s : State} {L : List Cond} (h1 : ∀ w ∈ L.filter vx_no, w.before args s = true)
    (hU : (Cond.isRef (.static Bundle.tN "UNASSIGNED_STACK" Bundle.steD)).before args s = true) (hN : (Cond.isRef (.static Bundle.tN "SUPPRESSED_SENTINEL" Bundle.listD)).before args s = true)
    (lU : (Cond.laysStatic Bundle.tN "UNASSIGNED_STACK" Bundle.steD).before args s = true) (lN : (Cond.laysStatic Bundle.tN "SUPPRESSED_SENTINEL" Bundle.listD).before args s = true) : ∀ w ∈ L, w.before args s = true := by
  intro w hw
  by_cases e1 : w = .isRef (.static Bundle.tN "UNASSIGNED_STACK" Bundle.steD)
  · rw [e1]; exact hU
  · by_cases e2 : w = .isRef (.static Bundle.tN "SUPPRESSED_SENTINEL" Bundle.listD)
    · rw [e2]; exact hN
    · by_cases e3 : w = .laysStatic Bundle.tN "UNASSIGNED_STACK" Bundle.steD
      · rw [e3]; exact lU
      · by_cases e4 : w = .laysStatic Bundle.tN "SUPPRESSED_SENTINEL" Bundle.listD
        · rw [e4]; exact lN
        · exact h1 w (List.mem_filter.mpr ⟨hw, by unfold vx_no; rw [decide_eq_true e1, decide_eq_true e2, decide_eq_true e3, decide_eq_true e4]; rfl⟩)
/-- where a static field lies, its class's statics cell in H -/
def vx_L (C n d : String) (A : Nat → Prop) (U : State) (H : Heap) : Prop := ∃ (c : ClassId) (k : Class) (i : Nat) (f : Field) (a : Nat) (cell : Cell), U.vm.findClass C = some c ∧ U.fieldFound? C n d = some (c, k, i, f) ∧ f.isStatic = true ∧ k.statics = some a ∧ H[a]? = some cell ∧ cell.vm.isStatics = true ∧ cell.cls = c ∧ f.slot < cell.slots.size ∧ k.staticTypes[f.slot]? = some f.type ∧ ¬ A a
theorem vx_L.moved {C n d : String} {A : Nat → Prop} {u U : State} {H : Heap} (hvm : u.vm.Alike U.vm) (h : vx_L C n d A u H) : vx_L C n d A U H := by
  obtain ⟨c, k, i, f, a, cell, h1, h2, h3, h4, h5, h6, h7, h8, h9, h10⟩ := h
  obtain ⟨k', hi', he⟩ := State.fieldFound?_setVm hvm h2
  exact ⟨c, k', i, f, a, cell, by rw [hvm.findClass]; exact h1, hi', h3, by rw [he]; exact h4, h5, h6, h7, h8, by rw [he]; exact h9, h10⟩
theorem vx_L.kept {C n d : String} {A : Nat → Prop} {U : State} {H H1 : Heap} (h : vx_L C n d A U H) (hq : ∀ a : Nat, a < H.size → ¬ A a → H1[a]? = H[a]?) : vx_L C n d A U H1 := by
  obtain ⟨c, k, i, f, a, cell, h1, h2, h3, h4, h5, h6, h7, h8, h9, h10⟩ := h
  exact ⟨c, k, i, f, a, cell, h1, h2, h3, h4, by rw [hq a (Array.getElem?_eq_some_iff.mp h5).1 h10]; exact h5, h6, h7, h8, h9, h10⟩
theorem vx_L.narrow {C n d : String} {A B : Nat → Prop} {U : State} {H : Heap} (h : vx_L C n d A U H) (hAB : ∀ q, B q → A q) : vx_L C n d B U H := by
  obtain ⟨c, k, i, f, a, cell, h1, h2, h3, h4, h5, h6, h7, h8, h9, h10⟩ := h
  exact ⟨c, k, i, f, a, cell, h1, h2, h3, h4, h5, h6, h7, h8, h9, fun z => h10 (hAB _ z)⟩
theorem vx_L.word {C n d : String} {A : Nat → Prop} {s : State} {args : Array Value} (h : vx_L C n d A s s.heap) : (Cond.laysStatic C n d).before args s = true := by
  obtain ⟨c, k, i, f, a, cell, h1, h2, h3, h4, h5, h6, h7, h8, h9, -⟩ := h
  show (Cond.laysStatic C n d).holds args s none s [] = true
  exact Cond.laysStatic_of h1 h2 h3 h4 h5 h6 h7 h8 h9
/-- .. and what it holds: null or some reference -/
def vx_Zq (C n d : String) (A : Nat → Prop) (U : State) (H : Heap) : Prop := va_Zq C n d A U H ∧ vx_L C n d A U H
theorem vx_Zq.moved {C n d : String} {A : Nat → Prop} {u U : State} {H : Heap} (hvm : u.vm.Alike U.vm) (h : vx_Zq C n d A u H) : vx_Zq C n d A U H := ⟨va_Zq.moved hvm h.1, vx_L.moved hvm h.2⟩
theorem vx_Zq.kept {C n d : String} {A : Nat → Prop} {U : State} {H H1 : Heap} (h : vx_Zq C n d A U H) (hq : ∀ a : Nat, a < H.size → ¬ A a → H1[a]? = H[a]?) : vx_Zq C n d A U H1 := ⟨va_Zq.kept h.1 hq, vx_L.kept h.2 hq⟩
theorem vx_Zq.narrow {C n d : String} {A B : Nat → Prop} {U : State} {H : Heap} (h : vx_Zq C n d A U H) (hAB : ∀ q, B q → A q) : vx_Zq C n d B U H := ⟨va_Zq.narrow h.1 hAB, vx_L.narrow h.2 hAB⟩
theorem vx_Zqof {args : Array Value} {s : State} {C n d : String} {A : Nat → Prop} (hl : (Cond.laysStatic C n d).before args s = true) (hini : (Cond.initialized C).before args s = true) (h : (Cond.isRef (.static C n d)).before args s = true) (hA : ∀ a : Nat, a < s.heap.size → ¬ A a) : vx_Zq C n d A s s.heap := by
  refine ⟨va_Zqof hl hini h hA, ?_⟩
  obtain ⟨c, k, i, f, a, cell, h1, h2, h3, h4, h5, h6, h7, h8, h9⟩ := Cond.laysStatic_spec hl
  exact ⟨c, k, i, f, a, cell, h1, h2, h3, h4, h5, h6, h7, h8, h9, hA a (Array.getElem?_eq_some_iff.mp h5).1⟩
theorem vx_isRef {C n d : String} {v : Value} {A : Nat → Prop} {s : State} {args : Array Value} (h : va_Z C n d v A s s.heap) (hv : v.isRef = true) : (Cond.isRef (.static C n d)).before args s = true := by
  obtain ⟨cf, kf, fi, f, a, cell, h1, h2, h3, h4, h5, h6, h7, -⟩ := h
  have he : (Term.static C n d).eval args s none [] s = some v := by
    simp [Term.eval, State.fieldNamed?, h1, h2, h4, h5, h6, h7]
  simp only [Cond.before, Cond.holds, Cond.value, he]
  cases v <;> simp_all [Value.isRef]
theorem vx_isRefq {C n d : String} {A : Nat → Prop} {s : State} {args : Array Value} (h : va_Zq C n d A s s.heap) : (Cond.isRef (.static C n d)).before args s = true := by
  rcases h with h | ⟨t, h⟩
  · exact vx_isRef h rfl
  · exact vx_isRef h rfl
/-- the same frame, seen from here: as if the method were called anew in this heap -/
theorem vx_rebase {T : State} (X : Stand p l e R s m args below meth c T locs cells slots) {R' : Room} (hf : R'.frames ≤ R.frames) (hl : R'.locals ≤ R.locals) (hc : cells + R'.cells ≤ R.cells) (hs : slots + R'.slots ≤ R.slots) :
    Stand p l e R' ((T.setVm s.vm).setFrames (.invoking m args :: below)) m args below meth c T [] 0 0 := by
  have htop : (T.setVm s.vm).topJava?.isSome := X.here.top
  have hF : ((T.setVm s.vm).setFrames (.invoking m args :: below)).frames = .invoking m args :: below := State.frames_setFrames _ (State.cur_lt_of_top htop)
  obtain ⟨g₀, hg0⟩ := Option.isSome_iff_exists.mp htop
  obtain ⟨r, hr⟩ := State.topJava?_eq_some.mp hg0
  have hl9 : e.platform.stackLimits (T.setVm s.vm).me = e.platform.stackLimits s.me := X.limits
  have hb9 : (T.setVm s.vm).me.stackBytes = s.me.stackBytes := X.bytes
  refine ⟨X.admits, X.cas, X.clock, hF, ?_, X.hears, X.method, X.code, X.here, X.tail, X.warmed, ?_, ?_, ?_⟩
  · have h := X.room
    have hU : ((T.setVm s.vm).setFrames (.invoking m args :: below)).localsInUse = s.localsInUse := by
      rw [State.localsInUse_invoking hF (meth := meth) (c := c) X.method X.code, State.localsInUse_invoking X.frames X.method X.code]
    simp only [State.hasRoom, Bool.and_eq_true, decide_eq_true_eq] at h ⊢
    obtain ⟨⟨⟨⟨h1, h2, h3, h4, h5, h6⟩, h7⟩, h8⟩, h9⟩ := h
    rw [X.frames, List.length_cons] at h2 h3
    have q1 := X.heapSize
    have q2 := X.used
    simp only [hF, hU, List.length_cons, State.stackLimits_setFrames, State.stackBytes_setFrames, hl9, hb9]
    refine ⟨⟨⟨⟨by omega, by omega, by omega, by omega, by omega, h6⟩, ?_⟩, ?_⟩, X.book⟩
    · show T.heap.size + R'.cells ≤ e.platform.maxCells
      omega
    · show T.slotsUsed + R'.slots ≤ e.platform.maxSlots
      omega
  · rw [State.stackLimits_setFrames]; rfl
  · rw [State.stackBytes_setFrames]; rfl
  · refine ⟨?_, Nat.le_refl _, Nat.le_refl _, ?_, ?_, fun a c9 h9 => ⟨c9, h9, rfl, rfl, fun _ _ => rfl⟩⟩
    · obtain ⟨t, ht, -⟩ := State.frames_cons hr
      show T.setVm s.vm = { ((T.setVm s.vm).setFrames (.invoking m args :: below)).setFrames (T.setVm s.vm).frames with heap := T.heap, slotsUsed := T.slotsUsed }
      rw [State.setFrames_setFrames, State.setFrames_self ht]
      rfl
    · show T.slotsUsed = T.slotsUsed + ((T.heap.toList.drop T.heap.size).map (·.slots.size)).sum
      rw [List.drop_eq_nil_of_le (Nat.le_of_eq Array.length_toList)]
      rfl
    · show ((T.heap.toList.drop T.heap.size).map (·.slots.size)).sum ≤ 0
      rw [List.drop_eq_nil_of_le (Nat.le_of_eq Array.length_toList)]
      exact Nat.le_refl _
/-- 'throw new E()': new; dup; invokespecial; athrow -/
theorem vx_throw0 {cc : ByteArray} {pc : Nat} (hexec : p.tables.exec = Jvm.exec) (hb : c.code = cc) (hl : l.stackTraces = false) {own cls : String} {names : List String} {ik ic mc ms : Nat} {A : Nat → Prop}
    (hown : s.vm.findClass own = some m.cls) (hcls : Bundle.fit cls = true) (hnames : ∀ n ∈ names, Bundle.fit n = true)
    (hk : (Cond.classLink own ik cls).before args s = true) (hini : (Cond.initialized cls).before args s = true) (hat : ∀ w ∈ vx_at0 own ic cls names, w.before args s = true)
    (hgood : ∀ w ∈ Cond.classLink own ik cls :: Cond.initialized cls :: vx_at0 own ic cls names, vx_ot w = true)
    (hU : vx_Zq Bundle.tN "UNASSIGNED_STACK" Bundle.steD A s s.heap) (hN : vx_Zq Bundle.tN "SUPPRESSED_SENTINEL" Bundle.listD A s s.heap) (hS : va_S A s.heap H locs) (hsize : ls.size = c.maxLocals)
    (d0 : decode cc pc = .ok (.new ik, 3)) (d3 : decode cc (pc + 3) = .ok (.dup, 1)) (d4 : decode cc (pc + 4) = .ok (.invokespecial ic, 3)) (d7 : decode cc (pc + 7) = .ok (.athrow, 1))
    (hout : ∀ x ∈ c.exceptionTable.toList, covers x (pc + 7) = false)
    (hRframes : names.length + 3 < R.frames) (hRlocals : (rest.map fun v => v.category).sum + (13 * (names.length + 1) + 42) ≤ R.locals) (hRcells : cells + 1 ≤ R.cells) (hRslots : slots + 6 ≤ R.slots) (hlocks : meth.locks = false)
    (hx : ∀ t : State, s.vm.Alike t.vm → H.size ≤ t.heap.size → (∀ q : Nat, q < H.size → t.heap[q]? = H[q]?) → XC cls s t)
    (hf : ∀ z ∈ locs, free z.base) (hc : cells + 1 ≤ mc) (hs : slots + 6 ≤ ms) :
    W p l e R s m args below meth c H locs cells slots (vx_MQ below Qc XC args s mc ms free) (F0 m pc ls rest) := by
  intro T hT X
  have htr : e.platform.stackTraces = false := (show e.platform.stackTraces = l.stackTraces by rw [X.admits.platform]).trans hl
  have Y := vx_rebase X (R' := { frames := R.frames, locals := R.locals, cells := 1, slots := 6 }) (Nat.le_refl _) (Nat.le_refl _) hRcells hRslots
  obtain ⟨s', hA⟩ : ∃ z, z = (T.setVm s.vm).setFrames (.invoking m args :: below) := ⟨_, rfl⟩
  rw [← hA] at Y
  have hvm : s'.vm = s.vm := by rw [hA]; rfl
  have hhp : s'.heap = H := by rw [hA]; exact hT
  have hW0 : s.WarmedH s'.vm := by rw [hvm]; exact State.WarmedH.refl s
  have hat' : ∀ w ∈ vx_at0 own ic cls names, w.before args s' = true := fun w hw => vx_ot_at hW0 hvm.symm (hgood w (List.mem_cons_of_mem _ (List.mem_cons_of_mem _ hw))) (hat w hw)
  have hk' : (Cond.classLink own ik cls).before args s' = true := vx_ot_at hW0 hvm.symm (hgood _ List.mem_cons_self) hk
  have hini' : (Cond.initialized cls).before args s' = true := vx_ot_at hW0 hvm.symm (hgood _ (List.mem_cons_of_mem _ List.mem_cons_self)) hini
  have hU' : vx_Zq Bundle.tN "UNASSIGNED_STACK" Bundle.steD A s' s'.heap := by rw [hhp]; exact vx_Zq.moved hW0.alike (hU.kept hS.2.1)
  have hN' : vx_Zq Bundle.tN "SUPPRESSED_SENTINEL" Bundle.listD A s' s'.heap := by rw [hhp]; exact vx_Zq.moved hW0.alike (hN.kept hS.2.1)
  have h : ∀ w ∈ Bundle.ownAtoms0 own ic cls names, w.before args s' = true := vx_own hat' (vx_isRefq hU'.1) (vx_isRefq hN'.1) hU'.2.word hN'.2.word
  have hown' : s'.vm.findClass own = some m.cls := by rw [hvm]; exact hown
  have hins : (Cond.instantiable cls 6).before args s' = true := h _ (by simp [Bundle.ownAtoms0])
  obtain ⟨vm₁, cX, kX, hfX, hkX, -, -, X₁, st1⟩ := Y.newCold hexec (own := own) (C := cls) (index := ik) (n := 6) hown' hk' hins hini'
    (g := F0 m pc ls rest) rfl (by rw [hb]; exact d0) (Nat.le_refl _) (Nat.le_refl _)
  generalize hT1 : (T.setVm vm₁).pushCell { cls := cX, slots := kX.instanceTypes.map defaultValue, vm := .none } = T1 at X₁ st1
  have hcat : (Value.ref T.heap.size).category = 1 := rfl
  have hcellA : T1.heap[T.heap.size]? = some (freshCell cX kX) := by rw [← hT1]; exact State.heap_pushCell_size _ _
  have d3' : decode c.code (pc + 3) = .ok (.dup, 1) := by rw [hb]; exact d3
  obtain ⟨U, hsteps, hrun, hend, hW, hsame, ce, hce, hO⟩ := X₁.ctorThrow0 hexec htr (own := own) (cls := cls) (names := names) (ic := ic) hown' hcls hnames h (fun x hx => nomatch hx) hfX hkX hcellA (by rw [hhp, hT]; exact Nat.le_refl _)
    (g := { method := m, pc := pc + 4, locals := ls, stack := .ref T.heap.size :: .ref T.heap.size :: rest, locked := none }) rfl hsize rfl rfl (rest := rest) rfl
    (by rw [hb]; exact d4) (by rw [hb]; exact d7) hout hRframes (by simp only [List.map_cons, List.sum_cons, hcat]; omega) hlocks
  obtain ⟨f1, f2⟩ := vx_frame hsame
  rw [hhp] at f1 f2
  have hWs : s.WarmedH U.vm := State.WarmedH.trans hW0 hW
  have hcl : s.vm.findClass cls = some ce.cls := by
    have h9 := hO.cls
    rw [hvm] at h9
    exact h9
  have hall : s.sameButNew ({ U with vm := s.vm } : State) locs mc ms := by
    subst hA
    obtain ⟨e1, e2⟩ := hsame
    rw [State.setFrames_setFrames] at e1
    have h2 : (T.setVm s.vm).sameButNew ({ U with vm := s.vm } : State) [] (0 + 1) (0 + 6) := ⟨e1, e2⟩
    have h3 := X.same.trans h2
    rw [List.append_nil] at h3
    exact h3.mono hc hs
  refine ⟨U, ?_, .threw T.heap.size, hrun, hend, Or.inr ⟨T.heap.size, rfl, cls, ce, locs, hx U hWs.alike f1 (fun q hq => f2 q hq (fun z hz => nomatch hz)), hce, hO.vm, hcl, hWs, hall, hf⟩⟩
  refine st1 _ ?_
  show Steps p.tables e below (T1.setTop { method := m, pc := pc + 3, locals := ls, stack := .ref T.heap.size :: rest, locked := none }) _
  jvm_step X₁.here [X₁.here.top, hexec, d3', Value.category]
  exact hsteps
/-- 'throw new E("text")': new; dup; ldc; invokespecial; athrow -/
theorem vx_throwS {cc : ByteArray} {pc : Nat} (hexec : p.tables.exec = Jvm.exec) (hb : c.code = cc) (hl : l.stackTraces = false) {own cls text : String} {names : List String} {ik is ic mc ms sa : Nat} {A : Nat → Prop}
    (hown : s.vm.findClass own = some m.cls) (hcls : Bundle.fit cls = true) (hnames : ∀ n ∈ names, Bundle.fit n = true)
    (hk : (Cond.classLink own ik cls).before args s = true) (hini : (Cond.initialized cls).before args s = true) (hstr : vk_R own is text sa s) (hat : ∀ w ∈ vx_atS own ic cls names, w.before args s = true)
    (hgood : ∀ w ∈ Cond.classLink own ik cls :: Cond.initialized cls :: vx_atS own ic cls names, vx_ot w = true)
    (hU : vx_Zq Bundle.tN "UNASSIGNED_STACK" Bundle.steD A s s.heap) (hN : vx_Zq Bundle.tN "SUPPRESSED_SENTINEL" Bundle.listD A s s.heap) (hS : va_S A s.heap H locs) (hsize : ls.size = c.maxLocals)
    (d0 : decode cc pc = .ok (.new ik, 3)) (d3 : decode cc (pc + 3) = .ok (.dup, 1)) (d4 : decode cc (pc + 4) = .ok (.ldc is, 2)) (d6 : decode cc (pc + 6) = .ok (.invokespecial ic, 3)) (d9 : decode cc (pc + 9) = .ok (.athrow, 1))
    (hout : ∀ x ∈ c.exceptionTable.toList, covers x (pc + 9) = false)
    (hRframes : names.length + 3 < R.frames) (hRlocals : (rest.map fun v => v.category).sum + (13 * (names.length + 1) + 43) ≤ R.locals) (hRcells : cells + 1 ≤ R.cells) (hRslots : slots + 6 ≤ R.slots) (hlocks : meth.locks = false)
    (hx : ∀ t : State, s.vm.Alike t.vm → H.size ≤ t.heap.size → (∀ q : Nat, q < H.size → t.heap[q]? = H[q]?) → XC cls s t)
    (hf : ∀ z ∈ locs, free z.base) (hc : cells + 1 ≤ mc) (hs : slots + 6 ≤ ms) :
    W p l e R s m args below meth c H locs cells slots (vx_MQ below Qc XC args s mc ms free) (F0 m pc ls rest) := by
  intro T hT X
  have htr : e.platform.stackTraces = false := (show e.platform.stackTraces = l.stackTraces by rw [X.admits.platform]).trans hl
  have Y := vx_rebase X (R' := { frames := R.frames, locals := R.locals, cells := 1, slots := 6 }) (Nat.le_refl _) (Nat.le_refl _) hRcells hRslots
  obtain ⟨s', hA⟩ : ∃ z, z = (T.setVm s.vm).setFrames (.invoking m args :: below) := ⟨_, rfl⟩
  rw [← hA] at Y
  have hvm : s'.vm = s.vm := by rw [hA]; rfl
  have hhp : s'.heap = H := by rw [hA]; exact hT
  have hW0 : s.WarmedH s'.vm := by rw [hvm]; exact State.WarmedH.refl s
  have hat' : ∀ w ∈ vx_atS own ic cls names, w.before args s' = true := fun w hw => vx_ot_at hW0 hvm.symm (hgood w (List.mem_cons_of_mem _ (List.mem_cons_of_mem _ hw))) (hat w hw)
  have hk' : (Cond.classLink own ik cls).before args s' = true := vx_ot_at hW0 hvm.symm (hgood _ List.mem_cons_self) hk
  have hini' : (Cond.initialized cls).before args s' = true := vx_ot_at hW0 hvm.symm (hgood _ (List.mem_cons_of_mem _ List.mem_cons_self)) hini
  have hU' : vx_Zq Bundle.tN "UNASSIGNED_STACK" Bundle.steD A s' s'.heap := by rw [hhp]; exact vx_Zq.moved hW0.alike (hU.kept hS.2.1)
  have hN' : vx_Zq Bundle.tN "SUPPRESSED_SENTINEL" Bundle.listD A s' s'.heap := by rw [hhp]; exact vx_Zq.moved hW0.alike (hN.kept hS.2.1)
  have h : ∀ w ∈ Bundle.ownAtoms own ic cls names, w.before args s' = true := vx_own hat' (vx_isRefq hU'.1) (vx_isRefq hN'.1) hU'.2.word hN'.2.word
  have hown' : s'.vm.findClass own = some m.cls := by rw [hvm]; exact hown
  have hins : (Cond.instantiable cls 6).before args s' = true := h _ (by simp [Bundle.ownAtoms])
  obtain ⟨vm₁, cX, kX, hfX, hkX, -, -, X₁, st1⟩ := Y.newCold hexec (own := own) (C := cls) (index := ik) (n := 6) hown' hk' hins hini'
    (g := F0 m pc ls rest) rfl (by rw [hb]; exact d0) (Nat.le_refl _) (Nat.le_refl _)
  generalize hT1 : (T.setVm vm₁).pushCell { cls := cX, slots := kX.instanceTypes.map defaultValue, vm := .none } = T1 at X₁ st1
  have hcat : (Value.ref T.heap.size).category = 1 := rfl
  have hcellA : T1.heap[T.heap.size]? = some (freshCell cX kX) := by rw [← hT1]; exact State.heap_pushCell_size _ _
  have d3' : decode c.code (pc + 3) = .ok (.dup, 1) := by rw [hb]; exact d3
  have d4' : decode c.code (pc + 4) = .ok (.ldc is, 2) := by rw [hb]; exact d4
  have hstr' : vk_R own is text sa s' := vk_R.warm hW0 hstr
  obtain ⟨U, hsteps, hrun, hend, hW, hsame, ce, hce, hO⟩ := X₁.ctorThrowS hexec htr (own := own) (cls := cls) (names := names) (ic := ic) hown' hcls hnames h (fun x hx => nomatch hx) hfX hkX hcellA (by rw [hhp, hT]; exact Nat.le_refl _) (msg := .ref sa) rfl
    (g := { method := m, pc := pc + 6, locals := ls, stack := .ref sa :: .ref T.heap.size :: .ref T.heap.size :: rest, locked := none }) rfl hsize rfl rfl (rest := rest) rfl
    (by rw [hb]; exact d6) (by rw [hb]; exact d9) hout hRframes (by simp only [List.map_cons, List.sum_cons, hcat]; omega) hlocks
  obtain ⟨f1, f2⟩ := vx_frame hsame
  rw [hhp] at f1 f2
  have hWs : s.WarmedH U.vm := State.WarmedH.trans hW0 hW
  have hcl : s.vm.findClass cls = some ce.cls := by
    have h9 := hO.cls
    rw [hvm] at h9
    exact h9
  have hall : s.sameButNew ({ U with vm := s.vm } : State) locs mc ms := by
    subst hA
    obtain ⟨e1, e2⟩ := hsame
    rw [State.setFrames_setFrames] at e1
    have h2 : (T.setVm s.vm).sameButNew ({ U with vm := s.vm } : State) [] (0 + 1) (0 + 6) := ⟨e1, e2⟩
    have h3 := X.same.trans h2
    rw [List.append_nil] at h3
    exact h3.mono hc hs
  refine ⟨U, ?_, .threw T.heap.size, hrun, hend, Or.inr ⟨T.heap.size, rfl, cls, ce, locs, hx U hWs.alike f1 (fun q hq => f2 q hq (fun z hz => nomatch hz)), hce, hO.vm, hcl, hWs, hall, hf⟩⟩
  refine st1 _ ?_
  show Steps p.tables e below (T1.setTop { method := m, pc := pc + 3, locals := ls, stack := .ref T.heap.size :: rest, locked := none }) _
  jvm_step X₁.here [X₁.here.top, hexec, d3', Value.category]
  exact X₁.ldcString hexec (own := own) (text := text) (index := is) (a := sa) hown' hstr'.1 hstr'.2
    (g := { method := m, pc := pc + 4, locals := ls, stack := .ref T.heap.size :: .ref T.heap.size :: rest, locked := none }) rfl d4' _ hsteps
/-- 'throw new E("text")', the text by a wide index -/
theorem vx_throwSW {cc : ByteArray} {pc : Nat} (hexec : p.tables.exec = Jvm.exec) (hb : c.code = cc) (hl : l.stackTraces = false) {own cls text : String} {names : List String} {ik is ic mc ms sa : Nat} {A : Nat → Prop}
    (hown : s.vm.findClass own = some m.cls) (hcls : Bundle.fit cls = true) (hnames : ∀ n ∈ names, Bundle.fit n = true)
    (hk : (Cond.classLink own ik cls).before args s = true) (hini : (Cond.initialized cls).before args s = true) (hstr : vk_R own is text sa s) (hat : ∀ w ∈ vx_atS own ic cls names, w.before args s = true)
    (hgood : ∀ w ∈ Cond.classLink own ik cls :: Cond.initialized cls :: vx_atS own ic cls names, vx_ot w = true)
    (hU : vx_Zq Bundle.tN "UNASSIGNED_STACK" Bundle.steD A s s.heap) (hN : vx_Zq Bundle.tN "SUPPRESSED_SENTINEL" Bundle.listD A s s.heap) (hS : va_S A s.heap H locs) (hsize : ls.size = c.maxLocals)
    (d0 : decode cc pc = .ok (.new ik, 3)) (d3 : decode cc (pc + 3) = .ok (.dup, 1)) (d4 : decode cc (pc + 4) = .ok (.ldc_w is, 3)) (d7 : decode cc (pc + 7) = .ok (.invokespecial ic, 3)) (d10 : decode cc (pc + 10) = .ok (.athrow, 1))
    (hout : ∀ x ∈ c.exceptionTable.toList, covers x (pc + 10) = false)
    (hRframes : names.length + 3 < R.frames) (hRlocals : (rest.map fun v => v.category).sum + (13 * (names.length + 1) + 43) ≤ R.locals) (hRcells : cells + 1 ≤ R.cells) (hRslots : slots + 6 ≤ R.slots) (hlocks : meth.locks = false)
    (hx : ∀ t : State, s.vm.Alike t.vm → H.size ≤ t.heap.size → (∀ q : Nat, q < H.size → t.heap[q]? = H[q]?) → XC cls s t)
    (hf : ∀ z ∈ locs, free z.base) (hc : cells + 1 ≤ mc) (hs : slots + 6 ≤ ms) :
    W p l e R s m args below meth c H locs cells slots (vx_MQ below Qc XC args s mc ms free) (F0 m pc ls rest) := by
  intro T hT X
  have htr : e.platform.stackTraces = false := (show e.platform.stackTraces = l.stackTraces by rw [X.admits.platform]).trans hl
  have Y := vx_rebase X (R' := { frames := R.frames, locals := R.locals, cells := 1, slots := 6 }) (Nat.le_refl _) (Nat.le_refl _) hRcells hRslots
  obtain ⟨s', hA⟩ : ∃ z, z = (T.setVm s.vm).setFrames (.invoking m args :: below) := ⟨_, rfl⟩
  rw [← hA] at Y
  have hvm : s'.vm = s.vm := by rw [hA]; rfl
  have hhp : s'.heap = H := by rw [hA]; exact hT
  have hW0 : s.WarmedH s'.vm := by rw [hvm]; exact State.WarmedH.refl s
  have hat' : ∀ w ∈ vx_atS own ic cls names, w.before args s' = true := fun w hw => vx_ot_at hW0 hvm.symm (hgood w (List.mem_cons_of_mem _ (List.mem_cons_of_mem _ hw))) (hat w hw)
  have hk' : (Cond.classLink own ik cls).before args s' = true := vx_ot_at hW0 hvm.symm (hgood _ List.mem_cons_self) hk
  have hini' : (Cond.initialized cls).before args s' = true := vx_ot_at hW0 hvm.symm (hgood _ (List.mem_cons_of_mem _ List.mem_cons_self)) hini
  have hU' : vx_Zq Bundle.tN "UNASSIGNED_STACK" Bundle.steD A s' s'.heap := by rw [hhp]; exact vx_Zq.moved hW0.alike (hU.kept hS.2.1)
  have hN' : vx_Zq Bundle.tN "SUPPRESSED_SENTINEL" Bundle.listD A s' s'.heap := by rw [hhp]; exact vx_Zq.moved hW0.alike (hN.kept hS.2.1)
  have h : ∀ w ∈ Bundle.ownAtoms own ic cls names, w.before args s' = true := vx_own hat' (vx_isRefq hU'.1) (vx_isRefq hN'.1) hU'.2.word hN'.2.word
  have hown' : s'.vm.findClass own = some m.cls := by rw [hvm]; exact hown
  have hins : (Cond.instantiable cls 6).before args s' = true := h _ (by simp [Bundle.ownAtoms])
  obtain ⟨vm₁, cX, kX, hfX, hkX, -, -, X₁, st1⟩ := Y.newCold hexec (own := own) (C := cls) (index := ik) (n := 6) hown' hk' hins hini'
    (g := F0 m pc ls rest) rfl (by rw [hb]; exact d0) (Nat.le_refl _) (Nat.le_refl _)
  generalize hT1 : (T.setVm vm₁).pushCell { cls := cX, slots := kX.instanceTypes.map defaultValue, vm := .none } = T1 at X₁ st1
  have hcat : (Value.ref T.heap.size).category = 1 := rfl
  have hcellA : T1.heap[T.heap.size]? = some (freshCell cX kX) := by rw [← hT1]; exact State.heap_pushCell_size _ _
  have d3' : decode c.code (pc + 3) = .ok (.dup, 1) := by rw [hb]; exact d3
  have d4' : decode c.code (pc + 4) = .ok (.ldc_w is, 3) := by rw [hb]; exact d4
  have hstr' : vk_R own is text sa s' := vk_R.warm hW0 hstr
  obtain ⟨U, hsteps, hrun, hend, hW, hsame, ce, hce, hO⟩ := X₁.ctorThrowS hexec htr (own := own) (cls := cls) (names := names) (ic := ic) hown' hcls hnames h (fun x hx => nomatch hx) hfX hkX hcellA (by rw [hhp, hT]; exact Nat.le_refl _) (msg := .ref sa) rfl
    (g := { method := m, pc := pc + 7, locals := ls, stack := .ref sa :: .ref T.heap.size :: .ref T.heap.size :: rest, locked := none }) rfl hsize rfl rfl (rest := rest) rfl
    (by rw [hb]; exact d7) (by rw [hb]; exact d10) hout hRframes (by simp only [List.map_cons, List.sum_cons, hcat]; omega) hlocks
  obtain ⟨f1, f2⟩ := vx_frame hsame
  rw [hhp] at f1 f2
  have hWs : s.WarmedH U.vm := State.WarmedH.trans hW0 hW
  have hcl : s.vm.findClass cls = some ce.cls := by
    have h9 := hO.cls
    rw [hvm] at h9
    exact h9
  have hall : s.sameButNew ({ U with vm := s.vm } : State) locs mc ms := by
    subst hA
    obtain ⟨e1, e2⟩ := hsame
    rw [State.setFrames_setFrames] at e1
    have h2 : (T.setVm s.vm).sameButNew ({ U with vm := s.vm } : State) [] (0 + 1) (0 + 6) := ⟨e1, e2⟩
    have h3 := X.same.trans h2
    rw [List.append_nil] at h3
    exact h3.mono hc hs
  refine ⟨U, ?_, .threw T.heap.size, hrun, hend, Or.inr ⟨T.heap.size, rfl, cls, ce, locs, hx U hWs.alike f1 (fun q hq => f2 q hq (fun z hz => nomatch hz)), hce, hO.vm, hcl, hWs, hall, hf⟩⟩
  refine st1 _ ?_
  show Steps p.tables e below (T1.setTop { method := m, pc := pc + 3, locals := ls, stack := .ref T.heap.size :: rest, locked := none }) _
  jvm_step X₁.here [X₁.here.top, hexec, d3', Value.category]
  exact X₁.ldcStringW hexec (own := own) (text := text) (index := is) (a := sa) hown' hstr'.1 hstr'.2
    (g := { method := m, pc := pc + 4, locals := ls, stack := .ref T.heap.size :: .ref T.heap.size :: rest, locked := none }) rfl d4' _ hsteps
end Ends
section Bodies
variable {l : Launch}
theorem vx_ofW {y : MethodName} {ws ws' : List Cond} {rm : Room} {Pc : Array Value → State → Prop} {Qc : Array Value → State → Outcome → State → Prop} {XC : String → State → State → Prop} {mc ms : Nat} {free : Addr → Prop} {cc : ByteArray} {maxL : Nat} {ret : Option FieldType}
    (hy : plainName y.cls = true) (hw : ws = Cond.code y cc maxL ret :: ws')
    (body : ∀ p e s m args below meth c s₁, BodyLoose p l y (headSpec ws rm) cc maxL ret e s m args below meth c s₁ → c.maxLocals = maxL → (∀ x ∈ c.exceptionTable.toList, False) → Pc args s →
      W p l e (headSpec ws rm).room s m args below meth c s.heap [] 0 0 (vx_MQ below Qc XC args s mc ms free) (entryFrame m args maxL)) : vx_Met l y ws rm Pc Qc XC mc ms free := by
  refine MetFree.of_bodyS (code := cc) (maxLocals := maxL) (ret := ret) hy ?_ ?_
  · intro args s m h hn
    obtain ⟨meth, c, h1, h2, h3, h4, h5, h6, -, -⟩ := Cond.code_spec hn (atoms_spec (ws := ws) h _ (by rw [hw]; exact List.mem_cons_self))
    exact ⟨meth, c, h1, h2, h3, h4, h5, h6⟩
  · intro p e s m args below meth c s₁ B hml hP _
    have hh0 : s₁.heap = s.heap := by rw [B.state]; rfl
    have ht : ∀ x ∈ c.exceptionTable.toList, False := by
      obtain ⟨meth9, c9, h1, h2, -, -, -, -, h7, -⟩ := Cond.code_spec B.named (atoms_spec (ws := ws) B.pre _ (by rw [hw]; exact List.mem_cons_self))
      cases Option.some.inj (h1.symm.trans B.method)
      cases Option.some.inj (h2.symm.trans (Stand.of_body B).code)
      intro x hx
      rw [Array.isEmpty_iff.mp h7] at hx
      cases hx
    obtain ⟨t, a1, o, b1, b2, b3⟩ := body p e s m args below meth c s₁ B hml ht hP s₁ hh0 (Stand.of_body B)
    exact ⟨t, o, a1, b1, b2, b3⟩
/-- the table of a body with handlers -/
theorem vx_table {p : Program} {x y : MethodName} {S : Spec} {cc bytes : ByteArray} {maxL maxL' : Nat} {ret ret' : Option FieldType} {e : Env} {s s₁ : State} {m : MethodId} {args : Array Value} {below : List Frame} {meth : Method} {c : Code} {hh : List (Nat × Nat × Nat × Nat)}
    (B : BodyLoose p l y S cc maxL ret e s m args below meth c s₁) (h : (Cond.codeWith y bytes maxL' ret' hh).before args s = true) : c.exceptionTable.toList = tableOf hh := by
  obtain ⟨m9, meth9, c9, hn9, h1, h2, -, -, h6, -⟩ := Cond.codeWith_spec h
  cases Option.some.inj (hn9.symm.trans B.named)
  cases Option.some.inj (h1.symm.trans B.method)
  cases Option.some.inj (h2.symm.trans (Stand.of_body B).code)
  rw [← h6, table_eq]
end Bodies
end VXA
/-! ===== END ===== -/
/-! ===== BEGIN a static call of a method with an exception table ===== -/
section VXS
variable {p : Program} {l : Launch} {e : Env} {R : Room} {s : State} {m : MethodId} {args : Array Value} {below : List Frame} {meth : Method} {c : Code} {T : State} {H : Heap} {locs : List Loc} {cells slots : Nat}
abbrev vx_CSW (R : Room) (s : State) (args : Array Value) (own : String) (index : Nat) (y : MethodName) (bytes : ByteArray) (maxL : Nat) (ret : Option FieldType) (hh : List (Nat × Nat × Nat × Nat)) (ws : List Cond) (rm : Room) (mc ms n : Nat) : Prop :=
  (rm.cells = mc ∧ rm.slots = ms ∧ rm.frames + 1 ≤ R.frames ∧ 8 + (maxL + 11) + rm.locals ≤ R.locals ∧ (∀ w ∈ ws, ∀ (a' : Array Value) (U : State), s.WarmedH U.vm → w.before a' U = true) ∧ Cond.codeWith y bytes maxL ret hh ∈ ws) ∧
  (Cond.codeWith y bytes maxL ret hh).before args s = true ∧ (Cond.initialized y.cls).before args s = true ∧ (y.cls ≠ "java/lang/invoke/MethodHandle" ∧ y.cls ≠ "java/lang/invoke/VarHandle") ∧
  (∀ sig, parseMethodDescriptor y.desc = some sig → n = sig.parameters.length) ∧ (Cond.methodLink own index y).before args s = true ∧ (Cond.static y).before args s = true
theorem vx_cwSW {own : String} {index maxL mc ms : Nat} {y : MethodName} {bytes : ByteArray} {ret : Option FieldType} {hh : List (Nat × Nat × Nat × Nat)} {Ts ws ws' : List Cond} {rm : Room} (n : Nat) (ht : ∀ w ∈ Ts, w.before args s = true) (hT : GoodIn Ts (va_wsS own index y ws)) (hw : ws = Cond.codeWith y bytes maxL ret hh :: ws') (hrc : rm.cells = mc) (hrs : rm.slots = ms)
    (hd : y.cls ≠ "java/lang/invoke/MethodHandle" ∧ y.cls ≠ "java/lang/invoke/VarHandle" ∧ (parseMethodDescriptor y.desc).map (fun d => d.parameters.length) = some n) (hR : rm.frames + 1 ≤ R.frames ∧ 8 + (maxL + 11) + rm.locals ≤ R.locals) :
    vx_CSW R s args own index y bytes maxL ret hh ws rm mc ms n := by
  have ok : ∀ w ∈ va_wsS own index y ws, w.before args s = true := fun w h => ht w (hT w h).1
  have hG : GoodIn Ts ws := fun w h => hT w (by unfold va_wsS; exact List.mem_append_right _ h)
  have hc : Cond.codeWith y bytes maxL ret hh ∈ ws := by rw [hw]; exact List.mem_cons_self
  refine ⟨⟨hrc, hrs, hR.1, hR.2, pay_in ht hG, hc⟩, ht _ (hG _ hc).1, ok _ (by simp [va_wsS]), ⟨hd.1, hd.2.1⟩, fun sig h => ?_, ok _ (by simp [va_wsS]), ok _ (by simp [va_wsS])⟩
  have h2 := hd.2.2
  rw [h] at h2
  exact (Option.some.inj h2).symm
theorem vx_callSW (X : Stand p l e R s m args below meth c T locs cells slots) (hexec : p.tables.exec = Jvm.exec) {own : String} {index : Nat} {y : MethodName} {bytes : ByteArray} {maxL : Nat} {ret : Option FieldType} {hh : List (Nat × Nat × Nat × Nat)}
    (hown : s.vm.findClass own = some m.cls) (hlink : (Cond.methodLink own index y).before args s = true) (hstat : (Cond.static y).before args s = true) (hinit : (Cond.initialized y.cls).before args s = true)
    (hcode : (Cond.codeWith y bytes maxL ret hh).before args s = true) (hy : y.cls ≠ "java/lang/invoke/MethodHandle" ∧ y.cls ≠ "java/lang/invoke/VarHandle")
    {W9 : Nat} {Pre : Pt → Array Value → Prop} {Post : Pt → Array Value → Option Value → Pt → Prop} (hK : Back l R p e below s args y 3 W9 Pre Post)
    {g : JFrame} (hg : g.method = m) (hsize : g.locals.size = c.maxLocals) {argsL rest : List Value} (hlen : ∀ sig, parseMethodDescriptor y.desc = some sig → argsL.length = sig.parameters.length)
    (hstack : g.stack = argsL.reverse ++ rest) (hW : 2 * g.monitorRoom + (rest.map fun v => v.category).sum ≤ W9) (hdg : decode c.code g.pc = .ok (.invokestatic index, 3))
    (hpre : ∀ vm₁, s.WarmedH vm₁ → Pre ⟨T.setVm vm₁, locs, cells, slots⟩ argsL.toArray) :
    ∃ (v : Option Value) (vm₁ : Vm) (B : Pt), s.WarmedH vm₁ ∧ Stand p l e R s m args below meth c B.U B.locs B.cells B.slots ∧ Post ⟨T.setVm vm₁, locs, cells, slots⟩ argsL.toArray v B ∧
      ∀ target, Steps p.tables e below (B.U.setTop { g with pc := g.pc + 3, stack := v.toList ++ rest }) target → Steps p.tables e below (T.setTop g) target := by
  obtain ⟨mk, methM, cM, hnamed, hmethM, -, -, -, -, -, -, hsigM⟩ := Cond.codeWith_spec hcode
  have hstatic : methM.isStatic = true := Cond.static_spec hnamed hmethM hstat
  obtain ⟨kP, hkP, -⟩ := className_of_methodNamed hnamed
  have hinitP : kP.init = .initialized := Cond.initialized_spec (findClass_of_methodNamed hnamed) hkP hinit
  obtain ⟨vm₁, X₁, hstep₁⟩ := X.invokestatic hexec hown hlink hnamed hmethM hstatic hkP hinitP hy (g := g) hg (argsL := argsL) (rest := rest) (hlen _ hsigM) hstack hdg
  obtain ⟨v, B, X', hpost, hsteps⟩ := hK m meth c ⟨T.setVm vm₁, locs, cells, slots⟩ { g with stack := rest } (.invokestatic index) mk argsL.toArray X₁ hg hsize hdg hW (X₁.named hnamed) (hpre vm₁ X₁.warmed)
  exact ⟨v, vm₁, B, X₁.warmed, X', hpost, fun target h => hstep₁ _ fun acts => by rw [doInvoke_state]; exact hsteps.trans h⟩
theorem vx_runSW {y : MethodName} {bytes cc : ByteArray} {maxL nL mc ms n index : Nat} {ret : Option FieldType} {hh : List (Nat × Nat × Nat × Nat)} {ws : List Cond} {rm : Room} {Pc : Array Value → State → Prop} {Qc : Array Value → State → Outcome → State → Prop} {free : Addr → Prop} {Ts : List Cond} {own : String} {As rest : List Value} {g : JFrame}
    (S : CallFix p m c cc nL s args Ts own) (hM : Met l y ws rm Pc Qc mc ms free) (cw : vx_CSW R s args own index y bytes maxL ret hh ws rm mc ms n) (hp : PreS s H Pc As)
    (hg : g.method = m) (hn : As.length = n) (hsize : g.locals.size = nL) (hstack : g.stack = As.reverse ++ rest) (hW : 2 * g.monitorRoom + (rest.map fun v => v.category).sum ≤ 8) (hdg : decode cc g.pc = .ok (.invokestatic index, 3)) (hf : cells + mc ≤ R.cells ∧ slots + ms ≤ R.slots) :
    va_Run p l e R s m args below meth c H locs cells slots mc ms g rest (Qc As.toArray) (free) := by
  obtain ⟨⟨hrc, hrs, hfr, hlo, hws, hcw⟩, hcode, hini, hy, hlen, hl, hstt⟩ := cw
  have hK : Back l R p e below s args y 3 8 (PreOf R mc ms Pc) (PostOf Qc mc ms free) := va_backW (hh := hh) (bytes := bytes) (maxL := maxL) (ret := ret) hM hp.1 hrc hrs hfr hlo hws hcw (fun a' U hW => word_at hW (Or.inl (by first | rfl | simp [Cond.onTables, Cond.keeps, Cond.steady])) hini)
  obtain ⟨hx, hb, hml, ho, -⟩ := S
  intro T hT X
  obtain ⟨v, vm₁, ⟨U', l2, c2, s2⟩, hW₁, X', ⟨g', mk, t, L, e1, e2, hq, h1, hL, h2, h3⟩, st⟩ := vx_callSW X hx (hh := hh) (bytes := bytes) (maxL := maxL) (ret := ret) ho hl hstt hini hcode hy hK hg (hsize.trans hml.symm) (argsL := As) (rest := rest) (fun sig h => hn.trans (hlen sig h)) hstack hW (by rw [hb]; exact hdg)
    (fun vm₁ hW₁ => ⟨hf.1, hf.2, hp.2 (T.setVm vm₁) hT hW₁⟩)
  dsimp only [Pt.U, Pt.locs, Pt.cells, Pt.slots] at X' e1 e2 h1 h2 h3 st
  subst h1; subst h2; subst h3
  exact ⟨v, (T.setVm vm₁).calling g' mk As.toArray, t, U', L, hT, X', hL, e1, e2, hq, st⟩
/-- not caught here, past rows that name other classes: it goes on to the caller -/
theorem vx_outP {p : Program} {l : Launch} {e : Env} {R : Room} {s : State} {m : MethodId} {args : Array Value} {below : List Frame} {meth : Method} {c : Code} {H : Heap} {locs : List Loc} {cells slots : Nat} {free : Addr → Prop} {ls : Array Slot} {rest : List Value} {Qc : Array Value → State → Outcome → State → Prop} {XC : String → State → State → Prop}
    {pc : Nat} {own E : String} {ce : Cell} {q : Addr} {mc ms : Nat} (hown : s.vm.findClass own = some m.cls) (hlocks : meth.locks = false)
    (hpass : ∀ z ∈ c.exceptionTable.toList, covers z pc = false ∨ (z.catchType ≠ 0 ∧ ∃ nm : String, (Cond.classLink own z.catchType nm).before args s = true ∧ va_Nc E nm s)) (hcell : H[q]? = some ce) (hv : ce.vm = .none) (hcl : s.vm.findClass E = some ce.cls)
    (hx : ∀ t : State, t.heap = H → s.vm.Alike t.vm → XC E s t) (hf : ∀ z ∈ locs, free z.base) (hc : cells ≤ mc) (hs : slots ≤ ms) :
    vx_W p l e R s m args below meth c H locs cells slots (vx_MQ below Qc XC args s mc ms free) (F0 m pc ls rest) q := by
  intro T hT X
  have hpl : e.platform.magicAccessors = ({} : Platform).magicAccessors := by rw [X.admits.platform]
  obtain ⟨vm', hW', X', st⟩ := X.outThrough hlocks q (g := F0 m pc ls rest) rfl rfl rfl (cell := ce) (by rw [hT]; exact hcell) (by rw [hv]; rfl)
    (by obtain ⟨k9, h9, -⟩ := Vm.findClass_spec hcl; exact ⟨k9, h9⟩) (fun z hz => by
      rcases hpass z hz with h | ⟨hz0, nm, hl1, hn1⟩
      · exact Or.inl h
      · obtain ⟨c6, hc6, hcl6⟩ := Cond.classLink_spec hown hl1 e.platform hpl
        obtain ⟨a8, b8, h1, h2, h3⟩ := hn1
        cases Option.some.inj (h1.symm.trans hcl)
        cases Option.some.inj (h2.symm.trans hc6)
        exact Or.inr ⟨hz0, _, hcl6, h3⟩)
  obtain ⟨g₀, hfr⟩ := X'.frames_eq
  have hcell9 : ((T.setVm vm').setFrames (.throwing q :: below)).heap[q]? = some ce := by
    show T.heap[q]? = some ce
    rw [hT]; exact hcell
  have hend : Ended ((T.setVm vm').setFrames (.throwing q :: below)) below (.threw q) := State.frames_setFrames _ (State.cur_lt_of_frames hfr)
  refine ⟨(T.setVm vm').setFrames (.throwing q :: below), ?_, .threw q, X'.here.running, hend, Or.inr ⟨q, rfl, E, ce, locs, hx _ hT (X'.ends _).1.alike, hcell9, hv, hcl, (X'.ends _).1, (X'.ends _).2.mono hc hs, hf⟩⟩
  rw [X.pushThrowing_eq]
  exact st
/-- a thing of a world lies in the heap -/
theorem vx_lt {D : va_G} {cl : List vw_C} {ws : va_W} {H1 : Heap} (h : va_P D cl ws H1) {k : Nat} {q : Nat × va_E} (hk : ws[k]? = some q) : q.1 < H1.size := (h k q hk).lt
end VXS
/-! ===== END ===== -/
/-! ===== BEGIN methods with a table of their own: called by a name, returning or throwing ===== -/
section VXH
/-! vx_backW, vx_callVX, vx_callSX, vx_callVW, vx_runVW, vx_runVX, vx_runSX, vx_ofWH follow the same proofs as their sisters above (Free/Laws.lean, Shelf42/LK1.lean); vx_outP calls Shelf42/NT130.lean (outThrough). -/
section
variable {l : Launch} {R : Room} {p : Program} {e : Env} {below : List Frame} {s : State} {sargs : Array Value} {y : MethodName} {len W9 : Nat}
theorem vx_backW {ws : List Cond} {rm : Room} {Pc : Array Value → State → Prop} {Qc : Array Value → State → Outcome → State → Prop} {XC : String → State → State → Prop} {mc ms : Nat} {free : Addr → Prop} {bytes : ByteArray} {maxL : Nat} {ret : Option FieldType} {hh : List (Nat × Nat × Nat × Nat)}
    (hM : vx_Met l y ws rm Pc Qc XC mc ms free) (hblind : FrameBlind Pc) (hrc : rm.cells = mc) (hrs : rm.slots = ms)
    (hframes : rm.frames + 1 ≤ R.frames) (hlocals : W9 + (maxL + 11) + rm.locals ≤ R.locals)
    (hws : ∀ w ∈ ws, ∀ a' U, s.WarmedH U.vm → w.before a' U = true) (hcode : Cond.codeWith y bytes maxL ret hh ∈ ws) (hinit : ∀ a' U, s.WarmedH U.vm → (Cond.initialized y.cls).before a' U = true) :
    vx_Back l R p e below s sargs y len W9 (PreOf R mc ms Pc) (PostOf Qc mc ms free) (vx_Post XC mc ms free) := by
  intro m meth c A g ig mk a X hg hsize hdg hW hn hp
  have h1 : (headSpec ws rm).pre.before a A.U = true := atoms_intro fun w hw => hws w hw _ _ X.warmed
  have h2 : (Cond.codeWith y bytes maxL ret hh).before a A.U = true := hws _ hcode _ _ X.warmed
  have h3 : (Cond.initialized y.cls).before a A.U = true := hinit _ _ X.warmed
  have h4 : A.cells + (headSpec ws rm).room.cells ≤ R.cells := by rw [show (headSpec ws rm).room.cells = mc from hrc]; exact hp.1
  have h5 : A.slots + (headSpec ws rm).room.slots ≤ R.slots := by rw [show (headSpec ws rm).room.slots = ms from hrs]; exact hp.2.1
  have hPc : Pc a (A.U.calling g mk a) := hblind _ _ _ _ hp.2.2
  obtain ⟨U, Ls, c0, s0⟩ := A
  dsimp only [Pt.U, Pt.locs, Pt.cells, Pt.slots] at h1 h2 h3 h4 h5 X hn hPc ⊢
  obtain ⟨m9, methY, cY, hn9, hmY, hcY, -, hlY, -⟩ := Cond.codeWith_spec h2
  cases Option.some.inj (hn9.symm.trans hn)
  obtain ⟨kY, hkY, -⟩ := className_of_methodNamed hn
  have hinitY : kY.init = .initialized := Cond.initialized_spec (findClass_of_methodNamed hn) hkY h3
  have h : At U g.method c below := by rw [hg]; exact X.here
  have hlocals9 : W9 + (maxL + 11) + (headSpec ws rm).room.locals ≤ R.locals := hlocals
  have happ : (headSpec ws rm).appliesLoose y e.platform (U.calling g mk a) = true :=
    Spec.appliesLoose_calling (g := g) h hdg hn hkY hinitY
      (X.room_calling (g := g) (R' := (headSpec ws rm).room) hsize hmY hcY hframes (by rw [hlY]; omega) h4 h5) h1
  obtain ⟨mid, hmid⟩ := h.above
  have hfr : (U.setTop g).frames = (.java g :: mid) ++ below := by rw [State.frames_setTop' g h.top, hmid]; rfl
  obtain ⟨o, s₂, hsteps, -, hend, hq⟩ := Steps.callFree hM p X.admits X.cas X.clock (acts := []) hfr happ hPc trivial
  have hq' : vx_Q Qc XC mc ms free a (U.calling g mk a) o s₂ := hq
  rw [State.frames_setTop' g h.top] at hend
  obtain ⟨g₀, hg0⟩ := Option.isSome_iff_exists.mp h.top
  obtain ⟨r, hr⟩ := State.topJava?_eq_some.mp hg0
  have hr' : (({ U with heap := s₂.heap, slotsUsed := s₂.slotsUsed } : State).setVm s₂.vm).frames = .java g₀ :: r := hr
  rcases hq' with ⟨hqc, L, hfe, hL⟩ | ⟨q, rfl, E, ce, L, hx, hce, hcv, hcl, hW₂, hsm, hL⟩
  · obtain ⟨⟨v, rfl⟩, hW₂, e2, q2, q3, q4, q5, q6⟩ := id hfe
    have e3 : s₂ = ({ (U.calling g mk a).setFrames s₂.frames with heap := s₂.heap, slotsUsed := s₂.slotsUsed } : State).setVm s₂.vm := by
      have : s₂ = ({ s₂ with vm := (U.calling g mk a).vm } : State).setVm s₂.vm := rfl
      rw [e2] at this
      exact this
    obtain ⟨c₂, i₂, len₂, hc₂, hd₂, hf₂⟩ := hend
    have hW' : U.WarmedH s₂.vm := hW₂
    have hcc : c₂ = c := by
      have h1 : s₂.code? g.method = U.code? g.method := by
        rw [State.code?_eq, State.code?_eq, hW'.alike.method?]
      exact Option.some.inj (hc₂.symm.trans (h1.trans h.code))
    subst hcc
    have hlen : len₂ = len := by rw [hdg] at hd₂; cases hd₂; rfl
    subst hlen
    have hs₂ : s₂ = (({ U with heap := s₂.heap, slotsUsed := s₂.slotsUsed } : State).setVm s₂.vm).setTop { g with pc := g.pc + len₂, stack := v.toList ++ g.stack } := by
      refine e3.trans ?_
      rw [hf₂, State.calling_eq h.top, State.setFrames_setFrames, State.setTop_of_frames _ hr', hr]
      rfl
    have hsame : U.sameButNew ({ U with heap := s₂.heap, slotsUsed := s₂.slotsUsed } : State) L mc ms := by
      refine ⟨?_, q2, q3, q4, q5, q6⟩
      obtain ⟨t, ht, -⟩ := State.frames_cons hr
      show ({ U with heap := s₂.heap, slotsUsed := s₂.slotsUsed } : State) = { U.setFrames U.frames with heap := s₂.heap, slotsUsed := s₂.slotsUsed }
      rw [State.setFrames_self ht]
    subst hg
    refine Or.inl ⟨v, ⟨(({ U with heap := s₂.heap, slotsUsed := s₂.slotsUsed } : State).setVm s₂.vm), Ls ++ L, c0 + mc, s0 + ms⟩,
      ⟨X.admits, X.cas, X.clock, X.frames, X.room, X.hears, X.method, X.code, (X.here.setHeapUsed s₂.heap s₂.slotsUsed).setVm hW'.alike, X.tail, State.WarmedH.trans X.warmed hW', X.limits, X.bytes, X.same.trans (hsame.setVm s.vm)⟩,
      ⟨g, mk, s₂, L, rfl, rfl, hqc, rfl, hL, rfl, rfl⟩, ?_⟩
    show Steps p.tables e below _ ((({ U with heap := s₂.heap, slotsUsed := s₂.slotsUsed } : State).setVm s₂.vm).setTop { g with pc := g.pc + len₂, stack := v.toList ++ g.stack })
    rw [← hs₂]
    exact hsteps
  · obtain ⟨e2, q2, q3, q4, q5, q6⟩ := id hsm
    have e3 : s₂ = ({ (U.calling g mk a).setFrames s₂.frames with heap := s₂.heap, slotsUsed := s₂.slotsUsed } : State).setVm s₂.vm := by
      have : s₂ = ({ s₂ with vm := (U.calling g mk a).vm } : State).setVm s₂.vm := rfl
      rw [e2] at this
      exact this
    have hf₂ : s₂.frames = .throwing q :: .java g :: U.frames.tail := hend
    have hW' : U.WarmedH s₂.vm := hW₂
    have hs₂ : s₂ = ((({ U with heap := s₂.heap, slotsUsed := s₂.slotsUsed } : State).setVm s₂.vm).setTop g).pushFrame (.throwing q) := by
      refine e3.trans ?_
      rw [hf₂, State.calling_eq h.top, State.setFrames_setFrames, State.pushFrame, State.frames_setTop _ hr', State.setTop_of_frames _ hr', State.setFrames_setFrames, hr]
      rfl
    have hsame : U.sameButNew ({ U with heap := s₂.heap, slotsUsed := s₂.slotsUsed } : State) L mc ms := by
      refine ⟨?_, q2, q3, q4, q5, q6⟩
      obtain ⟨t, ht, -⟩ := State.frames_cons hr
      show ({ U with heap := s₂.heap, slotsUsed := s₂.slotsUsed } : State) = { U.setFrames U.frames with heap := s₂.heap, slotsUsed := s₂.slotsUsed }
      rw [State.setFrames_self ht]
    subst hg
    refine Or.inr ⟨q, ⟨(({ U with heap := s₂.heap, slotsUsed := s₂.slotsUsed } : State).setVm s₂.vm), Ls ++ L, c0 + mc, s0 + ms⟩,
      ⟨X.admits, X.cas, X.clock, X.frames, X.room, X.hears, X.method, X.code, (X.here.setHeapUsed s₂.heap s₂.slotsUsed).setVm hW'.alike, X.tail, State.WarmedH.trans X.warmed hW', X.limits, X.bytes, X.same.trans (hsame.setVm s.vm)⟩,
      ⟨g, mk, s₂, L, E, ce, rfl, rfl, hx, hce, hcv, hcl, rfl, hL, rfl, rfl⟩, ?_⟩
    show Steps p.tables e below _ (((({ U with heap := s₂.heap, slotsUsed := s₂.slotsUsed } : State).setVm s₂.vm).setTop g).pushFrame (.throwing q))
    rw [← hs₂]
    exact hsteps
end
variable {p : Program} {l : Launch} {e : Env} {R : Room} {s : State} {m : MethodId} {args : Array Value} {below : List Frame} {meth : Method} {c : Code} {T : State} {H : Heap} {locs : List Loc} {cells slots : Nat}
theorem vx_callVX (X : Stand p l e R s m args below meth c T locs cells slots) (hexec : p.tables.exec = Jvm.exec) {own C : String} {index : Nat} {y : MethodName} {bytes : ByteArray} {maxL : Nat} {ret : Option FieldType} {hh : List (Nat × Nat × Nat × Nat)}
    (hown : s.vm.findClass own = some m.cls) (hlink : (Cond.methodLink own index y).before args s = true) (hinst : (Cond.instanceMethod y).before args s = true) (hsel : (Cond.selects C y y).before args s = true)
    (hcode : (Cond.codeWith y bytes maxL ret hh).before args s = true) (hy : y.cls ≠ "java/lang/invoke/MethodHandle" ∧ y.cls ≠ "java/lang/invoke/VarHandle")
    {W9 : Nat} {Pre : Pt → Array Value → Prop} {Post : Pt → Array Value → Option Value → Pt → Prop} {PostX : Pt → Array Value → Addr → Pt → Prop} (hK : vx_Back l R p e below s args y 3 W9 Pre Post PostX)
    {b : Addr} {cellB : Cell} (hcell : T.heap[b]? = some cellB) (hobj : cellB.vm.isStatics = false) (hcls : s.vm.findClass C = some cellB.cls)
    {g : JFrame} (hg : g.method = m) (hsize : g.locals.size = c.maxLocals) {argsL rest : List Value} (hlen : ∀ sig, parseMethodDescriptor y.desc = some sig → argsL.length = sig.parameters.length)
    (hstack : g.stack = argsL.reverse ++ .ref b :: rest) (hW : 2 * g.monitorRoom + (rest.map fun v => v.category).sum ≤ W9) (hdg : decode c.code g.pc = .ok (.invokevirtual index, 3))
    (hpre : ∀ vm₁, s.WarmedH vm₁ → Pre ⟨T.setVm vm₁, locs, cells, slots⟩ (Value.ref b :: argsL).toArray) :
    (∃ (v : Option Value) (vm₁ : Vm) (B : Pt), s.WarmedH vm₁ ∧ Stand p l e R s m args below meth c B.U B.locs B.cells B.slots ∧ Post ⟨T.setVm vm₁, locs, cells, slots⟩ (Value.ref b :: argsL).toArray v B ∧
      ∀ target, Steps p.tables e below (B.U.setTop { g with pc := g.pc + 3, stack := v.toList ++ rest }) target → Steps p.tables e below (T.setTop g) target) ∨
    (∃ (q : Addr) (vm₁ : Vm) (B : Pt), s.WarmedH vm₁ ∧ Stand p l e R s m args below meth c B.U B.locs B.cells B.slots ∧ PostX ⟨T.setVm vm₁, locs, cells, slots⟩ (Value.ref b :: argsL).toArray q B ∧
      Steps p.tables e below (T.setTop g) ((B.U.setTop { g with stack := rest }).pushFrame (.throwing q))) := by
  obtain ⟨mk, methM, hnamed, hmethM, hstM, habM⟩ := Cond.instanceMethod_spec hinst
  obtain ⟨m8, methM', cM, hn8, hmethM', -, -, -, -, -, -, hsigM⟩ := Cond.codeWith_spec hcode
  cases Option.some.inj (hn8.symm.trans hnamed)
  cases hmethM.symm.trans hmethM'
  obtain ⟨c2, r2, m2, q1, q2, q3, q4, kP, hkP, hkPi⟩ := Cond.selects_spec hsel
  cases hcls.symm.trans q1
  cases (State.methodFound?_of_named hnamed hy).symm.trans q2
  cases hnamed.symm.trans q3
  have hselP : selectMethod e.platform s.vm cellB.cls mk = .method mk := by rw [Launch.admits_selectMethod X.admits]; exact q4
  obtain ⟨vm₁, X₁, hstep₁⟩ := X.invokevirtual hexec hown hlink hnamed hmethM hstM hkP hkPi hy (a := b) (cell := cellB) hcell
    (fun z h => by rw [h] at hobj; cases hobj) hselP hmethM habM hkP hkPi (g := g) hg (argsL := argsL) (rest := rest) (hlen _ hsigM) hstack hdg
  rcases hK m meth c ⟨T.setVm vm₁, locs, cells, slots⟩ { g with stack := rest } (.invokevirtual index) mk (Value.ref b :: argsL).toArray X₁ hg hsize hdg hW (X₁.named hnamed) (hpre vm₁ X₁.warmed) with ⟨v, B, X', hpost, hsteps⟩ | ⟨q, B, X', hpost, hsteps⟩
  · exact Or.inl ⟨v, vm₁, B, X₁.warmed, X', hpost, fun target h => hstep₁ _ fun acts => by rw [doInvoke_state]; exact hsteps.trans h⟩
  · exact Or.inr ⟨q, vm₁, B, X₁.warmed, X', hpost, hstep₁ _ fun acts => by rw [doInvoke_state]; exact hsteps⟩
theorem vx_callSX (X : Stand p l e R s m args below meth c T locs cells slots) (hexec : p.tables.exec = Jvm.exec) {own : String} {index : Nat} {y : MethodName} {bytes : ByteArray} {maxL : Nat} {ret : Option FieldType} {hh : List (Nat × Nat × Nat × Nat)}
    (hown : s.vm.findClass own = some m.cls) (hlink : (Cond.methodLink own index y).before args s = true) (hstat : (Cond.static y).before args s = true) (hinit : (Cond.initialized y.cls).before args s = true)
    (hcode : (Cond.codeWith y bytes maxL ret hh).before args s = true) (hy : y.cls ≠ "java/lang/invoke/MethodHandle" ∧ y.cls ≠ "java/lang/invoke/VarHandle")
    {W9 : Nat} {Pre : Pt → Array Value → Prop} {Post : Pt → Array Value → Option Value → Pt → Prop} {PostX : Pt → Array Value → Addr → Pt → Prop} (hK : vx_Back l R p e below s args y 3 W9 Pre Post PostX)
    {g : JFrame} (hg : g.method = m) (hsize : g.locals.size = c.maxLocals) {argsL rest : List Value} (hlen : ∀ sig, parseMethodDescriptor y.desc = some sig → argsL.length = sig.parameters.length)
    (hstack : g.stack = argsL.reverse ++ rest) (hW : 2 * g.monitorRoom + (rest.map fun v => v.category).sum ≤ W9) (hdg : decode c.code g.pc = .ok (.invokestatic index, 3))
    (hpre : ∀ vm₁, s.WarmedH vm₁ → Pre ⟨T.setVm vm₁, locs, cells, slots⟩ argsL.toArray) :
    (∃ (v : Option Value) (vm₁ : Vm) (B : Pt), s.WarmedH vm₁ ∧ Stand p l e R s m args below meth c B.U B.locs B.cells B.slots ∧ Post ⟨T.setVm vm₁, locs, cells, slots⟩ argsL.toArray v B ∧
      ∀ target, Steps p.tables e below (B.U.setTop { g with pc := g.pc + 3, stack := v.toList ++ rest }) target → Steps p.tables e below (T.setTop g) target) ∨
    (∃ (q : Addr) (vm₁ : Vm) (B : Pt), s.WarmedH vm₁ ∧ Stand p l e R s m args below meth c B.U B.locs B.cells B.slots ∧ PostX ⟨T.setVm vm₁, locs, cells, slots⟩ argsL.toArray q B ∧
      Steps p.tables e below (T.setTop g) ((B.U.setTop { g with stack := rest }).pushFrame (.throwing q))) := by
  obtain ⟨mk, methM, cM, hnamed, hmethM, -, -, -, -, -, -, hsigM⟩ := Cond.codeWith_spec hcode
  have hstatic : methM.isStatic = true := Cond.static_spec hnamed hmethM hstat
  obtain ⟨kP, hkP, -⟩ := className_of_methodNamed hnamed
  have hinitP : kP.init = .initialized := Cond.initialized_spec (findClass_of_methodNamed hnamed) hkP hinit
  obtain ⟨vm₁, X₁, hstep₁⟩ := X.invokestatic hexec hown hlink hnamed hmethM hstatic hkP hinitP hy (g := g) hg (argsL := argsL) (rest := rest) (hlen _ hsigM) hstack hdg
  rcases hK m meth c ⟨T.setVm vm₁, locs, cells, slots⟩ { g with stack := rest } (.invokestatic index) mk argsL.toArray X₁ hg hsize hdg hW (X₁.named hnamed) (hpre vm₁ X₁.warmed) with ⟨v, B, X', hpost, hsteps⟩ | ⟨q, B, X', hpost, hsteps⟩
  · exact Or.inl ⟨v, vm₁, B, X₁.warmed, X', hpost, fun target h => hstep₁ _ fun acts => by rw [doInvoke_state]; exact hsteps.trans h⟩
  · exact Or.inr ⟨q, vm₁, B, X₁.warmed, X', hpost, hstep₁ _ fun acts => by rw [doInvoke_state]; exact hsteps⟩
theorem vx_callVW (X : Stand p l e R s m args below meth c T locs cells slots) (hexec : p.tables.exec = Jvm.exec) {own C : String} {index : Nat} {y : MethodName} {bytes : ByteArray} {maxL : Nat} {ret : Option FieldType} {hh : List (Nat × Nat × Nat × Nat)}
    (hown : s.vm.findClass own = some m.cls) (hlink : (Cond.methodLink own index y).before args s = true) (hinst : (Cond.instanceMethod y).before args s = true) (hsel : (Cond.selects C y y).before args s = true)
    (hcode : (Cond.codeWith y bytes maxL ret hh).before args s = true) (hy : y.cls ≠ "java/lang/invoke/MethodHandle" ∧ y.cls ≠ "java/lang/invoke/VarHandle")
    {W9 : Nat} {Pre : Pt → Array Value → Prop} {Post : Pt → Array Value → Option Value → Pt → Prop} (hK : Back l R p e below s args y 3 W9 Pre Post)
    {b : Addr} {cellB : Cell} (hcell : T.heap[b]? = some cellB) (hobj : cellB.vm.isStatics = false) (hcls : s.vm.findClass C = some cellB.cls)
    {g : JFrame} (hg : g.method = m) (hsize : g.locals.size = c.maxLocals) {argsL rest : List Value} (hlen : ∀ sig, parseMethodDescriptor y.desc = some sig → argsL.length = sig.parameters.length)
    (hstack : g.stack = argsL.reverse ++ .ref b :: rest) (hW : 2 * g.monitorRoom + (rest.map fun v => v.category).sum ≤ W9) (hdg : decode c.code g.pc = .ok (.invokevirtual index, 3))
    (hpre : ∀ vm₁, s.WarmedH vm₁ → Pre ⟨T.setVm vm₁, locs, cells, slots⟩ (Value.ref b :: argsL).toArray) :
    ∃ (v : Option Value) (vm₁ : Vm) (B : Pt), s.WarmedH vm₁ ∧ Stand p l e R s m args below meth c B.U B.locs B.cells B.slots ∧ Post ⟨T.setVm vm₁, locs, cells, slots⟩ (Value.ref b :: argsL).toArray v B ∧
      ∀ target, Steps p.tables e below (B.U.setTop { g with pc := g.pc + 3, stack := v.toList ++ rest }) target → Steps p.tables e below (T.setTop g) target := by
  obtain ⟨mk, methM, hnamed, hmethM, hstM, habM⟩ := Cond.instanceMethod_spec hinst
  obtain ⟨m8, methM', cM, hn8, hmethM', -, -, -, -, -, -, hsigM⟩ := Cond.codeWith_spec hcode
  cases Option.some.inj (hn8.symm.trans hnamed)
  cases hmethM.symm.trans hmethM'
  obtain ⟨c2, r2, m2, q1, q2, q3, q4, kP, hkP, hkPi⟩ := Cond.selects_spec hsel
  cases hcls.symm.trans q1
  cases (State.methodFound?_of_named hnamed hy).symm.trans q2
  cases hnamed.symm.trans q3
  have hselP : selectMethod e.platform s.vm cellB.cls mk = .method mk := by rw [Launch.admits_selectMethod X.admits]; exact q4
  obtain ⟨vm₁, X₁, hstep₁⟩ := X.invokevirtual hexec hown hlink hnamed hmethM hstM hkP hkPi hy (a := b) (cell := cellB) hcell
    (fun z h => by rw [h] at hobj; cases hobj) hselP hmethM habM hkP hkPi (g := g) hg (argsL := argsL) (rest := rest) (hlen _ hsigM) hstack hdg
  obtain ⟨v, B, X', hpost, hsteps⟩ := hK m meth c ⟨T.setVm vm₁, locs, cells, slots⟩ { g with stack := rest } (.invokevirtual index) mk (Value.ref b :: argsL).toArray X₁ hg hsize hdg hW (X₁.named hnamed) (hpre vm₁ X₁.warmed)
  exact ⟨v, vm₁, B, X₁.warmed, X', hpost, fun target h => hstep₁ _ fun acts => by rw [doInvoke_state]; exact hsteps.trans h⟩
abbrev vx_CVW (R : Room) (s : State) (args : Array Value) (own C : String) (index : Nat) (y : MethodName) (bytes : ByteArray) (maxL : Nat) (ret : Option FieldType) (hh : List (Nat × Nat × Nat × Nat)) (ws : List Cond) (rm : Room) (mc ms n : Nat) : Prop :=
  (rm.cells = mc ∧ rm.slots = ms ∧ rm.frames + 1 ≤ R.frames ∧ 8 + (maxL + 11) + rm.locals ≤ R.locals ∧ (∀ w ∈ ws, ∀ (a' : Array Value) (U : State), s.WarmedH U.vm → w.before a' U = true) ∧ Cond.codeWith y bytes maxL ret hh ∈ ws) ∧
  (Cond.codeWith y bytes maxL ret hh).before args s = true ∧ (Cond.initialized y.cls).before args s = true ∧ (y.cls ≠ "java/lang/invoke/MethodHandle" ∧ y.cls ≠ "java/lang/invoke/VarHandle") ∧
  (∀ sig, parseMethodDescriptor y.desc = some sig → n = sig.parameters.length) ∧ (Cond.methodLink own index y).before args s = true ∧ (Cond.instanceMethod y).before args s = true ∧ (Cond.selects C y y).before args s = true
theorem vx_cwVW {own C : String} {index maxL mc ms : Nat} {y : MethodName} {bytes : ByteArray} {ret : Option FieldType} {hh : List (Nat × Nat × Nat × Nat)} {Ts ws ws' : List Cond} {rm : Room} (n : Nat) (ht : ∀ w ∈ Ts, w.before args s = true) (hT : GoodIn Ts (wsV own index C y ws)) (hw : ws = Cond.codeWith y bytes maxL ret hh :: ws') (hrc : rm.cells = mc) (hrs : rm.slots = ms)
    (hd : y.cls = C ∧ y.cls ≠ "java/lang/invoke/MethodHandle" ∧ y.cls ≠ "java/lang/invoke/VarHandle" ∧ (parseMethodDescriptor y.desc).map (fun d => d.parameters.length) = some n) (hR : rm.frames + 1 ≤ R.frames ∧ 8 + (maxL + 11) + rm.locals ≤ R.locals) :
    vx_CVW R s args own C index y bytes maxL ret hh ws rm mc ms n := by
  obtain ⟨hC, hd⟩ := hd
  subst hC
  have ok : ∀ w ∈ wsV own index y.cls y ws, w.before args s = true := fun w h => ht w (hT w h).1
  have hG : GoodIn Ts ws := fun w h => hT w (by unfold wsV; exact List.mem_append_right _ h)
  have hc : Cond.codeWith y bytes maxL ret hh ∈ ws := by rw [hw]; exact List.mem_cons_self
  refine ⟨⟨hrc, hrs, hR.1, hR.2, pay_in ht hG, hc⟩, ht _ (hG _ hc).1, ok _ (by simp [wsV]), ⟨hd.1, hd.2.1⟩, fun sig h => ?_, ok _ (by simp [wsV]), ok _ (by simp [wsV]), ok _ (by simp [wsV])⟩
  have h2 := hd.2.2
  rw [h] at h2
  exact (Option.some.inj h2).symm
theorem vx_runVW {y : MethodName} {bytes cc : ByteArray} {maxL nL mc ms n index : Nat} {ret : Option FieldType} {hh : List (Nat × Nat × Nat × Nat)} {ws : List Cond} {rm : Room} {Pc : Array Value → State → Prop} {Qc : Array Value → State → Outcome → State → Prop} {free : Addr → Prop} {Ts : List Cond} {own C : String} {b : Addr} {As rest : List Value} {g : JFrame}
    (S : CallFix p m c cc nL s args Ts own) (hM : Met l y ws rm Pc Qc mc ms free) (cw : vx_CVW R s args own C index y bytes maxL ret hh ws rm mc ms n) (hp : PreV s H C b Pc As)
    (hg : g.method = m) (hn : As.length = n) (hsize : g.locals.size = nL) (hstack : g.stack = As.reverse ++ .ref b :: rest) (hW : 2 * g.monitorRoom + (rest.map fun v => v.category).sum ≤ 8) (hdg : decode cc g.pc = .ok (.invokevirtual index, 3)) (hf : cells + mc ≤ R.cells ∧ slots + ms ≤ R.slots) :
    va_Run p l e R s m args below meth c H locs cells slots mc ms g rest (Qc (Value.ref b :: As).toArray) free := by
  obtain ⟨⟨hrc, hrs, hfr, hlo, hws, hcw⟩, hcode, hini, hy, hlen, hl, hin, hse⟩ := cw
  have hK : Back l R p e below s args y 3 8 (PreOf R mc ms Pc) (PostOf Qc mc ms free) := va_backW (hh := hh) (bytes := bytes) (maxL := maxL) (ret := ret) hM hp.1 hrc hrs hfr hlo hws hcw (fun a' U hW => word_at hW (Or.inl (by first | rfl | simp [Cond.onTables, Cond.keeps, Cond.steady])) hini)
  obtain ⟨hx, hb, hml, ho, -⟩ := S
  obtain ⟨-, ⟨cellB, hcB, hoB, hclB⟩, hPc⟩ := hp
  intro T hT X
  obtain ⟨v, vm₁, ⟨U', l2, c2, s2⟩, hW₁, X', ⟨g', mk, t, L, e1, e2, hq, h1, hL, h2, h3⟩, st⟩ := vx_callVW X hx (C := C) (hh := hh) (bytes := bytes) (maxL := maxL) (ret := ret) ho hl hin hse hcode hy hK (by rw [hT]; exact hcB) hoB hclB hg (hsize.trans hml.symm) (argsL := As) (rest := rest) (fun sig h => hn.trans (hlen sig h)) hstack hW (by rw [hb]; exact hdg)
    (fun vm₁ hW₁ => ⟨hf.1, hf.2, hPc (T.setVm vm₁) hT hW₁⟩)
  dsimp only [Pt.U, Pt.locs, Pt.cells, Pt.slots] at X' e1 e2 h1 h2 h3 st
  subst h1; subst h2; subst h3
  exact ⟨v, (T.setVm vm₁).calling g' mk (Value.ref b :: As).toArray, t, U', L, hT, X', hL, e1, e2, hq, st⟩
section
variable {y : MethodName} {bytes cc : ByteArray} {maxL nL mc ms n index : Nat} {ret : Option FieldType} {ws : List Cond} {rm : Room} {Pc : Array Value → State → Prop} {Qc : Array Value → State → Outcome → State → Prop} {XC : String → State → State → Prop} {free : Addr → Prop} {Ts : List Cond} {own C : String} {b : Addr} {As rest : List Value} {g : JFrame}
theorem vx_runVX {hh : List (Nat × Nat × Nat × Nat)} (S : CallFix p m c cc nL s args Ts own) (hM : vx_Met l y ws rm Pc Qc XC mc ms free) (cw : vx_CVW R s args own C index y bytes maxL ret hh ws rm mc ms n) (hp : PreV s H C b Pc As)
    (hg : g.method = m) (hn : As.length = n) (hsize : g.locals.size = nL) (hstack : g.stack = As.reverse ++ .ref b :: rest) (hW : 2 * g.monitorRoom + (rest.map fun v => v.category).sum ≤ 8) (hdg : decode cc g.pc = .ok (.invokevirtual index, 3)) (hf : cells + mc ≤ R.cells ∧ slots + ms ≤ R.slots) :
    vx_Run p l e R s m args below meth c H locs cells slots mc ms g rest (Qc (Value.ref b :: As).toArray) XC free := by
  obtain ⟨⟨hrc, hrs, hfr, hlo, hws, hcw⟩, hcode, hini, hy, hlen, hl, hin, hse⟩ := cw
  have hK : vx_Back l R p e below s args y 3 8 (PreOf R mc ms Pc) (PostOf Qc mc ms free) (vx_Post XC mc ms free) := vx_backW (hh := hh) (bytes := bytes) (maxL := maxL) (ret := ret) hM hp.1 hrc hrs hfr hlo hws hcw (fun a' U hW => word_at hW (Or.inl (by first | rfl | simp [Cond.onTables, Cond.keeps, Cond.steady])) hini)
  obtain ⟨hx, hb, hml, ho, -⟩ := S
  obtain ⟨-, ⟨cellB, hcB, hoB, hclB⟩, hPc⟩ := hp
  intro T hT X
  rcases vx_callVX X hx (C := C) (hh := hh) (bytes := bytes) (maxL := maxL) (ret := ret) ho hl hin hse hcode hy hK (by rw [hT]; exact hcB) hoB hclB hg (hsize.trans hml.symm) (argsL := As) (rest := rest) (fun sig h => hn.trans (hlen sig h)) hstack hW (by rw [hb]; exact hdg)
    (fun vm₁ hW₁ => ⟨hf.1, hf.2, hPc (T.setVm vm₁) hT hW₁⟩) with ⟨v, vm₁, ⟨U', l2, c2, s2⟩, hW₁, X', ⟨g', mk, t, L, e1, e2, hq, h1, hL, h2, h3⟩, st⟩ | ⟨q, vm₁, ⟨U', l2, c2, s2⟩, hW₁, X', ⟨g', mk, t, L, E, ce, e1, e2, hq, hce, hcv, hcl, h1, hL, h2, h3⟩, st⟩
  · dsimp only [Pt.U, Pt.locs, Pt.cells, Pt.slots] at X' e1 e2 h1 h2 h3 st
    subst h1; subst h2; subst h3
    exact Or.inl ⟨v, (T.setVm vm₁).calling g' mk (Value.ref b :: As).toArray, t, U', L, hT, X', hL, e1, e2, hq, st⟩
  · dsimp only [Pt.U, Pt.locs, Pt.cells, Pt.slots] at X' e1 e2 h1 h2 h3 st hcl
    subst h1; subst h2; subst h3
    exact Or.inr ⟨q, (T.setVm vm₁).calling g' mk (Value.ref b :: As).toArray, t, U', L, E, ce, hT, X', hL, e1, e2, hq, hce, hcv, vx_cls hW₁ hcl, st⟩
theorem vx_runSX {hh : List (Nat × Nat × Nat × Nat)} (S : CallFix p m c cc nL s args Ts own) (hM : vx_Met l y ws rm Pc Qc XC mc ms free) (cw : vx_CSW R s args own index y bytes maxL ret hh ws rm mc ms n) (hp : PreS s H Pc As)
    (hg : g.method = m) (hn : As.length = n) (hsize : g.locals.size = nL) (hstack : g.stack = As.reverse ++ rest) (hW : 2 * g.monitorRoom + (rest.map fun v => v.category).sum ≤ 8) (hdg : decode cc g.pc = .ok (.invokestatic index, 3)) (hf : cells + mc ≤ R.cells ∧ slots + ms ≤ R.slots) :
    vx_Run p l e R s m args below meth c H locs cells slots mc ms g rest (Qc As.toArray) XC free := by
  obtain ⟨⟨hrc, hrs, hfr, hlo, hws, hcw⟩, hcode, hini, hy, hlen, hl, hstt⟩ := cw
  have hK : vx_Back l R p e below s args y 3 8 (PreOf R mc ms Pc) (PostOf Qc mc ms free) (vx_Post XC mc ms free) := vx_backW (hh := hh) (bytes := bytes) (maxL := maxL) (ret := ret) hM hp.1 hrc hrs hfr hlo hws hcw (fun a' U hW => word_at hW (Or.inl (by first | rfl | simp [Cond.onTables, Cond.keeps, Cond.steady])) hini)
  obtain ⟨hx, hb, hml, ho, -⟩ := S
  intro T hT X
  rcases vx_callSX X hx (hh := hh) (bytes := bytes) (maxL := maxL) (ret := ret) ho hl hstt hini hcode hy hK hg (hsize.trans hml.symm) (argsL := As) (rest := rest) (fun sig h => hn.trans (hlen sig h)) hstack hW (by rw [hb]; exact hdg)
    (fun vm₁ hW₁ => ⟨hf.1, hf.2, hp.2 (T.setVm vm₁) hT hW₁⟩) with ⟨v, vm₁, ⟨U', l2, c2, s2⟩, hW₁, X', ⟨g', mk, t, L, e1, e2, hq, h1, hL, h2, h3⟩, st⟩ | ⟨q, vm₁, ⟨U', l2, c2, s2⟩, hW₁, X', ⟨g', mk, t, L, E, ce, e1, e2, hq, hce, hcv, hcl, h1, hL, h2, h3⟩, st⟩
  · dsimp only [Pt.U, Pt.locs, Pt.cells, Pt.slots] at X' e1 e2 h1 h2 h3 st
    subst h1; subst h2; subst h3
    exact Or.inl ⟨v, (T.setVm vm₁).calling g' mk As.toArray, t, U', L, hT, X', hL, e1, e2, hq, st⟩
  · dsimp only [Pt.U, Pt.locs, Pt.cells, Pt.slots] at X' e1 e2 h1 h2 h3 st hcl
    subst h1; subst h2; subst h3
    exact Or.inr ⟨q, (T.setVm vm₁).calling g' mk As.toArray, t, U', L, E, ce, hT, X', hL, e1, e2, hq, hce, hcv, vx_cls hW₁ hcl, st⟩
end
end VXH
theorem vx_ofWH {l : Launch} {y : MethodName} {ws ws' : List Cond} {rm : Room} {Pc : Array Value → State → Prop} {Qc : Array Value → State → Outcome → State → Prop} {XC : String → State → State → Prop} {mc ms : Nat} {free : Addr → Prop} {cc : ByteArray} {maxL : Nat} {ret : Option FieldType} {hh : List (Nat × Nat × Nat × Nat)}
    (hy : plainName y.cls = true) (hw : ws = Cond.codeWith y cc maxL ret hh :: ws')
    (body : ∀ p e s m args below meth c s₁, BodyLoose p l y (headSpec ws rm) cc maxL ret e s m args below meth c s₁ → c.maxLocals = maxL → Pc args s →
      W p l e (headSpec ws rm).room s m args below meth c s.heap [] 0 0 (vx_MQ below Qc XC args s mc ms free) (entryFrame m args maxL)) : vx_Met l y ws rm Pc Qc XC mc ms free := by
  refine MetFree.of_bodyS (code := cc) (maxLocals := maxL) (ret := ret) hy ?_ ?_
  · intro args s m h hn
    obtain ⟨m9, meth, c, hn9, h1, h2, h3, h4, -, h5, h6, -⟩ := Cond.codeWith_spec (atoms_spec (ws := ws) h _ (by rw [hw]; exact List.mem_cons_self))
    cases hn.symm.trans hn9
    exact ⟨meth, c, h1, h2, h3, h4, h5, h6⟩
  · intro p e s m args below meth c s₁ B hml hP _
    have hh0 : s₁.heap = s.heap := by rw [B.state]; rfl
    obtain ⟨t, a1, o, b1, b2, b3⟩ := body p e s m args below meth c s₁ B hml hP s₁ hh0 (Stand.of_body B)
    exact ⟨t, o, a1, b1, b2, b3⟩
/-! ===== END ===== -/
end
section
def RX0 : String := "Clueyard$Clues"
def TX0 : u_T := fun k => match k with
  | 0 => ("Clueyard$Clues", "wordOf", "[I", true)
  | 1 => ("Clueyard$Clues", "stages", "[I", true)
  | 2 => ("Clueyard$Clues", "lastDays", "[I", true)
  | 3 => ("Clueyard$Clues", "chosenOf", "[I", true)
  | _ => ("Clueyard$Clues", "count", "I", false)
def tyX0 : Nat → FieldType := fun k => match k with
  | 0 => .array .int
  | 1 => .array .int
  | 2 => .array .int
  | 3 => .array .int
  | _ => .int
abbrev wsX00 : List Cond := u_ws RX0 TX0 5
theorem nmX0 : ∀ a, a < 5 → ∀ b, b < 5 → a ≠ b → (TX0 a).2.1 ≠ (TX0 b).2.1 := by decide +kernel
theorem tyX0_ok : ∀ k, k < 5 → parseFieldDescriptor (TX0 k).2.2.1 = some (tyX0 k) := by decide +kernel
abbrev cX0_init : ByteArray := prog_2_method_1_code
def yX0_init : MethodName := ⟨RX0, "<init>", "()V"⟩
abbrev cX0_count : ByteArray := prog_2_method_2_code
def yX0_count : MethodName := ⟨RX0, "count", "()I"⟩
abbrev cX0_add : ByteArray := prog_2_method_3_code
def yX0_add : MethodName := ⟨RX0, "add", "(I)I"⟩
abbrev cX0_isReady : ByteArray := prog_2_method_4_code
def yX0_isReady : MethodName := ⟨RX0, "isReady", "(I)Z"⟩
abbrev cX0_look : ByteArray := prog_2_method_5_code
def yX0_look : MethodName := ⟨RX0, "look", "(IZ)I"⟩
abbrev cX0_lastDay : ByteArray := prog_2_method_6_code
def yX0_lastDay : MethodName := ⟨RX0, "lastDay", "(I)I"⟩
abbrev cX0_chosen : ByteArray := prog_2_method_7_code
def yX0_chosen : MethodName := ⟨RX0, "chosen", "(I)I"⟩
abbrev cX0_choose : ByteArray := prog_2_method_8_code
def yX0_choose : MethodName := ⟨RX0, "choose", "(III)Z"⟩
abbrev cX0_canBeUsed : ByteArray := prog_2_method_9_code
def yX0_canBeUsed : MethodName := ⟨RX0, "canBeUsed", "(II)Z"⟩
abbrev cX0_isChosenAhead : ByteArray := prog_2_method_10_code
def yX0_isChosenAhead : MethodName := ⟨RX0, "isChosenAhead", "(II)Z"⟩
abbrev cX0_useChosen : ByteArray := prog_2_method_11_code
def yX0_useChosen : MethodName := ⟨RX0, "useChosen", "(I)V"⟩
def RX1 : String := "Clueyard$Events"
def TX1 : u_T := fun k => match k with
  | 0 => ("Clueyard$Events", "solverOf", "[I", true)
  | 1 => ("Clueyard$Events", "puzzleOf", "[I", true)
  | 2 => ("Clueyard$Events", "partOf", "[I", true)
  | 3 => ("Clueyard$Events", "hours", "[I", true)
  | _ => ("Clueyard$Events", "count", "I", false)
def tyX1 : Nat → FieldType := fun k => match k with
  | 0 => .array .int
  | 1 => .array .int
  | 2 => .array .int
  | 3 => .array .int
  | _ => .int
abbrev wsX10 : List Cond := u_ws RX1 TX1 5
theorem nmX1 : ∀ a, a < 5 → ∀ b, b < 5 → a ≠ b → (TX1 a).2.1 ≠ (TX1 b).2.1 := by decide +kernel
theorem tyX1_ok : ∀ k, k < 5 → parseFieldDescriptor (TX1 k).2.2.1 = some (tyX1 k) := by decide +kernel
abbrev cX1_init : ByteArray := prog_3_method_1_code
def yX1_init : MethodName := ⟨RX1, "<init>", "()V"⟩
abbrev cX1_count : ByteArray := prog_3_method_2_code
def yX1_count : MethodName := ⟨RX1, "count", "()I"⟩
abbrev cX1_add : ByteArray := prog_3_method_3_code
def yX1_add : MethodName := ⟨RX1, "add", "(IIII)V"⟩
abbrev cX1_solver : ByteArray := prog_3_method_4_code
def yX1_solver : MethodName := ⟨RX1, "solver", "(I)I"⟩
abbrev cX1_puzzle : ByteArray := prog_3_method_5_code
def yX1_puzzle : MethodName := ⟨RX1, "puzzle", "(I)I"⟩
abbrev cX1_part : ByteArray := prog_3_method_6_code
def yX1_part : MethodName := ⟨RX1, "part", "(I)I"⟩
abbrev cX1_hourOf : ByteArray := prog_3_method_7_code
def yX1_hourOf : MethodName := ⟨RX1, "hourOf", "(I)I"⟩
def RX2 : String := "Clueyard$Progress"
def TX2 : u_T := fun k => match k with
  | 0 => ("Clueyard$Progress", "rightHours", "[I", true)
  | 1 => ("Clueyard$Progress", "counting", "[Z", true)
  | _ => ("Clueyard$Progress", "offset", "I", false)
def tyX2 : Nat → FieldType := fun k => match k with
  | 0 => .array .int
  | 1 => .array .boolean
  | _ => .int
abbrev wsX20 : List Cond := u_ws RX2 TX2 3
theorem nmX2 : ∀ a, a < 3 → ∀ b, b < 3 → a ≠ b → (TX2 a).2.1 ≠ (TX2 b).2.1 := by decide +kernel
theorem tyX2_ok : ∀ k, k < 3 → parseFieldDescriptor (TX2 k).2.2.1 = some (tyX2 k) := by decide +kernel
abbrev cX2_init : ByteArray := prog_4_method_1_code
def yX2_init : MethodName := ⟨RX2, "<init>", "()V"⟩
abbrev cX2_begin : ByteArray := prog_4_method_2_code
def yX2_begin : MethodName := ⟨RX2, "begin", "(I)V"⟩
abbrev cX2_hoursAhead : ByteArray := prog_4_method_3_code
def yX2_hoursAhead : MethodName := ⟨RX2, "hoursAhead", "()I"⟩
abbrev cX2_isRight : ByteArray := prog_4_method_4_code
def yX2_isRight : MethodName := ⟨RX2, "isRight", "(II)Z"⟩
abbrev cX2_setRight : ByteArray := prog_4_method_5_code
def yX2_setRight : MethodName := ⟨RX2, "setRight", "(III)V"⟩
abbrev cX2_solvedHour : ByteArray := prog_4_method_6_code
def yX2_solvedHour : MethodName := ⟨RX2, "solvedHour", "(III)I"⟩
abbrev cX2_countIfSolved : ByteArray := prog_4_method_7_code
def yX2_countIfSolved : MethodName := ⟨RX2, "countIfSolved", "(III)V"⟩
abbrev cX2_daysInARow : ByteArray := prog_4_method_8_code
def yX2_daysInARow : MethodName := ⟨RX2, "daysInARow", "(I)I"⟩
abbrev cX2_dayIndex : ByteArray := prog_4_method_9_code
def yX2_dayIndex : MethodName := ⟨RX2, "dayIndex", "(I)I"⟩
def RX3 : String := "Clueyard$Puzzle"
def TX3 : u_T := fun k => match k with
  | 0 => ("Clueyard$Puzzle", "letters", "[I", true)
  | 1 => ("Clueyard$Puzzle", "cluesOf", "[I", true)
  | 2 => ("Clueyard$Puzzle", "appeared", "I", false)
  | 3 => ("Clueyard$Puzzle", "wrong", "I", false)
  | _ => ("Clueyard$Puzzle", "opened", "I", false)
def tyX3 : Nat → FieldType := fun k => match k with
  | 0 => .array .int
  | 1 => .array .int
  | 2 => .int
  | 3 => .int
  | _ => .int
abbrev wsX30 : List Cond := u_ws RX3 TX3 5
theorem nmX3 : ∀ a, a < 5 → ∀ b, b < 5 → a ≠ b → (TX3 a).2.1 ≠ (TX3 b).2.1 := by decide +kernel
theorem tyX3_ok : ∀ k, k < 5 → parseFieldDescriptor (TX3 k).2.2.1 = some (tyX3 k) := by decide +kernel
abbrev cX3_init : ByteArray := prog_5_method_1_code
def yX3_init : MethodName := ⟨RX3, "<init>", "()V"⟩
abbrev cX3_appear : ByteArray := prog_5_method_2_code
def yX3_appear : MethodName := ⟨RX3, "appear", "(I)V"⟩
abbrev cX3_hourOfAppearing : ByteArray := prog_5_method_3_code
def yX3_hourOfAppearing : MethodName := ⟨RX3, "hourOfAppearing", "()I"⟩
abbrev cX3_letter : ByteArray := prog_5_method_4_code
def yX3_letter : MethodName := ⟨RX3, "letter", "(I)I"⟩
abbrev cX3_setLetter : ByteArray := prog_5_method_5_code
def yX3_setLetter : MethodName := ⟨RX3, "setLetter", "(II)V"⟩
abbrev cX3_clueNumber : ByteArray := prog_5_method_6_code
def yX3_clueNumber : MethodName := ⟨RX3, "clueNumber", "(I)I"⟩
abbrev cX3_setClue : ByteArray := prog_5_method_7_code
def yX3_setClue : MethodName := ⟨RX3, "setClue", "(II)V"⟩
abbrev cX3_isWrong : ByteArray := prog_5_method_8_code
def yX3_isWrong : MethodName := ⟨RX3, "isWrong", "(I)Z"⟩
abbrev cX3_setWrong : ByteArray := prog_5_method_9_code
def yX3_setWrong : MethodName := ⟨RX3, "setWrong", "(I)V"⟩
abbrev cX3_openCells : ByteArray := prog_5_method_10_code
def yX3_openCells : MethodName := ⟨RX3, "openCells", "()I"⟩
abbrev cX3_isOpen : ByteArray := prog_5_method_11_code
def yX3_isOpen : MethodName := ⟨RX3, "isOpen", "(I)Z"⟩
def RX4 : String := "Clueyard$Solver"
def TX4 : u_T := fun k => match k with
  | 0 => ("Clueyard$Solver", "progress", "LClueyard$Progress;", true)
  | 1 => ("Clueyard$Solver", "paid", "[I", true)
  | 2 => ("Clueyard$Solver", "timesHelped", "[I", true)
  | _ => ("Clueyard$Solver", "coinsLeft", "I", false)
def tyX4 : Nat → FieldType := fun k => match k with
  | 0 => .object "Clueyard$Progress"
  | 1 => .array .int
  | 2 => .array .int
  | _ => .int
abbrev wsX40 : List Cond := u_ws RX4 TX4 4
theorem nmX4 : ∀ a, a < 4 → ∀ b, b < 4 → a ≠ b → (TX4 a).2.1 ≠ (TX4 b).2.1 := by decide +kernel
theorem tyX4_ok : ∀ k, k < 4 → parseFieldDescriptor (TX4 k).2.2.1 = some (tyX4 k) := by decide +kernel
abbrev cX4_init : ByteArray := prog_6_method_1_code
def yX4_init : MethodName := ⟨RX4, "<init>", "()V"⟩
abbrev cX4_join : ByteArray := prog_6_method_2_code
def yX4_join : MethodName := ⟨RX4, "join", "(II)V"⟩
abbrev cX4_progress : ByteArray := prog_6_method_3_code
def yX4_progress : MethodName := ⟨RX4, "progress", "()LClueyard$Progress;"⟩
abbrev cX4_purse : ByteArray := prog_6_method_4_code
def yX4_purse : MethodName := ⟨RX4, "purse", "()I"⟩
abbrev cX4_canPayHelp : ByteArray := prog_6_method_5_code
def yX4_canPayHelp : MethodName := ⟨RX4, "canPayHelp", "(I)Z"⟩
abbrev cX4_payHelp : ByteArray := prog_6_method_6_code
def yX4_payHelp : MethodName := ⟨RX4, "payHelp", "(II)V"⟩
abbrev cX4_payBack : ByteArray := prog_6_method_7_code
def yX4_payBack : MethodName := ⟨RX4, "payBack", "(II)V"⟩
abbrev cX4_cost : ByteArray := prog_6_method_8_code
def yX4_cost : MethodName := ⟨RX4, "cost", "(I)I"⟩
def RX5 : String := "Clueyard$Spelled"
def TX5 : u_T := fun k => match k with
  | 0 => ("Clueyard$Spelled", "letters", "[I", true)
  | _ => ("Clueyard$Spelled", "length", "I", false)
def tyX5 : Nat → FieldType := fun k => match k with
  | 0 => .array .int
  | _ => .int
abbrev wsX50 : List Cond := u_ws RX5 TX5 2
theorem nmX5 : ∀ a, a < 2 → ∀ b, b < 2 → a ≠ b → (TX5 a).2.1 ≠ (TX5 b).2.1 := by decide +kernel
theorem tyX5_ok : ∀ k, k < 2 → parseFieldDescriptor (TX5 k).2.2.1 = some (tyX5 k) := by decide +kernel
abbrev cX5_init : ByteArray := prog_7_method_1_code
def yX5_init : MethodName := ⟨RX5, "<init>", "()V"⟩
abbrev cX5_isFull : ByteArray := prog_7_method_2_code
def yX5_isFull : MethodName := ⟨RX5, "isFull", "()Z"⟩
abbrev cX5_letterCount : ByteArray := prog_7_method_3_code
def yX5_letterCount : MethodName := ⟨RX5, "letterCount", "()I"⟩
abbrev cX5_putAtEnd : ByteArray := prog_7_method_4_code
def yX5_putAtEnd : MethodName := ⟨RX5, "putAtEnd", "(I)V"⟩
abbrev cX5_putAtBeginning : ByteArray := prog_7_method_5_code
def yX5_putAtBeginning : MethodName := ⟨RX5, "putAtBeginning", "(I)V"⟩
abbrev cX5_reverse : ByteArray := prog_7_method_6_code
def yX5_reverse : MethodName := ⟨RX5, "reverse", "()V"⟩
abbrev cX5_empty : ByteArray := prog_7_method_7_code
def yX5_empty : MethodName := ⟨RX5, "empty", "()V"⟩
abbrev cX5_charCount : ByteArray := prog_7_method_8_code
def yX5_charCount : MethodName := ⟨RX5, "charCount", "()I"⟩
abbrev cX5_charOrNone : ByteArray := prog_7_method_9_code
def yX5_charOrNone : MethodName := ⟨RX5, "charOrNone", "(I)I"⟩
abbrev cX5_code : ByteArray := prog_7_method_10_code
def yX5_code : MethodName := ⟨RX5, "code", "()I"⟩
abbrev cX5_width : ByteArray := prog_7_method_11_code
def yX5_width : MethodName := ⟨RX5, "width", "(I)I"⟩
abbrev cX5_charOf : ByteArray := prog_7_method_12_code
def yX5_charOf : MethodName := ⟨RX5, "charOf", "(II)I"⟩
def RX6 : String := "Clueyard$Square"
def TX6 : u_T := fun k => match k with
  | 0 => ("Clueyard$Square", "fixed", "[I", true)
  | 1 => ("Clueyard$Square", "rows", "[I", true)
  | 2 => ("Clueyard$Square", "bestRows", "[I", true)
  | 3 => ("Clueyard$Square", "best", "I", false)
  | _ => ("Clueyard$Square", "found", "I", false)
def tyX6 : Nat → FieldType := fun k => match k with
  | 0 => .array .int
  | 1 => .array .int
  | 2 => .array .int
  | 3 => .int
  | _ => .int
abbrev wsX60 : List Cond := u_ws RX6 TX6 5
theorem nmX6 : ∀ a, a < 5 → ∀ b, b < 5 → a ≠ b → (TX6 a).2.1 ≠ (TX6 b).2.1 := by decide +kernel
theorem tyX6_ok : ∀ k, k < 5 → parseFieldDescriptor (TX6 k).2.2.1 = some (tyX6 k) := by decide +kernel
abbrev cX6_init : ByteArray := prog_8_method_1_code
def yX6_init : MethodName := ⟨RX6, "<init>", "()V"⟩
abbrev cX6_fixedLetter : ByteArray := prog_8_method_2_code
def yX6_fixedLetter : MethodName := ⟨RX6, "fixedLetter", "(I)I"⟩
abbrev cX6_setFixed : ByteArray := prog_8_method_3_code
def yX6_setFixed : MethodName := ⟨RX6, "setFixed", "(II)V"⟩
abbrev cX6_bestWeight : ByteArray := prog_8_method_4_code
def yX6_bestWeight : MethodName := ⟨RX6, "bestWeight", "()I"⟩
abbrev cX6_foundCount : ByteArray := prog_8_method_5_code
def yX6_foundCount : MethodName := ⟨RX6, "foundCount", "()I"⟩
abbrev cX6_search : ByteArray := prog_8_method_6_code
def yX6_search : MethodName := ⟨RX6, "search", "(LClueyard$Words;)V"⟩
abbrev cX6_canStand : ByteArray := prog_8_method_7_code
def yX6_canStand : MethodName := ⟨RX6, "canStand", "(LClueyard$Words;II)Z"⟩
abbrev cX6_keep : ByteArray := prog_8_method_8_code
def yX6_keep : MethodName := ⟨RX6, "keep", "(I)V"⟩
abbrev cX6_greatestWeightOfAll : ByteArray := prog_8_method_9_code
def yX6_greatestWeightOfAll : MethodName := ⟨RX6, "greatestWeightOfAll", "(LClueyard$Words;)I"⟩
abbrev cX6_weightIfFill : ByteArray := prog_8_method_10_code
def yX6_weightIfFill : MethodName := ⟨RX6, "weightIfFill", "(LClueyard$Words;)I"⟩
abbrev cX6_agreesWithFixed : ByteArray := prog_8_method_11_code
def yX6_agreesWithFixed : MethodName := ⟨RX6, "agreesWithFixed", "(LClueyard$Words;I)Z"⟩
abbrev cX6_weightOfSquare : ByteArray := prog_8_method_12_code
def yX6_weightOfSquare : MethodName := ⟨RX6, "weightOfSquare", "(LClueyard$Words;)I"⟩
abbrev cX6_columnCode : ByteArray := prog_8_method_13_code
def yX6_columnCode : MethodName := ⟨RX6, "columnCode", "(LClueyard$Words;[III)I"⟩
abbrev cX6_bestLetter : ByteArray := prog_8_method_14_code
def yX6_bestLetter : MethodName := ⟨RX6, "bestLetter", "(LClueyard$Words;I)I"⟩
abbrev cX6_bestWord : ByteArray := prog_8_method_15_code
def yX6_bestWord : MethodName := ⟨RX6, "bestWord", "(LClueyard$Words;I)I"⟩
def RX7 : String := "Clueyard$Words"
def TX7 : u_T := fun k => match k with
  | 0 => ("Clueyard$Words", "codes", "[I", true)
  | 1 => ("Clueyard$Words", "letters", "[I", true)
  | 2 => ("Clueyard$Words", "weights", "[I", true)
  | 3 => ("Clueyard$Words", "ordered", "[I", true)
  | 4 => ("Clueyard$Words", "beginnings", "[I", true)
  | 5 => ("Clueyard$Words", "numbers", "[I", true)
  | _ => ("Clueyard$Words", "count", "I", false)
def tyX7 : Nat → FieldType := fun k => match k with
  | 0 => .array .int
  | 1 => .array .int
  | 2 => .array .int
  | 3 => .array .int
  | 4 => .array .int
  | 5 => .array .int
  | _ => .int
abbrev wsX70 : List Cond := u_ws RX7 TX7 7
theorem nmX7 : ∀ a, a < 7 → ∀ b, b < 7 → a ≠ b → (TX7 a).2.1 ≠ (TX7 b).2.1 := by decide +kernel
theorem tyX7_ok : ∀ k, k < 7 → parseFieldDescriptor (TX7 k).2.2.1 = some (tyX7 k) := by decide +kernel
abbrev cX7_init : ByteArray := prog_9_method_1_code
def yX7_init : MethodName := ⟨RX7, "<init>", "()V"⟩
abbrev cX7_count : ByteArray := prog_9_method_2_code
def yX7_count : MethodName := ⟨RX7, "count", "()I"⟩
abbrev cX7_add : ByteArray := prog_9_method_3_code
def yX7_add : MethodName := ⟨RX7, "add", "(II)I"⟩
abbrev cX7_putInOrder : ByteArray := prog_9_method_4_code
def yX7_putInOrder : MethodName := ⟨RX7, "putInOrder", "(I)V"⟩
abbrev cX7_weight : ByteArray := prog_9_method_5_code
def yX7_weight : MethodName := ⟨RX7, "weight", "(I)I"⟩
abbrev cX7_weigh : ByteArray := prog_9_method_6_code
def yX7_weigh : MethodName := ⟨RX7, "weigh", "(II)V"⟩
abbrev cX7_inOrder : ByteArray := prog_9_method_7_code
def yX7_inOrder : MethodName := ⟨RX7, "inOrder", "(I)I"⟩
abbrev cX7_beginningWith : ByteArray := prog_9_method_8_code
def yX7_beginningWith : MethodName := ⟨RX7, "beginningWith", "(I)I"⟩
abbrev cX7_wordOrNone : ByteArray := prog_9_method_9_code
def yX7_wordOrNone : MethodName := ⟨RX7, "wordOrNone", "(I)I"⟩
abbrev cX7_letter : ByteArray := prog_9_method_10_code
def yX7_letter : MethodName := ⟨RX7, "letter", "(II)I"⟩
def RX8 : String := "Clueyard"
def TX8 : u_T := fun k => match k with
  | 0 => ("Clueyard", "spelled", "LClueyard$Spelled;", true)
  | 1 => ("Clueyard", "words", "LClueyard$Words;", true)
  | 2 => ("Clueyard", "square", "LClueyard$Square;", true)
  | 3 => ("Clueyard", "clues", "LClueyard$Clues;", true)
  | 4 => ("Clueyard", "puzzles", "[LClueyard$Puzzle;", true)
  | 5 => ("Clueyard", "solvers", "[LClueyard$Solver;", true)
  | 6 => ("Clueyard", "events", "LClueyard$Events;", true)
  | 7 => ("Clueyard", "replayed", "LClueyard$Progress;", true)
  | 8 => ("Clueyard", "replayedOpen", "[I", true)
  | 9 => ("Clueyard", "puzzleCount", "I", false)
  | 10 => ("Clueyard", "solverCount", "I", false)
  | _ => ("Clueyard", "hour", "I", false)
def tyX8 : Nat → FieldType := fun k => match k with
  | 0 => .object "Clueyard$Spelled"
  | 1 => .object "Clueyard$Words"
  | 2 => .object "Clueyard$Square"
  | 3 => .object "Clueyard$Clues"
  | 4 => .array (.object "Clueyard$Puzzle")
  | 5 => .array (.object "Clueyard$Solver")
  | 6 => .object "Clueyard$Events"
  | 7 => .object "Clueyard$Progress"
  | 8 => .array .int
  | 9 => .int
  | 10 => .int
  | _ => .int
abbrev wsX80 : List Cond := u_ws RX8 TX8 12
theorem nmX8 : ∀ a, a < 12 → ∀ b, b < 12 → a ≠ b → (TX8 a).2.1 ≠ (TX8 b).2.1 := by decide +kernel
theorem tyX8_ok : ∀ k, k < 12 → parseFieldDescriptor (TX8 k).2.2.1 = some (tyX8 k) := by decide +kernel
abbrev cX8_init : ByteArray := prog_1_method_1_code
def yX8_init : MethodName := ⟨RX8, "<init>", "()V"⟩
abbrev cX8_spell : ByteArray := prog_1_method_2_code
def yX8_spell : MethodName := ⟨RX8, "spell", "(I)I"⟩
abbrev cX8_insert : ByteArray := prog_1_method_3_code
def yX8_insert : MethodName := ⟨RX8, "insert", "(I)I"⟩
abbrev cX8_turn : ByteArray := prog_1_method_4_code
def yX8_turn : MethodName := ⟨RX8, "turn", "()I"⟩
abbrev cX8_clearSpelled : ByteArray := prog_1_method_5_code
def yX8_clearSpelled : MethodName := ⟨RX8, "clearSpelled", "()I"⟩
abbrev cX8_charAt : ByteArray := prog_1_method_6_code
def yX8_charAt : MethodName := ⟨RX8, "charAt", "(I)C"⟩
abbrev cX8_addWord : ByteArray := prog_1_method_7_code
def yX8_addWord : MethodName := ⟨RX8, "addWord", "(I)I"⟩
abbrev cX8_setWeight : ByteArray := prog_1_method_8_code
def yX8_setWeight : MethodName := ⟨RX8, "setWeight", "(II)I"⟩
abbrev cX8_wordAt : ByteArray := prog_1_method_9_code
def yX8_wordAt : MethodName := ⟨RX8, "wordAt", "(I)I"⟩
abbrev cX8_beginning : ByteArray := prog_1_method_10_code
def yX8_beginning : MethodName := ⟨RX8, "beginning", "()I"⟩
abbrev cX8_fix : ByteArray := prog_1_method_11_code
def yX8_fix : MethodName := ⟨RX8, "fix", "(II)I"⟩
abbrev cX8_fillWeight : ByteArray := prog_1_method_12_code
def yX8_fillWeight : MethodName := ⟨RX8, "fillWeight", "()I"⟩
abbrev cX8_fillWeightByAll : ByteArray := prog_1_method_13_code
def yX8_fillWeightByAll : MethodName := ⟨RX8, "fillWeightByAll", "()I"⟩
abbrev cX8_fills : ByteArray := prog_1_method_14_code
def yX8_fills : MethodName := ⟨RX8, "fills", "()I"⟩
abbrev cX8_fillAt : ByteArray := prog_1_method_15_code
def yX8_fillAt : MethodName := ⟨RX8, "fillAt", "(I)I"⟩
abbrev cX8_clue : ByteArray := prog_1_method_16_code
def yX8_clue : MethodName := ⟨RX8, "clue", "(I)I"⟩
abbrev cX8_edit : ByteArray := prog_1_method_17_code
def yX8_edit : MethodName := ⟨RX8, "edit", "(IZ)I"⟩
abbrev cX8_lastUsed : ByteArray := prog_1_method_18_code
def yX8_lastUsed : MethodName := ⟨RX8, "lastUsed", "(I)I"⟩
abbrev cX8_pass : ByteArray := prog_1_method_19_code
def yX8_pass : MethodName := ⟨RX8, "pass", "(I)I"⟩
abbrev cX8_now : ByteArray := prog_1_method_20_code
def yX8_now : MethodName := ⟨RX8, "now", "()I"⟩
abbrev cX8_publish : ByteArray := prog_1_method_21_code
def yX8_publish : MethodName := ⟨RX8, "publish", "()I"⟩
abbrev cX8_clueOf : ByteArray := prog_1_method_22_code
def yX8_clueOf : MethodName := ⟨RX8, "clueOf", "(II)I"⟩
abbrev cX8_addSolver : ByteArray := prog_1_method_23_code
def yX8_addSolver : MethodName := ⟨RX8, "addSolver", "(II)I"⟩
abbrev cX8_enter : ByteArray := prog_1_method_24_code
def yX8_enter : MethodName := ⟨RX8, "enter", "(IIII)Z"⟩
abbrev cX8_help : ByteArray := prog_1_method_25_code
def yX8_help : MethodName := ⟨RX8, "help", "(III)I"⟩
abbrev cX8_judge : ByteArray := prog_1_method_26_code
def yX8_judge : MethodName := ⟨RX8, "judge", "(II)I"⟩
abbrev cX8_solvedAt : ByteArray := prog_1_method_27_code
def yX8_solvedAt : MethodName := ⟨RX8, "solvedAt", "(II)I"⟩
abbrev cX8_open : ByteArray := prog_1_method_28_code
def yX8_open : MethodName := ⟨RX8, "open", "(I)I"⟩
abbrev cX8_coins : ByteArray := prog_1_method_29_code
def yX8_coins : MethodName := ⟨RX8, "coins", "(I)I"⟩
abbrev cX8_streak : ByteArray := prog_1_method_30_code
def yX8_streak : MethodName := ⟨RX8, "streak", "(I)I"⟩
abbrev cX8_streakAnew : ByteArray := prog_1_method_31_code
def yX8_streakAnew : MethodName := ⟨RX8, "streakAnew", "(I)I"⟩
abbrev cX8_solverAt : ByteArray := prog_1_method_32_code
def yX8_solverAt : MethodName := ⟨RX8, "solverAt", "(I)I"⟩
abbrev cX8_isIndex : ByteArray := prog_1_method_33_code
def yX8_isIndex : MethodName := ⟨RX8, "isIndex", "(II)Z"⟩
abbrev cX8_needIndex : ByteArray := prog_1_method_34_code
def yX8_needIndex : MethodName := ⟨RX8, "needIndex", "(II)V"⟩
abbrev cX8_needRange : ByteArray := prog_1_method_35_code
def yX8_needRange : MethodName := ⟨RX8, "needRange", "(III)V"⟩
abbrev cX8_needRoomForLetter : ByteArray := prog_1_method_36_code
def yX8_needRoomForLetter : MethodName := ⟨RX8, "needRoomForLetter", "()V"⟩
abbrev cX8_needCellOf : ByteArray := prog_1_method_37_code
def yX8_needCellOf : MethodName := ⟨RX8, "needCellOf", "(III)V"⟩
abbrev cX8_needUnfinished : ByteArray := prog_1_method_38_code
def yX8_needUnfinished : MethodName := ⟨RX8, "needUnfinished", "(III)V"⟩
abbrev cX8_today : ByteArray := prog_1_method_39_code
def yX8_today : MethodName := ⟨RX8, "today", "()I"⟩
abbrev cX8_mayPublishToday : ByteArray := prog_1_method_40_code
def yX8_mayPublishToday : MethodName := ⟨RX8, "mayPublishToday", "()Z"⟩
abbrev cX8_findClues : ByteArray := prog_1_method_41_code
def yX8_findClues : MethodName := ⟨RX8, "findClues", "()Z"⟩
abbrev cX8_cellOf : ByteArray := prog_1_method_42_code
def yX8_cellOf : MethodName := ⟨RX8, "cellOf", "(II)I"⟩
abbrev cX8_cellsOf : ByteArray := prog_1_method_43_code
def yX8_cellsOf : MethodName := ⟨RX8, "cellsOf", "(I)I"⟩
abbrev cX8_becomeRight : ByteArray := prog_1_method_44_code
def yX8_becomeRight : MethodName := ⟨RX8, "becomeRight", "(III)V"⟩
abbrev cX8_countIfSolved : ByteArray := prog_1_method_45_code
def yX8_countIfSolved : MethodName := ⟨RX8, "countIfSolved", "(II)V"⟩
abbrev cX8_keptStreak : ByteArray := prog_1_method_46_code
def yX8_keptStreak : MethodName := ⟨RX8, "keptStreak", "(I)I"⟩
abbrev cX8_replay : ByteArray := prog_1_method_47_code
def yX8_replay : MethodName := ⟨RX8, "replay", "(II)V"⟩
abbrev cX8_rank : ByteArray := prog_1_method_48_code
def yX8_rank : MethodName := ⟨RX8, "rank", "(I)I"⟩
abbrev cX8_isAhead : ByteArray := prog_1_method_49_code
def yX8_isAhead : MethodName := ⟨RX8, "isAhead", "(II)Z"⟩
def RX9 : String := "ClueyardModel"
def TX9 : u_T := fun k => match k with
  | 0 => ("ClueyardModel", "spelled", "[I", true)
  | 1 => ("ClueyardModel", "spells", "I", false)
  | 2 => ("ClueyardModel", "words", "I", false)
  | 3 => ("ClueyardModel", "byLetters", "[I", true)
  | 4 => ("ClueyardModel", "letters", "[I", true)
  | 5 => ("ClueyardModel", "weights", "[I", true)
  | 6 => ("ClueyardModel", "row", "[I", true)
  | 7 => ("ClueyardModel", "fixed", "[I", true)
  | 8 => ("ClueyardModel", "fillCount", "I", false)
  | 9 => ("ClueyardModel", "bestWeight", "I", false)
  | 10 => ("ClueyardModel", "best", "[I", true)
  | 11 => ("ClueyardModel", "clues", "I", false)
  | 12 => ("ClueyardModel", "clueWords", "[I", true)
  | 13 => ("ClueyardModel", "stages", "[I", true)
  | 14 => ("ClueyardModel", "used", "[I", true)
  | 15 => ("ClueyardModel", "now", "I", false)
  | 16 => ("ClueyardModel", "puzzles", "I", false)
  | 17 => ("ClueyardModel", "published", "[I", true)
  | 18 => ("ClueyardModel", "puzzleLetters", "[I", true)
  | 19 => ("ClueyardModel", "puzzleClues", "[I", true)
  | 20 => ("ClueyardModel", "judged", "[I", true)
  | 21 => ("ClueyardModel", "chosen", "[I", true)
  | 22 => ("ClueyardModel", "solvers", "I", false)
  | 23 => ("ClueyardModel", "offsets", "[I", true)
  | 24 => ("ClueyardModel", "purses", "[I", true)
  | 25 => ("ClueyardModel", "rights", "[I", true)
  | 26 => ("ClueyardModel", "paid", "[I", true)
  | 27 => ("ClueyardModel", "helps", "[I", true)
  | 28 => ("ClueyardModel", "counted", "[I", true)
  | _ => ("ClueyardModel", "thrown", "I", false)
def tyX9 : Nat → FieldType := fun k => match k with
  | 0 => .array .int
  | 1 => .int
  | 2 => .int
  | 3 => .array .int
  | 4 => .array .int
  | 5 => .array .int
  | 6 => .array .int
  | 7 => .array .int
  | 8 => .int
  | 9 => .int
  | 10 => .array .int
  | 11 => .int
  | 12 => .array .int
  | 13 => .array .int
  | 14 => .array .int
  | 15 => .int
  | 16 => .int
  | 17 => .array .int
  | 18 => .array .int
  | 19 => .array .int
  | 20 => .array .int
  | 21 => .array .int
  | 22 => .int
  | 23 => .array .int
  | 24 => .array .int
  | 25 => .array .int
  | 26 => .array .int
  | 27 => .array .int
  | 28 => .array .int
  | _ => .int
abbrev wsX90 : List Cond := u_ws RX9 TX9 30
theorem nmX9 : ∀ a, a < 30 → ∀ b, b < 30 → a ≠ b → (TX9 a).2.1 ≠ (TX9 b).2.1 := by decide +kernel
theorem tyX9_ok : ∀ k, k < 30 → parseFieldDescriptor (TX9 k).2.2.1 = some (tyX9 k) := by decide +kernel
abbrev cX9_init : ByteArray := prog_11_method_1_code
def yX9_init : MethodName := ⟨RX9, "<init>", "()V"⟩
abbrev cX9_thrown : ByteArray := prog_11_method_2_code
def yX9_thrown : MethodName := ⟨RX9, "thrown", "()I"⟩
abbrev cX9_fails : ByteArray := prog_11_method_3_code
def yX9_fails : MethodName := ⟨RX9, "fails", "(I)I"⟩
abbrev cX9_in : ByteArray := prog_11_method_4_code
def yX9_in : MethodName := ⟨RX9, "in", "(III)Z"⟩
abbrev cX9_chars : ByteArray := prog_11_method_5_code
def yX9_chars : MethodName := ⟨RX9, "chars", "()I"⟩
abbrev cX9_canSpell : ByteArray := prog_11_method_6_code
def yX9_canSpell : MethodName := ⟨RX9, "canSpell", "(I)Z"⟩
abbrev cX9_spell : ByteArray := prog_11_method_7_code
def yX9_spell : MethodName := ⟨RX9, "spell", "(I)I"⟩
abbrev cX9_insert : ByteArray := prog_11_method_8_code
def yX9_insert : MethodName := ⟨RX9, "insert", "(I)I"⟩
abbrev cX9_turn : ByteArray := prog_11_method_9_code
def yX9_turn : MethodName := ⟨RX9, "turn", "()I"⟩
abbrev cX9_clearSpelled : ByteArray := prog_11_method_10_code
def yX9_clearSpelled : MethodName := ⟨RX9, "clearSpelled", "()I"⟩
abbrev cX9_charAt : ByteArray := prog_11_method_11_code
def yX9_charAt : MethodName := ⟨RX9, "charAt", "(I)C"⟩
abbrev cX9_isWord : ByteArray := prog_11_method_12_code
def yX9_isWord : MethodName := ⟨RX9, "isWord", "(I)Z"⟩
abbrev cX9_addWord : ByteArray := prog_11_method_13_code
def yX9_addWord : MethodName := ⟨RX9, "addWord", "(I)I"⟩
abbrev cX9_setWeight : ByteArray := prog_11_method_14_code
def yX9_setWeight : MethodName := ⟨RX9, "setWeight", "(II)I"⟩
abbrev cX9_orders : ByteArray := prog_11_method_15_code
def yX9_orders : MethodName := ⟨RX9, "orders", "()V"⟩
abbrev cX9_wordAt : ByteArray := prog_11_method_16_code
def yX9_wordAt : MethodName := ⟨RX9, "wordAt", "(I)I"⟩
abbrev cX9_letterOf : ByteArray := prog_11_method_17_code
def yX9_letterOf : MethodName := ⟨RX9, "letterOf", "(II)I"⟩
abbrev cX9_beginning : ByteArray := prog_11_method_18_code
def yX9_beginning : MethodName := ⟨RX9, "beginning", "()I"⟩
abbrev cX9_fix : ByteArray := prog_11_method_19_code
def yX9_fix : MethodName := ⟨RX9, "fix", "(II)I"⟩
abbrev cX9_fitsRow : ByteArray := prog_11_method_20_code
def yX9_fitsRow : MethodName := ⟨RX9, "fitsRow", "(II)Z"⟩
abbrev cX9_columnOf : ByteArray := prog_11_method_21_code
def yX9_columnOf : MethodName := ⟨RX9, "columnOf", "(IIII)I"⟩
abbrev cX9_tries : ByteArray := prog_11_method_22_code
def yX9_tries : MethodName := ⟨RX9, "tries", "(III)V"⟩
abbrev cX9_findsFills : ByteArray := prog_11_method_23_code
def yX9_findsFills : MethodName := ⟨RX9, "findsFills", "()V"⟩
abbrev cX9_fillWeight : ByteArray := prog_11_method_24_code
def yX9_fillWeight : MethodName := ⟨RX9, "fillWeight", "()I"⟩
abbrev cX9_fillWeightByAll : ByteArray := prog_11_method_25_code
def yX9_fillWeightByAll : MethodName := ⟨RX9, "fillWeightByAll", "()I"⟩
abbrev cX9_fills : ByteArray := prog_11_method_26_code
def yX9_fills : MethodName := ⟨RX9, "fills", "()I"⟩
abbrev cX9_fillAt : ByteArray := prog_11_method_27_code
def yX9_fillAt : MethodName := ⟨RX9, "fillAt", "(I)I"⟩
abbrev cX9_isClue : ByteArray := prog_11_method_28_code
def yX9_isClue : MethodName := ⟨RX9, "isClue", "(I)Z"⟩
abbrev cX9_clue : ByteArray := prog_11_method_29_code
def yX9_clue : MethodName := ⟨RX9, "clue", "(I)I"⟩
abbrev cX9_edit : ByteArray := prog_11_method_30_code
def yX9_edit : MethodName := ⟨RX9, "edit", "(IZ)I"⟩
abbrev cX9_lastUsed : ByteArray := prog_11_method_31_code
def yX9_lastUsed : MethodName := ⟨RX9, "lastUsed", "(I)I"⟩
abbrev cX9_pass : ByteArray := prog_11_method_32_code
def yX9_pass : MethodName := ⟨RX9, "pass", "(I)I"⟩
abbrev cX9_now : ByteArray := prog_11_method_33_code
def yX9_now : MethodName := ⟨RX9, "now", "()I"⟩
abbrev cX9_clueFor : ByteArray := prog_11_method_34_code
def yX9_clueFor : MethodName := ⟨RX9, "clueFor", "(II)I"⟩
abbrev cX9_publish : ByteArray := prog_11_method_35_code
def yX9_publish : MethodName := ⟨RX9, "publish", "()I"⟩
abbrev cX9_isPuzzle : ByteArray := prog_11_method_36_code
def yX9_isPuzzle : MethodName := ⟨RX9, "isPuzzle", "(I)Z"⟩
abbrev cX9_clueOf : ByteArray := prog_11_method_37_code
def yX9_clueOf : MethodName := ⟨RX9, "clueOf", "(II)I"⟩
abbrev cX9_addSolver : ByteArray := prog_11_method_38_code
def yX9_addSolver : MethodName := ⟨RX9, "addSolver", "(II)I"⟩
abbrev cX9_isSolver : ByteArray := prog_11_method_39_code
def yX9_isSolver : MethodName := ⟨RX9, "isSolver", "(I)Z"⟩
abbrev cX9_dayOf : ByteArray := prog_11_method_40_code
def yX9_dayOf : MethodName := ⟨RX9, "dayOf", "(II)I"⟩
abbrev cX9_openOf : ByteArray := prog_11_method_41_code
def yX9_openOf : MethodName := ⟨RX9, "openOf", "(I)I"⟩
abbrev cX9_solved : ByteArray := prog_11_method_42_code
def yX9_solved : MethodName := ⟨RX9, "solved", "(II)I"⟩
abbrev cX9_counts : ByteArray := prog_11_method_43_code
def yX9_counts : MethodName := ⟨RX9, "counts", "(II)V"⟩
abbrev cX9_isCell : ByteArray := prog_11_method_44_code
def yX9_isCell : MethodName := ⟨RX9, "isCell", "(III)Z"⟩
abbrev cX9_isOver : ByteArray := prog_11_method_45_code
def yX9_isOver : MethodName := ⟨RX9, "isOver", "(III)Z"⟩
abbrev cX9_enter : ByteArray := prog_11_method_46_code
def yX9_enter : MethodName := ⟨RX9, "enter", "(IIII)Z"⟩
abbrev cX9_help : ByteArray := prog_11_method_47_code
def yX9_help : MethodName := ⟨RX9, "help", "(III)I"⟩
abbrev cX9_streakOf : ByteArray := prog_11_method_48_code
def yX9_streakOf : MethodName := ⟨RX9, "streakOf", "(I)I"⟩
abbrev cX9_judge : ByteArray := prog_11_method_49_code
def yX9_judge : MethodName := ⟨RX9, "judge", "(II)I"⟩
abbrev cX9_solvedAt : ByteArray := prog_11_method_50_code
def yX9_solvedAt : MethodName := ⟨RX9, "solvedAt", "(II)I"⟩
abbrev cX9_open : ByteArray := prog_11_method_51_code
def yX9_open : MethodName := ⟨RX9, "open", "(I)I"⟩
abbrev cX9_coins : ByteArray := prog_11_method_52_code
def yX9_coins : MethodName := ⟨RX9, "coins", "(I)I"⟩
abbrev cX9_streak : ByteArray := prog_11_method_53_code
def yX9_streak : MethodName := ⟨RX9, "streak", "(I)I"⟩
abbrev cX9_streakAnew : ByteArray := prog_11_method_54_code
def yX9_streakAnew : MethodName := ⟨RX9, "streakAnew", "(I)I"⟩
abbrev cX9_solverAt : ByteArray := prog_11_method_55_code
def yX9_solverAt : MethodName := ⟨RX9, "solverAt", "(I)I"⟩
def RJx145de : String := "java/io/Serializable"
def TJx145de : u_T := fun k => match k with
  | _ => ("", "", "", false)
def tyJx145de : Nat → FieldType := fun k => match k with
  | _ => .int
abbrev wsJx145de0 : List Cond := u_ws RJx145de TJx145de 0
theorem nmJx145de : ∀ a, a < 0 → ∀ b, b < 0 → a ≠ b → (TJx145de a).2.1 ≠ (TJx145de b).2.1 := by decide +kernel
theorem tyJx145de_ok : ∀ k, k < 0 → parseFieldDescriptor (TJx145de k).2.2.1 = some (tyJx145de k) := by decide +kernel
def RJ9 : String := "java/lang/Math"
def TJ9 : u_T := fun k => match k with
  | _ => ("", "", "", false)
def tyJ9 : Nat → FieldType := fun k => match k with
  | _ => .int
abbrev wsJ90 : List Cond := u_ws RJ9 TJ9 0
theorem nmJ9 : ∀ a, a < 0 → ∀ b, b < 0 → a ≠ b → (TJ9 a).2.1 ≠ (TJ9 b).2.1 := by decide +kernel
theorem tyJ9_ok : ∀ k, k < 0 → parseFieldDescriptor (TJ9 k).2.2.1 = some (tyJ9 k) := by decide +kernel
abbrev cJ9_floorDiv_7cf53 : ByteArray := prog_17_method_47_code
def yJ9_floorDiv_7cf53 : MethodName := ⟨RJ9, "floorDiv", "(II)I"⟩
abbrev cJ9_max_7cf53 : ByteArray := prog_17_method_65_code
def yJ9_max_7cf53 : MethodName := ⟨RJ9, "max", "(II)I"⟩
abbrev cJ9_min_7cf53 : ByteArray := prog_17_method_69_code
def yJ9_min_7cf53 : MethodName := ⟨RJ9, "min", "(II)I"⟩
def RJ0 : String := "java/lang/String"
def TJ0 : u_T := fun k => match k with
  | _ => ("", "", "", false)
def tyJ0 : Nat → FieldType := fun k => match k with
  | _ => .int
abbrev wsJ00 : List Cond := u_ws RJ0 TJ0 0
theorem nmJ0 : ∀ a, a < 0 → ∀ b, b < 0 → a ≠ b → (TJ0 a).2.1 ≠ (TJ0 b).2.1 := by decide +kernel
theorem tyJ0_ok : ∀ k, k < 0 → parseFieldDescriptor (TJ0 k).2.2.1 = some (tyJ0 k) := by decide +kernel
def RJ7 : String := "java/util/Arrays"
def TJ7 : u_T := fun k => match k with
  | _ => ("", "", "", false)
def tyJ7 : Nat → FieldType := fun k => match k with
  | _ => .int
abbrev wsJ70 : List Cond := u_ws RJ7 TJ7 0
theorem nmJ7 : ∀ a, a < 0 → ∀ b, b < 0 → a ≠ b → (TJ7 a).2.1 ≠ (TJ7 b).2.1 := by decide +kernel
theorem tyJ7_ok : ∀ k, k < 0 → parseFieldDescriptor (TJ7 k).2.2.1 = some (tyJ7 k) := by decide +kernel
abbrev cJ7_fill_53178 : ByteArray := prog_21_method_103_code
def yJ7_fill_53178 : MethodName := ⟨RJ7, "fill", "([II)V"⟩
def RL : String := "ClueyardLaw"
abbrev cL_spell : ByteArray := method_3_code
def yL_spell : MethodName := ⟨RL, "spell", "(LClueyard;I[J)I"⟩
abbrev cL_insert : ByteArray := method_4_code
def yL_insert : MethodName := ⟨RL, "insert", "(LClueyard;I[J)I"⟩
abbrev cL_charAt : ByteArray := method_5_code
def yL_charAt : MethodName := ⟨RL, "charAt", "(LClueyard;I[J)I"⟩
abbrev cL_addWord : ByteArray := method_6_code
def yL_addWord : MethodName := ⟨RL, "addWord", "(LClueyard;I[J)I"⟩
abbrev cL_setWeight : ByteArray := method_7_code
def yL_setWeight : MethodName := ⟨RL, "setWeight", "(LClueyard;II[J)I"⟩
abbrev cL_fix : ByteArray := method_8_code
def yL_fix : MethodName := ⟨RL, "fix", "(LClueyard;II[J)I"⟩
abbrev cL_fillAt : ByteArray := method_9_code
def yL_fillAt : MethodName := ⟨RL, "fillAt", "(LClueyard;I[J)I"⟩
abbrev cL_clue : ByteArray := method_10_code
def yL_clue : MethodName := ⟨RL, "clue", "(LClueyard;I[J)I"⟩
abbrev cL_edit : ByteArray := method_11_code
def yL_edit : MethodName := ⟨RL, "edit", "(LClueyard;IZ[J)I"⟩
abbrev cL_lastUsed : ByteArray := method_12_code
def yL_lastUsed : MethodName := ⟨RL, "lastUsed", "(LClueyard;I[J)I"⟩
abbrev cL_pass : ByteArray := method_13_code
def yL_pass : MethodName := ⟨RL, "pass", "(LClueyard;I[J)I"⟩
abbrev cL_publish : ByteArray := method_14_code
def yL_publish : MethodName := ⟨RL, "publish", "(LClueyard;[J)I"⟩
abbrev cL_clueOf : ByteArray := method_15_code
def yL_clueOf : MethodName := ⟨RL, "clueOf", "(LClueyard;II[J)I"⟩
abbrev cL_addSolver : ByteArray := method_16_code
def yL_addSolver : MethodName := ⟨RL, "addSolver", "(LClueyard;II[J)I"⟩
abbrev cL_enter : ByteArray := method_17_code
def yL_enter : MethodName := ⟨RL, "enter", "(LClueyard;IIII[J)I"⟩
abbrev cL_help : ByteArray := method_18_code
def yL_help : MethodName := ⟨RL, "help", "(LClueyard;III[J)I"⟩
abbrev cL_judge : ByteArray := method_19_code
def yL_judge : MethodName := ⟨RL, "judge", "(LClueyard;II[J)I"⟩
abbrev cL_solvedAt : ByteArray := method_20_code
def yL_solvedAt : MethodName := ⟨RL, "solvedAt", "(LClueyard;II[J)I"⟩
abbrev cL_open : ByteArray := method_21_code
def yL_open : MethodName := ⟨RL, "open", "(LClueyard;I[J)I"⟩
abbrev cL_coins : ByteArray := method_22_code
def yL_coins : MethodName := ⟨RL, "coins", "(LClueyard;I[J)I"⟩
abbrev cL_streak : ByteArray := method_23_code
def yL_streak : MethodName := ⟨RL, "streak", "(LClueyard;I[J)I"⟩
abbrev cL_streakAnew : ByteArray := method_24_code
def yL_streakAnew : MethodName := ⟨RL, "streakAnew", "(LClueyard;I[J)I"⟩
abbrev cL_law : ByteArray := code
def yL_law : MethodName := ⟨RL, "law", "([I)Z"⟩
abbrev vwCl : List vw_C := [(RX0, TX0, 5), (RX1, TX1, 5), (RX2, TX2, 3), (RX3, TX3, 5), (RX4, TX4, 4), (RX5, TX5, 2), (RX6, TX6, 5), (RX7, TX7, 7), (RX8, TX8, 12), (RX9, TX9, 30)]
end
section
/-! THE MINI MACHINE: cells by their places behind the start's heap (s0.heap.size + i), ints as Int, a memory i k ↦ Int; a shape says what each cell is -/
abbrev jv_Mem : Type := Int → Int → Int
abbrev jv_i (x : Int) : Value := .int (Int32.ofInt x)
def jv_up (g : jv_Mem) (i k v : Int) : jv_Mem := fun a b => if a = i ∧ b = k then v else g a b
theorem jv_up_s (g : jv_Mem) (i k v : Int) : jv_up g i k v i k = v := by simp [jv_up]
theorem jv_up_i {g : jv_Mem} {i k v a b : Int} (h : a ≠ i) : jv_up g i k v a b = g a b := by simp [jv_up, h]
theorem jv_up_k {g : jv_Mem} {i k v a b : Int} (h : b ≠ k) : jv_up g i k v a b = g a b := by simp [jv_up, h]
/-- what a cell is: an array (0 int, 1 boolean, 2 long, 3 puzzles, 4 solvers; its length; how many references stand in it), or an object (its class's number; its fields: none null, some none a number, some (some i) the cell i) -/
abbrev jv_Kd : Type := (Nat × Nat × Nat) ⊕ (Nat × List (Option (Option Int)))
abbrev jv_Sh : Type := Int → Option jv_Kd
def jv_fs (B : Nat) (g : jv_Mem) (i : Int) : Nat → List (Option (Option Int)) → List Value
  | _, [] => []
  | k, none :: r => .null :: jv_fs B g i (k + 1) r
  | k, some none :: r => jv_i (g i k) :: jv_fs B g i (k + 1) r
  | k, some (some t) :: r => .ref (B + t.toNat) :: jv_fs B g i (k + 1) r
def jv_fv (B : Nat) (g : jv_Mem) (i : Int) (k : Nat) : Option (Option Int) → Value
  | none => .null
  | some none => jv_i (g i k)
  | some (some t) => .ref (B + t.toNat)
/-- the cells that stand in the arrays of references -/
def jv_ra : Nat → Nat → Nat
  | 0, j => 30 + 3 * j
  | _, j => 90 + 6 * j
def jv_E (B : Nat) (ids : Nat → ClassId) (g : jv_Mem) (i : Int) : jv_Kd → va_E
  | .inl (0, n, _) => .inl (ids 0, n, .inl (fun j => Int32.ofInt (g i j)))
  | .inl (1, n, _) => .inl (ids 1, n, .inl (fun j => Int32.ofInt (g i j)))
  | .inl (2, n, _) => .inl (ids 2, n, .inr (.inl (fun j => Int64.ofInt (g i j))))
  | .inl (c + 3, n, mm) => .inl (ids (c + 3), n, .inr (.inr (.inr (.inr (fun j => if j < mm then some (B + jv_ra c j) else none)))))
  | .inr (ci, ds) => .inr (ci, jv_fs B g i 0 ds)
def jv_ty : Nat → FieldType
  | 0 => .int
  | 1 => .boolean
  | 2 => .long
  | 3 => .object RX3
  | _ => .object RX4
def jv_tys (ids : Nat → ClassId) : List (ClassId × FieldType) := [(ids 0, .int), (ids 1, .boolean), (ids 2, .long), (ids 3, .object RX3), (ids 4, .object RX4)]
def jv_H (B : Nat) (D : va_G) (ids : Nat → ClassId) (sh : jv_Sh) (g : jv_Mem) (H : Heap) : Prop := ∀ (i : Int) (k : jv_Kd), sh i = some k → 0 ≤ i ∧ va_at D vwCl (B + i.toNat, jv_E B ids g i k) H
def jv_Z (s0 : State) (b0 : Addr) (D : va_G) (ids : Nat → ClassId) : Prop := (∀ w ∈ lw_tbl, w.before #[Value.ref b0] s0 = true) ∧ va_K D vwCl (jv_tys ids) s0
def jv_G (s0 : State) (b0 : Addr) (D : va_G) (ids : Nat → ClassId) (U : State) : Prop := jv_Z s0 b0 D ids ∧ s0.WarmedH U.vm ∧ s0.heap.size ≤ U.heap.size ∧ ∀ q : Nat, q < s0.heap.size → U.heap[q]? = s0.heap[q]?
/-- a method's fixed things -/
def jv_C (p : Program) (s : State) (m : MethodId) (args : Array Value) (c : Code) (cc : ByteArray) (own : String) (s0 : State) (b0 : Addr) (D : va_G) (ids : Nat → ClassId) : Prop :=
  p.tables.exec = Jvm.exec ∧ c.code = cc ∧ s.vm.findClass own = some m.cls ∧ jv_G s0 b0 D ids s
theorem jv_G.word {s0 : State} {b0 : Addr} {D : va_G} {ids : Nat → ClassId} {U : State} (h : jv_G s0 b0 D ids U) {w : Cond} (hw : w ∈ lw_tbl) (hg : goodWord w = true) {a : Array Value} : w.before a U = true :=
  word_at h.2.1 (good_of_word hg) (h.1.1 w hw)
theorem jv_G.K {s0 : State} {b0 : Addr} {D : va_G} {ids : Nat → ClassId} {U : State} (h : jv_G s0 b0 D ids U) : va_K D vwCl (jv_tys ids) U := va_K.moved h.2.1.alike h.1.2
def jv_tb : List Cond := lw_tbl.filter goodWord
theorem jv_tb_in {w : Cond} (h : w ∈ lw_tbl) (hg : goodWord w = true) : w ∈ jv_tb := List.mem_filter.mpr ⟨h, hg⟩
theorem jv_G.hts {s0 : State} {b0 : Addr} {D : va_G} {ids : Nat → ClassId} {U : State} (h : jv_G s0 b0 D ids U) {a : Array Value} : ∀ w ∈ jv_tb, w.before a U = true := fun w hw => h.word (List.mem_filter.mp hw).1 (List.mem_filter.mp hw).2
/-- the locals as a list -/
def jv_la : Nat → List (Option Value) → List (Nat × Value)
  | _, [] => []
  | k, none :: r => jv_la (k + 1) r
  | k, some v :: r => (k, v) :: jv_la (k + 1) r
theorem jv_la_mem : ∀ (ls : List (Option Value)) (k : Nat) (q : Nat × Value), q ∈ jv_la k ls ↔ ∃ i, q.1 = k + i ∧ ls[i]? = some (some q.2) := by
  intro ls
  induction ls with
  | nil => intro k q; simp [jv_la]
  | cons a r ih =>
    intro k q
    have key : (∃ i, q.1 = k + 1 + i ∧ r[i]? = some (some q.2)) ↔ ∃ i, q.1 = k + (i + 1) ∧ (a :: r)[i + 1]? = some (some q.2) := by
      constructor
      · rintro ⟨i, h1, h2⟩; exact ⟨i, by omega, by simpa using h2⟩
      · rintro ⟨i, h1, h2⟩; exact ⟨i, by omega, by simpa using h2⟩
    have split : (∃ i, q.1 = k + i ∧ (a :: r)[i]? = some (some q.2)) ↔ (q.1 = k ∧ a = some q.2) ∨ ∃ i, q.1 = k + (i + 1) ∧ (a :: r)[i + 1]? = some (some q.2) := by
      constructor
      · rintro ⟨i, h1, h2⟩
        cases i with
        | zero => exact Or.inl ⟨by omega, by simpa using h2⟩
        | succ i => exact Or.inr ⟨i, h1, h2⟩
      · rintro (⟨h1, h2⟩ | ⟨i, h1, h2⟩)
        · exact ⟨0, by omega, by simp [h2]⟩
        · exact ⟨i + 1, h1, h2⟩
    rw [split, ← key]
    cases a with
    | none => simp [jv_la, ih]
    | some v =>
      simp only [jv_la, List.mem_cons, ih]
      constructor
      · rintro (h | h)
        · left; subst h; exact ⟨rfl, rfl⟩
        · exact Or.inr h
      · rintro (⟨h1, h2⟩ | h)
        · left
          cases h2
          obtain ⟨x, y⟩ := q
          simp_all
        · exact Or.inr h
def jv_L (arr : Array Slot) (n : Nat) (ls : List (Option Value)) : Prop := lv_has arr n (jv_la 0 ls) ∧ ∀ v, some v ∈ ls → v.category = 1
theorem jv_L.at {arr : Array Slot} {n : Nat} {ls : List (Option Value)} (h : jv_L arr n ls) {i : Nat} {v : Value} (hi : ls[i]? = some (some v)) : arr[i]? = some (.val v) :=
  h.1.2.2 (i, v) ((jv_la_mem ls 0 (i, v)).mpr ⟨i, by simp, hi⟩)
theorem jv_L.set {arr arr' : Array Slot} {n i : Nat} {v : Value} {ls ls' : List (Option Value)} (h : jv_L arr n ls) (hc : v.category = 1) (hs : ls.set i (some v) = ls') (h' : lv_has arr' n ((i, v) :: (jv_la 0 ls).filter (fun q => !(q.1 == i) && !(q.1 + 1 == i && q.2.category == 2)))) : jv_L arr' n ls' := by
  subst hs
  refine ⟨⟨h'.1, h'.2.1, fun q hq => ?_⟩, fun w hw => ?_⟩
  · obtain ⟨j, h1, h2⟩ := (jv_la_mem _ 0 q).mp hq
    refine h'.2.2 q ?_
    have hj : q.1 = j := by omega
    rw [List.getElem?_set] at h2
    by_cases hij : i = j
    · rw [if_pos hij] at h2
      split at h2
      · simp only [Option.some.injEq] at h2
        refine List.mem_cons.mpr (Or.inl ?_)
        obtain ⟨x, y⟩ := q
        simp_all
      · cases h2
    · rw [if_neg hij] at h2
      refine List.mem_cons.mpr (Or.inr (List.mem_filter.mpr ⟨(jv_la_mem _ 0 q).mpr ⟨j, h1, h2⟩, ?_⟩))
      have hcat := h.2 q.2 (List.mem_of_getElem? h2)
      have e1 : (q.1 == i) = false := by simp; omega
      simp [e1, hcat]
  · rcases List.mem_or_eq_of_mem_set hw with h1 | h1
    · exact h.2 w h1
    · cases h1; exact hc
theorem jv_L.entry (vs : List Value) {n : Nat} (h : (lg_sl vs).length ≤ n) (hc : ∀ v ∈ vs, v.category = 1) : jv_L ((lg_sl vs ++ List.replicate (n - (lg_sl vs).length) Slot.unset).toArray) n (vs.map some ++ List.replicate (n - vs.length) none) := by
  have h0 := lv_entry vs h
  refine ⟨⟨h0.1, h0.2.1, fun q hq => h0.2.2 q ?_⟩, fun v hv => ?_⟩
  · obtain ⟨j, h1, h2⟩ := (jv_la_mem _ 0 q).mp hq
    have hlt : j < vs.length := by
      rcases Nat.lt_or_ge j vs.length with h3 | h3
      · exact h3
      · rw [List.getElem?_append_right (by simpa using h3)] at h2
        have := List.mem_of_getElem? h2
        simp at this
    rw [List.getElem?_append_left (by simpa using hlt)] at h2
    have h3 : vs[j]? = some q.2 := by simpa using h2
    have key : ∀ (l : List Value) (k j : Nat) (v : Value), (∀ w ∈ l, w.category = 1) → l[j]? = some v → (k + j, v) ∈ lv_args k l := by
      intro l
      induction l with
      | nil => intro k j v _ h; simp at h
      | cons a r ih =>
        intro k j v hl h
        have ha : a.category = 1 := hl a List.mem_cons_self
        cases j with
        | zero =>
          simp only [List.getElem?_cons_zero, Option.some.injEq] at h
          subst h
          cases a <;> simp [lv_args]
        | succ j =>
          have := ih (k + 1) j v (fun w hw => hl w (List.mem_cons_of_mem _ hw)) (by simpa using h)
          have e : k + (j + 1) = k + 1 + j := by omega
          rw [e]
          cases a <;> simp_all [lv_args, Value.category]
    have := key vs 0 j q.2 hc h3
    have e : q = (0 + j, q.2) := by obtain ⟨x, y⟩ := q; simp_all
    rw [e]; exact this
  · rcases List.mem_append.mp hv with h1 | h1
    · obtain ⟨w, hw, he⟩ := List.mem_map.mp h1
      cases he; exact hc _ hw
    · have := List.eq_of_mem_replicate h1
      cases this
/-- the machine at pc with the locals ls, the stack st, over any heap that holds the memory g in the shape sh, comes to a state with Z -/
def jv_V (p : Program) (l : Launch) (e : Env) (R : Room) (s : State) (m : MethodId) (args : Array Value) (below : List Frame) (meth : Method) (c : Code) (cells slots : Nat) (Z : State → Prop) (s0 : State) (D : va_G) (ids : Nat → ClassId) (ex : Option Nat) (sh : jv_Sh) (g : jv_Mem) (pc : Nat) (ls : List (Option Value)) (st : List Value) : Prop :=
  ∀ (H : Heap) (locs : List Loc) (arr : Array Slot), jv_H s0.heap.size D ids sh g H → (∀ n, ex = some n → H.size = s0.heap.size + n) → va_S (fun q => s0.heap.size ≤ q) s.heap H locs → jv_L arr c.maxLocals ls → W p l e R s m args below meth c H locs cells slots Z (F0 m pc arr st)
end
section
section JVR
variable {p : Program} {l : Launch} {e : Env} {R : Room} {s : State} {m : MethodId} {args : Array Value} {below : List Frame} {meth : Method} {c : Code} {cells slots : Nat} {Z : State → Prop} {s0 : State} {b0 : Addr} {D : va_G} {ids : Nat → ClassId} {ex : Option Nat} {sh : jv_Sh} {g : jv_Mem} {pc : Nat} {ls ls' : List (Option Value)} {st : List Value} {cc : ByteArray} {own : String}
theorem jv_const (C : jv_C p s m args c cc own s0 b0 D ids) {n : Int} (hd : decode cc pc = .ok (.iconst n, 1)) (k : jv_V p l e R s m args below meth c cells slots Z s0 D ids ex sh g (pc + 1) ls (jv_i n :: st)) : jv_V p l e R s m args below meth c cells slots Z s0 D ids ex sh g pc ls st :=
  fun H locs arr h1 h2 h3 h4 => lv_iconst C.1 C.2.1 hd rfl (k H locs arr h1 h2 h3 h4)
theorem jv_bipush (C : jv_C p s m args c cc own s0 b0 D ids) {n : Int} (hd : decode cc pc = .ok (.bipush n, 2)) (hv : (Int8.ofInt n).toInt32 = Int32.ofInt n) (k : jv_V p l e R s m args below meth c cells slots Z s0 D ids ex sh g (pc + 2) ls (jv_i n :: st)) : jv_V p l e R s m args below meth c cells slots Z s0 D ids ex sh g pc ls st :=
  fun H locs arr h1 h2 h3 h4 => lv_bipush C.1 C.2.1 hd hv (k H locs arr h1 h2 h3 h4)
theorem jv_sipush (C : jv_C p s m args c cc own s0 b0 D ids) {n : Int} (hd : decode cc pc = .ok (.sipush n, 3)) (hv : (Int16.ofInt n).toInt32 = Int32.ofInt n) (k : jv_V p l e R s m args below meth c cells slots Z s0 D ids ex sh g (pc + 3) ls (jv_i n :: st)) : jv_V p l e R s m args below meth c cells slots Z s0 D ids ex sh g pc ls st :=
  fun H locs arr h1 h2 h3 h4 => lv_sipush C.1 C.2.1 hd hv (k H locs arr h1 h2 h3 h4)
theorem jv_ldc (C : jv_C p s m args c cc own s0 b0 D ids) {n : Int} {idx : Nat} (hd : decode cc pc = .ok (.ldc idx, 2)) (hw : Cond.constant own idx (Int32.ofInt n) ∈ jv_tb) (k : jv_V p l e R s m args below meth c cells slots Z s0 D ids ex sh g (pc + 2) ls (jv_i n :: st)) : jv_V p l e R s m args below meth c cells slots Z s0 D ids ex sh g pc ls st :=
  fun H locs arr h1 h2 h3 h4 => lv_ldc C.1 C.2.1 C.2.2.1 (C.2.2.2.hts _ hw) hd (k H locs arr h1 h2 h3 h4)
theorem jv_iload_n (C : jv_C p s m args c cc own s0 b0 D ids) {j : Fin 4} {x : Int32} (hd : decode cc pc = .ok (.iload_n j, 1)) (hl : ls[(j : Nat)]? = some (some (.int x))) (k : jv_V p l e R s m args below meth c cells slots Z s0 D ids ex sh g (pc + 1) ls (.int x :: st)) : jv_V p l e R s m args below meth c cells slots Z s0 D ids ex sh g pc ls st :=
  fun H locs arr h1 h2 h3 h4 => lv_iload_n C.1 C.2.1 hd rfl (h4.at hl) (k H locs arr h1 h2 h3 h4)
theorem jv_iload (C : jv_C p s m args c cc own s0 b0 D ids) {j : Nat} {x : Int32} (hd : decode cc pc = .ok (.iload j, 2)) (hl : ls[j]? = some (some (.int x))) (k : jv_V p l e R s m args below meth c cells slots Z s0 D ids ex sh g (pc + 2) ls (.int x :: st)) : jv_V p l e R s m args below meth c cells slots Z s0 D ids ex sh g pc ls st :=
  fun H locs arr h1 h2 h3 h4 => lv_iload C.1 C.2.1 hd (h4.at hl) (k H locs arr h1 h2 h3 h4)
theorem jv_aload_n (C : jv_C p s m args c cc own s0 b0 D ids) {j : Fin 4} {x : Addr} (hd : decode cc pc = .ok (.aload_n j, 1)) (hl : ls[(j : Nat)]? = some (some (.ref x))) (k : jv_V p l e R s m args below meth c cells slots Z s0 D ids ex sh g (pc + 1) ls (.ref x :: st)) : jv_V p l e R s m args below meth c cells slots Z s0 D ids ex sh g pc ls st :=
  fun H locs arr h1 h2 h3 h4 => lv_aload_n C.1 C.2.1 hd rfl (h4.at hl) (k H locs arr h1 h2 h3 h4)
theorem jv_aload (C : jv_C p s m args c cc own s0 b0 D ids) {j : Nat} {x : Addr} (hd : decode cc pc = .ok (.aload j, 2)) (hl : ls[j]? = some (some (.ref x))) (k : jv_V p l e R s m args below meth c cells slots Z s0 D ids ex sh g (pc + 2) ls (.ref x :: st)) : jv_V p l e R s m args below meth c cells slots Z s0 D ids ex sh g pc ls st :=
  fun H locs arr h1 h2 h3 h4 => lv_aload C.1 C.2.1 hd (h4.at hl) (k H locs arr h1 h2 h3 h4)
theorem jv_istore_n (C : jv_C p s m args c cc own s0 b0 D ids) {j : Fin 4} {x : Int32} (hd : decode cc pc = .ok (.istore_n j, 1)) (hn : (j : Nat) < c.maxLocals) (hl : ls.set (j : Nat) (some (.int x)) = ls') (k : jv_V p l e R s m args below meth c cells slots Z s0 D ids ex sh g (pc + 1) ls' st) : jv_V p l e R s m args below meth c cells slots Z s0 D ids ex sh g pc ls (.int x :: st) :=
  fun H locs arr h1 h2 h3 h4 => lv_istore_n C.1 C.2.1 hd rfl h4.1 hn rfl (fun arr' h' => k H locs arr' h1 h2 h3 (h4.set rfl hl h'))
theorem jv_istore (C : jv_C p s m args c cc own s0 b0 D ids) {j : Nat} {x : Int32} (hd : decode cc pc = .ok (.istore j, 2)) (hn : j < c.maxLocals) (hl : ls.set j (some (.int x)) = ls') (k : jv_V p l e R s m args below meth c cells slots Z s0 D ids ex sh g (pc + 2) ls' st) : jv_V p l e R s m args below meth c cells slots Z s0 D ids ex sh g pc ls (.int x :: st) :=
  fun H locs arr h1 h2 h3 h4 => lv_istore C.1 C.2.1 hd h4.1 hn rfl (fun arr' h' => k H locs arr' h1 h2 h3 (h4.set rfl hl h'))
theorem jv_astore_n (C : jv_C p s m args c cc own s0 b0 D ids) {j : Fin 4} {x : Addr} (hd : decode cc pc = .ok (.astore_n j, 1)) (hn : (j : Nat) < c.maxLocals) (hl : ls.set (j : Nat) (some (.ref x)) = ls') (k : jv_V p l e R s m args below meth c cells slots Z s0 D ids ex sh g (pc + 1) ls' st) : jv_V p l e R s m args below meth c cells slots Z s0 D ids ex sh g pc ls (.ref x :: st) :=
  fun H locs arr h1 h2 h3 h4 => lv_astore_n C.1 C.2.1 hd rfl h4.1 hn rfl (fun arr' h' => k H locs arr' h1 h2 h3 (h4.set rfl hl h'))
theorem jv_astore (C : jv_C p s m args c cc own s0 b0 D ids) {j : Nat} {x : Addr} (hd : decode cc pc = .ok (.astore j, 2)) (hn : j < c.maxLocals) (hl : ls.set j (some (.ref x)) = ls') (k : jv_V p l e R s m args below meth c cells slots Z s0 D ids ex sh g (pc + 2) ls' st) : jv_V p l e R s m args below meth c cells slots Z s0 D ids ex sh g pc ls (.ref x :: st) :=
  fun H locs arr h1 h2 h3 h4 => lv_astore C.1 C.2.1 hd h4.1 hn rfl (fun arr' h' => k H locs arr' h1 h2 h3 (h4.set rfl hl h'))
theorem jv_iinc (C : jv_C p s m args c cc own s0 b0 D ids) {j : Nat} {n x : Int} (hd : decode cc pc = .ok (.iinc j n, 3)) (hn : j < c.maxLocals) (hg : ls[j]? = some (some (jv_i x))) (hl : ls.set j (some (jv_i (x + n))) = ls') (k : jv_V p l e R s m args below meth c cells slots Z s0 D ids ex sh g (pc + 3) ls' st) : jv_V p l e R s m args below meth c cells slots Z s0 D ids ex sh g pc ls st := by
  intro H locs arr h1 h2 h3 h4
  have hm : (j, jv_i x) ∈ jv_la 0 ls := (jv_la_mem ls 0 _).mpr ⟨j, by simp, hg⟩
  obtain ⟨kk, hk⟩ := List.getElem?_of_mem hm
  exact lv_iinc C.1 C.2.1 hd h4.1 hk (Int32.ofInt_add x n).symm hn rfl (fun arr' h' => k H locs arr' h1 h2 h3 (h4.set rfl hl h'))
theorem jv_iadd (C : jv_C p s m args c cc own s0 b0 D ids) {x y : Int} (hd : decode cc pc = .ok (.iadd, 1)) (k : jv_V p l e R s m args below meth c cells slots Z s0 D ids ex sh g (pc + 1) ls (jv_i (x + y) :: st)) : jv_V p l e R s m args below meth c cells slots Z s0 D ids ex sh g pc ls (jv_i y :: jv_i x :: st) :=
  fun H locs arr h1 h2 h3 h4 => lv_iadd C.1 C.2.1 hd (by rw [← Int32.ofInt_add]; exact k H locs arr h1 h2 h3 h4)
theorem jv_isub (C : jv_C p s m args c cc own s0 b0 D ids) {x y : Int} (hd : decode cc pc = .ok (.isub, 1)) (k : jv_V p l e R s m args below meth c cells slots Z s0 D ids ex sh g (pc + 1) ls (jv_i (x - y) :: st)) : jv_V p l e R s m args below meth c cells slots Z s0 D ids ex sh g pc ls (jv_i y :: jv_i x :: st) :=
  fun H locs arr h1 h2 h3 h4 => lv_isub C.1 C.2.1 hd (by rw [← Int32.ofInt_sub]; exact k H locs arr h1 h2 h3 h4)
theorem jv_imul (C : jv_C p s m args c cc own s0 b0 D ids) {x y : Int} (hd : decode cc pc = .ok (.imul, 1)) (k : jv_V p l e R s m args below meth c cells slots Z s0 D ids ex sh g (pc + 1) ls (jv_i (x * y) :: st)) : jv_V p l e R s m args below meth c cells slots Z s0 D ids ex sh g pc ls (jv_i y :: jv_i x :: st) :=
  fun H locs arr h1 h2 h3 h4 => lv_imul C.1 C.2.1 hd (by rw [← Int32.ofInt_mul]; exact k H locs arr h1 h2 h3 h4)
/-- the machine's own operations, as numbers -/
def jv_and (x y : Int) : Int := (Int32.ofInt x &&& Int32.ofInt y).toInt
def jv_or (x y : Int) : Int := (Int32.ofInt x ||| Int32.ofInt y).toInt
def jv_xor (x y : Int) : Int := (Int32.ofInt x ^^^ Int32.ofInt y).toInt
def jv_shl (x y : Int) : Int := (Int32.ofInt x <<< (Int32.ofInt y &&& 31)).toInt
def jv_shr (x y : Int) : Int := (Int32.ofInt x >>> (Int32.ofInt y &&& 31)).toInt
def jv_div (x y : Int) : Int := (Int32.ofInt x / Int32.ofInt y).toInt
def jv_rem (x y : Int) : Int := (Int32.ofInt x - Int32.ofInt x / Int32.ofInt y * Int32.ofInt y).toInt
theorem jv_iand (C : jv_C p s m args c cc own s0 b0 D ids) {x y : Int} (hd : decode cc pc = .ok (.iand, 1)) (k : jv_V p l e R s m args below meth c cells slots Z s0 D ids ex sh g (pc + 1) ls (jv_i (jv_and x y) :: st)) : jv_V p l e R s m args below meth c cells slots Z s0 D ids ex sh g pc ls (jv_i y :: jv_i x :: st) :=
  fun H locs arr h1 h2 h3 h4 => lv_iand C.1 C.2.1 hd (by have := k H locs arr h1 h2 h3 h4; unfold jv_and jv_i at this; rwa [Int32.ofInt_toInt] at this)
theorem jv_ior (C : jv_C p s m args c cc own s0 b0 D ids) {x y : Int} (hd : decode cc pc = .ok (.ior, 1)) (k : jv_V p l e R s m args below meth c cells slots Z s0 D ids ex sh g (pc + 1) ls (jv_i (jv_or x y) :: st)) : jv_V p l e R s m args below meth c cells slots Z s0 D ids ex sh g pc ls (jv_i y :: jv_i x :: st) :=
  fun H locs arr h1 h2 h3 h4 => lv_ior C.1 C.2.1 hd (by have := k H locs arr h1 h2 h3 h4; unfold jv_or jv_i at this; rwa [Int32.ofInt_toInt] at this)
theorem jv_ixor (C : jv_C p s m args c cc own s0 b0 D ids) {x y : Int} (hd : decode cc pc = .ok (.ixor, 1)) (k : jv_V p l e R s m args below meth c cells slots Z s0 D ids ex sh g (pc + 1) ls (jv_i (jv_xor x y) :: st)) : jv_V p l e R s m args below meth c cells slots Z s0 D ids ex sh g pc ls (jv_i y :: jv_i x :: st) :=
  fun H locs arr h1 h2 h3 h4 => lv_ixor C.1 C.2.1 hd (by have := k H locs arr h1 h2 h3 h4; unfold jv_xor jv_i at this; rwa [Int32.ofInt_toInt] at this)
theorem jv_ishl (C : jv_C p s m args c cc own s0 b0 D ids) {x y : Int} (hd : decode cc pc = .ok (.ishl, 1)) (k : jv_V p l e R s m args below meth c cells slots Z s0 D ids ex sh g (pc + 1) ls (jv_i (jv_shl x y) :: st)) : jv_V p l e R s m args below meth c cells slots Z s0 D ids ex sh g pc ls (jv_i y :: jv_i x :: st) :=
  fun H locs arr h1 h2 h3 h4 => lv_ishl C.1 C.2.1 hd (by have := k H locs arr h1 h2 h3 h4; unfold jv_shl jv_i at this; rwa [Int32.ofInt_toInt] at this)
theorem jv_ishr (C : jv_C p s m args c cc own s0 b0 D ids) {x y : Int} (hd : decode cc pc = .ok (.ishr, 1)) (k : jv_V p l e R s m args below meth c cells slots Z s0 D ids ex sh g (pc + 1) ls (jv_i (jv_shr x y) :: st)) : jv_V p l e R s m args below meth c cells slots Z s0 D ids ex sh g pc ls (jv_i y :: jv_i x :: st) :=
  fun H locs arr h1 h2 h3 h4 => lv_ishr C.1 C.2.1 hd (by have := k H locs arr h1 h2 h3 h4; unfold jv_shr jv_i at this; rwa [Int32.ofInt_toInt] at this)
theorem jv_idiv (C : jv_C p s m args c cc own s0 b0 D ids) {x y : Int} (hne : ¬ Int32.ofInt y = 0) (hd : decode cc pc = .ok (.idiv, 1)) (k : jv_V p l e R s m args below meth c cells slots Z s0 D ids ex sh g (pc + 1) ls (jv_i (jv_div x y) :: st)) : jv_V p l e R s m args below meth c cells slots Z s0 D ids ex sh g pc ls (jv_i y :: jv_i x :: st) :=
  fun H locs arr h1 h2 h3 h4 => lv_idiv C.1 C.2.1 hd hne (by have := k H locs arr h1 h2 h3 h4; unfold jv_div jv_i at this; rwa [Int32.ofInt_toInt] at this)
theorem jv_irem (C : jv_C p s m args c cc own s0 b0 D ids) {x y : Int} (hne : ¬ Int32.ofInt y = 0) (hd : decode cc pc = .ok (.irem, 1)) (k : jv_V p l e R s m args below meth c cells slots Z s0 D ids ex sh g (pc + 1) ls (jv_i (jv_rem x y) :: st)) : jv_V p l e R s m args below meth c cells slots Z s0 D ids ex sh g pc ls (jv_i y :: jv_i x :: st) :=
  fun H locs arr h1 h2 h3 h4 => lv_irem C.1 C.2.1 hd hne (by have := k H locs arr h1 h2 h3 h4; unfold jv_rem jv_i at this; rwa [Int32.ofInt_toInt] at this)
theorem jv_dup (C : jv_C p s m args c cc own s0 b0 D ids) {v : Value} (hv : v.category = 1) (hd : decode cc pc = .ok (.dup, 1)) (k : jv_V p l e R s m args below meth c cells slots Z s0 D ids ex sh g (pc + 1) ls (v :: v :: st)) : jv_V p l e R s m args below meth c cells slots Z s0 D ids ex sh g pc ls (v :: st) :=
  fun H locs arr h1 h2 h3 h4 => lv_dup C.1 C.2.1 hd hv (k H locs arr h1 h2 h3 h4)
theorem jv_dup2 (C : jv_C p s m args c cc own s0 b0 D ids) {v w : Value} (hv : v.category = 1) (hw : w.category = 1) (hd : decode cc pc = .ok (.dup2, 1)) (k : jv_V p l e R s m args below meth c cells slots Z s0 D ids ex sh g (pc + 1) ls (v :: w :: v :: w :: st)) : jv_V p l e R s m args below meth c cells slots Z s0 D ids ex sh g pc ls (v :: w :: st) :=
  fun H locs arr h1 h2 h3 h4 => lv_dup2_11 C.1 C.2.1 hd hv hw (k H locs arr h1 h2 h3 h4)
theorem jv_goto (C : jv_C p s m args c cc own s0 b0 D ids) {off : Int} {tgt : Nat} (hd : decode cc pc = .ok (.goto off, 3)) (ht : (pc : Int) + off = (tgt : Int)) (k : jv_V p l e R s m args below meth c cells slots Z s0 D ids ex sh g tgt ls st) : jv_V p l e R s m args below meth c cells slots Z s0 D ids ex sh g pc ls st :=
  fun H locs arr h1 h2 h3 h4 => lv_goto C.1 C.2.1 hd ht (k H locs arr h1 h2 h3 h4)
/-- a number that an int can hold -/
def jv_r (x : Int) : Prop := -2147483648 ≤ x ∧ x < 2147483648
theorem jv_r.to {x : Int} (h : jv_r x) : (Int32.ofInt x).toInt = x := Int32.toInt_ofInt_of_le h.1 h.2
theorem jv_rlt {x y : Int} (hx : jv_r x) (hy : jv_r y) : Int32.ofInt x < Int32.ofInt y ↔ x < y := by rw [Int32.lt_iff_toInt_lt, hx.to, hy.to]
theorem jv_rle {x y : Int} (hx : jv_r x) (hy : jv_r y) : Int32.ofInt x ≤ Int32.ofInt y ↔ x ≤ y := by rw [Int32.le_iff_toInt_le, hx.to, hy.to]
theorem jv_req {x y : Int} (hx : jv_r x) (hy : jv_r y) : Int32.ofInt x = Int32.ofInt y ↔ x = y := by rw [← Int32.toInt_inj, hx.to, hy.to]
theorem jv_r0 : (0 : Int32) = Int32.ofInt 0 := rfl
theorem jv_rz : jv_r 0 := ⟨by decide, by decide⟩
theorem jv_icmp_eq (C : jv_C p s m args c cc own s0 b0 D ids) {x y : Int} {off : Int} {tgt : Nat} (hx : jv_r x) (hy : jv_r y) (hd : decode cc pc = .ok (.if_icmp .eq off, 3)) (ht : (pc : Int) + off = (tgt : Int)) (kt : x = y → jv_V p l e R s m args below meth c cells slots Z s0 D ids ex sh g tgt ls st) (kf : ¬ x = y → jv_V p l e R s m args below meth c cells slots Z s0 D ids ex sh g (pc + 3) ls st) : jv_V p l e R s m args below meth c cells slots Z s0 D ids ex sh g pc ls (jv_i y :: jv_i x :: st) :=
  fun H locs arr h1 h2 h3 h4 => lv_icmp_eq C.1 C.2.1 hd ht (fun h => kt ((jv_req hx hy).mp h) H locs arr h1 h2 h3 h4) (fun h => kf (fun h' => h ((jv_req hx hy).mpr h')) H locs arr h1 h2 h3 h4)
theorem jv_icmp_ne (C : jv_C p s m args c cc own s0 b0 D ids) {x y : Int} {off : Int} {tgt : Nat} (hx : jv_r x) (hy : jv_r y) (hd : decode cc pc = .ok (.if_icmp .ne off, 3)) (ht : (pc : Int) + off = (tgt : Int)) (kt : ¬ x = y → jv_V p l e R s m args below meth c cells slots Z s0 D ids ex sh g tgt ls st) (kf : x = y → jv_V p l e R s m args below meth c cells slots Z s0 D ids ex sh g (pc + 3) ls st) : jv_V p l e R s m args below meth c cells slots Z s0 D ids ex sh g pc ls (jv_i y :: jv_i x :: st) :=
  fun H locs arr h1 h2 h3 h4 => lv_icmp_ne C.1 C.2.1 hd ht (fun h => kt (fun h' => h ((jv_req hx hy).mpr h')) H locs arr h1 h2 h3 h4) (fun h => kf ((jv_req hx hy).mp h) H locs arr h1 h2 h3 h4)
theorem jv_icmp_lt (C : jv_C p s m args c cc own s0 b0 D ids) {x y : Int} {off : Int} {tgt : Nat} (hx : jv_r x) (hy : jv_r y) (hd : decode cc pc = .ok (.if_icmp .lt off, 3)) (ht : (pc : Int) + off = (tgt : Int)) (kt : x < y → jv_V p l e R s m args below meth c cells slots Z s0 D ids ex sh g tgt ls st) (kf : y ≤ x → jv_V p l e R s m args below meth c cells slots Z s0 D ids ex sh g (pc + 3) ls st) : jv_V p l e R s m args below meth c cells slots Z s0 D ids ex sh g pc ls (jv_i y :: jv_i x :: st) :=
  fun H locs arr h1 h2 h3 h4 => lv_icmp_lt C.1 C.2.1 hd ht (fun h => kt ((jv_rlt hx hy).mp h) H locs arr h1 h2 h3 h4) (fun h => kf (Int.not_lt.mp fun h' => h ((jv_rlt hx hy).mpr h')) H locs arr h1 h2 h3 h4)
theorem jv_icmp_ge (C : jv_C p s m args c cc own s0 b0 D ids) {x y : Int} {off : Int} {tgt : Nat} (hx : jv_r x) (hy : jv_r y) (hd : decode cc pc = .ok (.if_icmp .ge off, 3)) (ht : (pc : Int) + off = (tgt : Int)) (kt : y ≤ x → jv_V p l e R s m args below meth c cells slots Z s0 D ids ex sh g tgt ls st) (kf : x < y → jv_V p l e R s m args below meth c cells slots Z s0 D ids ex sh g (pc + 3) ls st) : jv_V p l e R s m args below meth c cells slots Z s0 D ids ex sh g pc ls (jv_i y :: jv_i x :: st) :=
  fun H locs arr h1 h2 h3 h4 => lv_icmp_ge C.1 C.2.1 hd ht (fun h => kt ((jv_rle hy hx).mp h) H locs arr h1 h2 h3 h4) (fun h => kf (Int.not_le.mp fun h' => h ((jv_rle hy hx).mpr h')) H locs arr h1 h2 h3 h4)
theorem jv_icmp_gt (C : jv_C p s m args c cc own s0 b0 D ids) {x y : Int} {off : Int} {tgt : Nat} (hx : jv_r x) (hy : jv_r y) (hd : decode cc pc = .ok (.if_icmp .gt off, 3)) (ht : (pc : Int) + off = (tgt : Int)) (kt : y < x → jv_V p l e R s m args below meth c cells slots Z s0 D ids ex sh g tgt ls st) (kf : x ≤ y → jv_V p l e R s m args below meth c cells slots Z s0 D ids ex sh g (pc + 3) ls st) : jv_V p l e R s m args below meth c cells slots Z s0 D ids ex sh g pc ls (jv_i y :: jv_i x :: st) :=
  fun H locs arr h1 h2 h3 h4 => lv_icmp_gt C.1 C.2.1 hd ht (fun h => kt ((jv_rlt hy hx).mp h) H locs arr h1 h2 h3 h4) (fun h => kf (Int.not_lt.mp fun h' => h ((jv_rlt hy hx).mpr h')) H locs arr h1 h2 h3 h4)
theorem jv_icmp_le (C : jv_C p s m args c cc own s0 b0 D ids) {x y : Int} {off : Int} {tgt : Nat} (hx : jv_r x) (hy : jv_r y) (hd : decode cc pc = .ok (.if_icmp .le off, 3)) (ht : (pc : Int) + off = (tgt : Int)) (kt : x ≤ y → jv_V p l e R s m args below meth c cells slots Z s0 D ids ex sh g tgt ls st) (kf : y < x → jv_V p l e R s m args below meth c cells slots Z s0 D ids ex sh g (pc + 3) ls st) : jv_V p l e R s m args below meth c cells slots Z s0 D ids ex sh g pc ls (jv_i y :: jv_i x :: st) :=
  fun H locs arr h1 h2 h3 h4 => lv_icmp_le C.1 C.2.1 hd ht (fun h => kt ((jv_rle hx hy).mp h) H locs arr h1 h2 h3 h4) (fun h => kf (Int.not_le.mp fun h' => h ((jv_rle hx hy).mpr h')) H locs arr h1 h2 h3 h4)
theorem jv_if_eq (C : jv_C p s m args c cc own s0 b0 D ids) {x : Int} {off : Int} {tgt : Nat} (hx : jv_r x) (hd : decode cc pc = .ok (.ifCond .eq off, 3)) (ht : (pc : Int) + off = (tgt : Int)) (kt : x = 0 → jv_V p l e R s m args below meth c cells slots Z s0 D ids ex sh g tgt ls st) (kf : ¬ x = 0 → jv_V p l e R s m args below meth c cells slots Z s0 D ids ex sh g (pc + 3) ls st) : jv_V p l e R s m args below meth c cells slots Z s0 D ids ex sh g pc ls (jv_i x :: st) :=
  fun H locs arr h1 h2 h3 h4 => lv_if_eq C.1 C.2.1 hd ht (fun h => kt ((jv_req hx jv_rz).mp h) H locs arr h1 h2 h3 h4) (fun h => kf (fun h' => h ((jv_req hx jv_rz).mpr h')) H locs arr h1 h2 h3 h4)
theorem jv_if_ne (C : jv_C p s m args c cc own s0 b0 D ids) {x : Int} {off : Int} {tgt : Nat} (hx : jv_r x) (hd : decode cc pc = .ok (.ifCond .ne off, 3)) (ht : (pc : Int) + off = (tgt : Int)) (kt : ¬ x = 0 → jv_V p l e R s m args below meth c cells slots Z s0 D ids ex sh g tgt ls st) (kf : x = 0 → jv_V p l e R s m args below meth c cells slots Z s0 D ids ex sh g (pc + 3) ls st) : jv_V p l e R s m args below meth c cells slots Z s0 D ids ex sh g pc ls (jv_i x :: st) :=
  fun H locs arr h1 h2 h3 h4 => lv_if_ne C.1 C.2.1 hd ht (fun h => kt (fun h' => h ((jv_req hx jv_rz).mpr h')) H locs arr h1 h2 h3 h4) (fun h => kf ((jv_req hx jv_rz).mp h) H locs arr h1 h2 h3 h4)
theorem jv_if_lt (C : jv_C p s m args c cc own s0 b0 D ids) {x : Int} {off : Int} {tgt : Nat} (hx : jv_r x) (hd : decode cc pc = .ok (.ifCond .lt off, 3)) (ht : (pc : Int) + off = (tgt : Int)) (kt : x < 0 → jv_V p l e R s m args below meth c cells slots Z s0 D ids ex sh g tgt ls st) (kf : 0 ≤ x → jv_V p l e R s m args below meth c cells slots Z s0 D ids ex sh g (pc + 3) ls st) : jv_V p l e R s m args below meth c cells slots Z s0 D ids ex sh g pc ls (jv_i x :: st) :=
  fun H locs arr h1 h2 h3 h4 => lv_if_lt C.1 C.2.1 hd ht (fun h => kt ((jv_rlt hx jv_rz).mp h) H locs arr h1 h2 h3 h4) (fun h => kf (Int.not_lt.mp fun h' => h ((jv_rlt hx jv_rz).mpr h')) H locs arr h1 h2 h3 h4)
theorem jv_if_ge (C : jv_C p s m args c cc own s0 b0 D ids) {x : Int} {off : Int} {tgt : Nat} (hx : jv_r x) (hd : decode cc pc = .ok (.ifCond .ge off, 3)) (ht : (pc : Int) + off = (tgt : Int)) (kt : 0 ≤ x → jv_V p l e R s m args below meth c cells slots Z s0 D ids ex sh g tgt ls st) (kf : x < 0 → jv_V p l e R s m args below meth c cells slots Z s0 D ids ex sh g (pc + 3) ls st) : jv_V p l e R s m args below meth c cells slots Z s0 D ids ex sh g pc ls (jv_i x :: st) :=
  fun H locs arr h1 h2 h3 h4 => lv_if_ge C.1 C.2.1 hd ht (fun h => kt ((jv_rle jv_rz hx).mp h) H locs arr h1 h2 h3 h4) (fun h => kf (Int.not_le.mp fun h' => h ((jv_rle jv_rz hx).mpr h')) H locs arr h1 h2 h3 h4)
theorem jv_if_gt (C : jv_C p s m args c cc own s0 b0 D ids) {x : Int} {off : Int} {tgt : Nat} (hx : jv_r x) (hd : decode cc pc = .ok (.ifCond .gt off, 3)) (ht : (pc : Int) + off = (tgt : Int)) (kt : 0 < x → jv_V p l e R s m args below meth c cells slots Z s0 D ids ex sh g tgt ls st) (kf : x ≤ 0 → jv_V p l e R s m args below meth c cells slots Z s0 D ids ex sh g (pc + 3) ls st) : jv_V p l e R s m args below meth c cells slots Z s0 D ids ex sh g pc ls (jv_i x :: st) :=
  fun H locs arr h1 h2 h3 h4 => lv_if_gt C.1 C.2.1 hd ht (fun h => kt ((jv_rlt jv_rz hx).mp h) H locs arr h1 h2 h3 h4) (fun h => kf (Int.not_lt.mp fun h' => h ((jv_rlt jv_rz hx).mpr h')) H locs arr h1 h2 h3 h4)
theorem jv_if_le (C : jv_C p s m args c cc own s0 b0 D ids) {x : Int} {off : Int} {tgt : Nat} (hx : jv_r x) (hd : decode cc pc = .ok (.ifCond .le off, 3)) (ht : (pc : Int) + off = (tgt : Int)) (kt : x ≤ 0 → jv_V p l e R s m args below meth c cells slots Z s0 D ids ex sh g tgt ls st) (kf : 0 < x → jv_V p l e R s m args below meth c cells slots Z s0 D ids ex sh g (pc + 3) ls st) : jv_V p l e R s m args below meth c cells slots Z s0 D ids ex sh g pc ls (jv_i x :: st) :=
  fun H locs arr h1 h2 h3 h4 => lv_if_le C.1 C.2.1 hd ht (fun h => kt ((jv_rle hx jv_rz).mp h) H locs arr h1 h2 h3 h4) (fun h => kf (Int.not_le.mp fun h' => h ((jv_rle hx jv_rz).mpr h')) H locs arr h1 h2 h3 h4)
end JVR
end
section
theorem jv_fs_get (B : Nat) (g : jv_Mem) (i : Int) : ∀ (ds : List (Option (Option Int))) (k j : Nat), (jv_fs B g i k ds)[j]? = (ds[j]?).map (jv_fv B g i (k + j)) := by
  intro ds
  induction ds with
  | nil => intro k j; simp [jv_fs]
  | cons d r ih =>
    intro k j
    rcases d with _ | _ | t <;> cases j with
    | zero => simp [jv_fs, jv_fv]
    | succ j => simp [jv_fs, ih]; congr 2; omega
theorem jv_fs_len (B : Nat) (g : jv_Mem) (i : Int) : ∀ (ds : List (Option (Option Int))) (k : Nat), (jv_fs B g i k ds).length = ds.length := by
  intro ds
  induction ds with
  | nil => intro k; simp [jv_fs]
  | cons d r ih => intro k; rcases d with _ | _ | t <;> simp [jv_fs, ih]
theorem jv_fs_congr {B : Nat} {g g' : jv_Mem} {i : Int} (h : ∀ a, g i a = g' i a) : ∀ (ds : List (Option (Option Int))) (k : Nat), jv_fs B g i k ds = jv_fs B g' i k ds := by
  intro ds
  induction ds with
  | nil => intro k; simp [jv_fs]
  | cons d r ih => intro k; rcases d with _ | _ | t <;> simp [jv_fs, ih, h]
theorem jv_E_congr {B : Nat} {ids : Nat → ClassId} {g g' : jv_Mem} {i : Int} (h : ∀ a, g i a = g' i a) (k : jv_Kd) : jv_E B ids g i k = jv_E B ids g' i k := by
  rcases k with ⟨_ | _ | _ | c, n, mm⟩ | ⟨ci, ds⟩
  · simp [jv_E, h]
  · simp [jv_E, h]
  · simp [jv_E, h]
  · simp [jv_E]
  · simp [jv_E, jv_fs_congr h]
def jv_su (sh : jv_Sh) (i : Int) (k : jv_Kd) : jv_Sh := fun j => if j = i then some k else sh j
theorem jv_H.put {B : Nat} {D : va_G} {ids : Nat → ClassId} {sh : jv_Sh} {g g' : jv_Mem} {H H1 : Heap} (h : jv_H B D ids sh g H) {i : Int} {k : jv_Kd} (hs : sh i = some k) (hg : ∀ j a, j ≠ i → g j a = g' j a) (he : va_at D vwCl (B + i.toNat, jv_E B ids g' i k) H1) (ho : ∀ q : Nat, q ≠ B + i.toNat → H1[q]? = H[q]?) : jv_H B D ids sh g' H1 := by
  intro j kj hj
  by_cases hji : j = i
  · subst hji
    cases hs.symm.trans hj
    exact ⟨(h j _ hj).1, he⟩
  · obtain ⟨h1, h2⟩ := h j kj hj
    obtain ⟨h3, -⟩ := h i k hs
    refine ⟨h1, ?_⟩
    rw [← jv_E_congr (fun a => hg j a hji)]
    exact h2.kept (ho _ (fun e => hji (by have e' : B + j.toNat = B + i.toNat := e; omega)))
theorem jv_H.shp {B : Nat} {D : va_G} {ids : Nat → ClassId} {sh : jv_Sh} {g : jv_Mem} {H H1 : Heap} (h : jv_H B D ids sh g H) {i : Int} {k k' : jv_Kd} (hs : sh i = some k) (he : va_at D vwCl (B + i.toNat, jv_E B ids g i k') H1) (ho : ∀ q : Nat, q ≠ B + i.toNat → H1[q]? = H[q]?) : jv_H B D ids (jv_su sh i k') g H1 := by
  intro j kj hj
  obtain ⟨h3, -⟩ := h i k hs
  unfold jv_su at hj
  by_cases hji : j = i
  · subst hji
    rw [if_pos rfl] at hj
    cases hj
    exact ⟨h3, he⟩
  · rw [if_neg hji] at hj
    obtain ⟨h1, h2⟩ := h j kj hj
    exact ⟨h1, h2.kept (ho _ (fun e => hji (by have e' : B + j.toNat = B + i.toNat := e; omega)))⟩
theorem jv_H.kept {B : Nat} {D : va_G} {ids : Nat → ClassId} {sh : jv_Sh} {g : jv_Mem} {H H1 : Heap} (h : jv_H B D ids sh g H) (ho : ∀ q : Nat, q < H.size → H1[q]? = H[q]?) : jv_H B D ids sh g H1 := fun i k hk => ⟨(h i k hk).1, (h i k hk).2.kept (ho _ (h i k hk).2.lt)⟩
/-- a field of a class by an entry of a pool -/
def jv_F (own : String) (idx ci kf : Nat) (ty : FieldType) (fin : Bool) : Prop := ∃ (K : String) (T : u_T) (N : Nat) (ty0 : Nat → FieldType), vwCl[ci]? = some (K, T, N) ∧ (∀ w ∈ u_ws K T N, w ∈ jv_tb) ∧ kf < N ∧ Cond.fieldLink own idx (T kf).1 (T kf).2.1 (T kf).2.2.1 ∈ jv_tb ∧ parseFieldDescriptor (T kf).2.2.1 = some ty ∧ (T kf).2.2.2 = fin ∧ (∀ k, k < N → parseFieldDescriptor (T k).2.2.1 = some (ty0 k)) ∧ (∀ a, a < N → ∀ b, b < N → a ≠ b → (T a).2.1 ≠ (T b).2.1) ∧ (fin = true → (T kf).1 = own)
theorem va_P.one {D : va_G} {cl : List vw_C} {q : Nat × va_E} {H : Heap} (h : va_at D cl q H) : va_P D cl [q] H := by
  intro k x hx
  cases k with
  | zero => simp at hx; subst hx; exact h
  | succ k => simp at hx
section JVH
variable {p : Program} {l : Launch} {e : Env} {R : Room} {s : State} {m : MethodId} {args : Array Value} {below : List Frame} {meth : Method} {c : Code} {cells slots : Nat} {Z : State → Prop} {s0 : State} {b0 : Addr} {D : va_G} {ids : Nat → ClassId} {ex : Option Nat} {sh : jv_Sh} {g : jv_Mem} {pc : Nat} {ls ls' : List (Option Value)} {st : List Value} {cc : ByteArray} {own : String}
theorem jv_get (C : jv_C p s m args c cc own s0 b0 D ids) {i : Int} {idx ci kf : Nat} {ty : FieldType} {fin : Bool} {ds : List (Option (Option Int))} {d : Option (Option Int)} (F : jv_F own idx ci kf ty fin) (hs : sh i = some (.inr (ci, ds))) (hf : ds[kf]? = some d) (hd : decode cc pc = .ok (.getfield idx, 3)) (k : jv_V p l e R s m args below meth c cells slots Z s0 D ids ex sh g (pc + 3) ls (jv_fv s0.heap.size g i kf d :: st)) : jv_V p l e R s m args below meth c cells slots Z s0 D ids ex sh g pc ls (.ref (s0.heap.size + i.toNat) :: st) := by
  intro H locs arr h1 h2 h3 h4
  obtain ⟨K, T, N, ty0, f1, f2, f3, f4, -⟩ := F
  refine va_get (D := D) (cl := vwCl) (tys := jv_tys ids) (Ts := jv_tb) C.1 C.2.1 C.2.2.2.hts f2 C.2.2.1 C.2.2.2.K (va_P.one (h1 i _ hs).2) 0 rfl f1 kf f3 (C.2.2.2.hts _ f4) (fun _ h => h) (v := jv_fv s0.heap.size g i kf d) ?_ hd (k H locs arr h1 h2 h3 h4)
  rw [jv_fs_get, hf]
  simp
theorem jv_geti (C : jv_C p s m args c cc own s0 b0 D ids) {i : Int} {idx ci kf : Nat} {ty : FieldType} {fin : Bool} {ds : List (Option (Option Int))} (F : jv_F own idx ci kf ty fin) (hs : sh i = some (.inr (ci, ds))) (hf : ds[kf]? = some (some none)) (hd : decode cc pc = .ok (.getfield idx, 3)) (k : jv_V p l e R s m args below meth c cells slots Z s0 D ids ex sh g (pc + 3) ls (jv_i (g i (kf : Nat)) :: st)) : jv_V p l e R s m args below meth c cells slots Z s0 D ids ex sh g pc ls (.ref (s0.heap.size + i.toNat) :: st) := jv_get C F hs hf hd k
theorem jv_getr (C : jv_C p s m args c cc own s0 b0 D ids) {i t : Int} {idx ci kf : Nat} {ty : FieldType} {fin : Bool} {ds : List (Option (Option Int))} (F : jv_F own idx ci kf ty fin) (hs : sh i = some (.inr (ci, ds))) (hf : ds[kf]? = some (some (some t))) (hd : decode cc pc = .ok (.getfield idx, 3)) (k : jv_V p l e R s m args below meth c cells slots Z s0 D ids ex sh g (pc + 3) ls (.ref (s0.heap.size + t.toNat) :: st)) : jv_V p l e R s m args below meth c cells slots Z s0 D ids ex sh g pc ls (.ref (s0.heap.size + i.toNat) :: st) := jv_get C F hs hf hd k
theorem jv_in {x : Int} {n : Nat} (h0 : 0 ≤ x) (hn : x < n) (hN : Nat.blt n 2147483648 = true) : vp_in (Int32.ofInt x) n ∧ (((Int32.ofInt x).toNatClampNeg : Nat) : Int) = x := by
  have hN' : n < 2147483648 := by simpa [Nat.blt_eq] using hN
  have hr : jv_r x := ⟨by omega, by omega⟩
  refine ⟨vp_in_iff.mpr ⟨by rw [hr.to]; exact h0, by rw [hr.to]; exact hn⟩, ?_⟩
  show (((Int32.ofInt x).toInt.toNat : Nat) : Int) = x
  rw [hr.to]; omega
theorem jv_iald (C : jv_C p s m args c cc own s0 b0 D ids) {i x : Int} {n mm : Nat} (hs : sh i = some (.inl (0, n, mm))) (hN : Nat.blt n 2147483648 = true) (hb : 0 ≤ x ∧ x < n) (hd : decode cc pc = .ok (.iaload, 1)) (k : jv_V p l e R s m args below meth c cells slots Z s0 D ids ex sh g (pc + 1) ls (jv_i (g i x) :: st)) : jv_V p l e R s m args below meth c cells slots Z s0 D ids ex sh g pc ls (jv_i x :: .ref (s0.heap.size + i.toNat) :: st) := by
  intro H locs arr h1 h2 h3 h4
  obtain ⟨a1, a2⟩ := jv_in hb.1 hb.2 hN
  refine va_iald (D := D) (cl := vwCl) (tys := jv_tys ids) C.1 C.2.1 C.2.2.2.K (va_P.one (h1 i _ hs).2) 0 0 rfl rfl a1 hd ?_
  have := k H locs arr h1 h2 h3 h4
  simp only [a2]
  exact this
theorem jv_zald (C : jv_C p s m args c cc own s0 b0 D ids) {i x : Int} {n mm : Nat} (hs : sh i = some (.inl (1, n, mm))) (hN : Nat.blt n 2147483648 = true) (hb : 0 ≤ x ∧ x < n) (hd : decode cc pc = .ok (.baload, 1)) (k : jv_V p l e R s m args below meth c cells slots Z s0 D ids ex sh g (pc + 1) ls (jv_i (g i x) :: st)) : jv_V p l e R s m args below meth c cells slots Z s0 D ids ex sh g pc ls (jv_i x :: .ref (s0.heap.size + i.toNat) :: st) := by
  intro H locs arr h1 h2 h3 h4
  obtain ⟨a1, a2⟩ := jv_in hb.1 hb.2 hN
  refine va_zald (D := D) (cl := vwCl) (tys := jv_tys ids) C.1 C.2.1 C.2.2.2.K (va_P.one (h1 i _ hs).2) 0 1 rfl rfl a1 hd ?_
  have := k H locs arr h1 h2 h3 h4
  simp only [a2]
  exact this
theorem jv_aald (C : jv_C p s m args c cc own s0 b0 D ids) {i x : Int} {cn n mm : Nat} (hcn : cn < 2) (hs : sh i = some (.inl (cn + 3, n, mm))) (hN : Nat.blt n 2147483648 = true) (hb : 0 ≤ x ∧ x < n) (hm : x < mm) (hd : decode cc pc = .ok (.aaload, 1)) (k : jv_V p l e R s m args below meth c cells slots Z s0 D ids ex sh g (pc + 1) ls (.ref (s0.heap.size + jv_ra cn x.toNat) :: st)) : jv_V p l e R s m args below meth c cells slots Z s0 D ids ex sh g pc ls (jv_i x :: .ref (s0.heap.size + i.toNat) :: st) := by
  intro H locs arr h1 h2 h3 h4
  obtain ⟨a1, a2⟩ := jv_in hb.1 hb.2 hN
  have a3 : (Int32.ofInt x).toNatClampNeg = x.toNat := by omega
  have ht : (jv_tys ids)[cn + 3]? = some (ids (cn + 3), .object (if cn = 0 then RX3 else RX4)) := by
    rcases (show cn = 0 ∨ cn = 1 by omega) with rfl | rfl <;> rfl
  refine va_aldq (D := D) (cl := vwCl) (tys := jv_tys ids) C.1 C.2.1 C.2.2.2.K (va_P.one (h1 i _ hs).2) 0 (cn + 3) rfl ht a1 hd ?_
  have := k H locs arr h1 h2 h3 h4
  rw [a3, if_pos (by omega)]
  exact this
theorem jv_lald (C : jv_C p s m args c cc own s0 b0 D ids) {i x : Int} {n mm : Nat} (hs : sh i = some (.inl (2, n, mm))) (hN : Nat.blt n 2147483648 = true) (hb : 0 ≤ x ∧ x < n) (hd : decode cc pc = .ok (.laload, 1)) (k : jv_V p l e R s m args below meth c cells slots Z s0 D ids ex sh g (pc + 1) ls (.long (Int64.ofInt (g i x)) :: st)) : jv_V p l e R s m args below meth c cells slots Z s0 D ids ex sh g pc ls (jv_i x :: .ref (s0.heap.size + i.toNat) :: st) := by
  intro H locs arr h1 h2 h3 h4
  obtain ⟨a1, a2⟩ := jv_in hb.1 hb.2 hN
  refine va_lald (D := D) (cl := vwCl) (tys := jv_tys ids) C.1 C.2.1 C.2.2.2.K (va_P.one (h1 i _ hs).2) 0 2 rfl rfl a1 hd ?_
  have := k H locs arr h1 h2 h3 h4
  simp only [a2]
  exact this
theorem jv_iast (C : jv_C p s m args c cc own s0 b0 D ids) {i x v : Int} {n mm : Nat} (hs : sh i = some (.inl (0, n, mm))) (hN : Nat.blt n 2147483648 = true) (hb : 0 ≤ x ∧ x < n) (hd : decode cc pc = .ok (.iastore, 1)) (k : jv_V p l e R s m args below meth c cells slots Z s0 D ids ex sh (jv_up g i x v) (pc + 1) ls st) : jv_V p l e R s m args below meth c cells slots Z s0 D ids ex sh g pc ls (jv_i v :: jv_i x :: .ref (s0.heap.size + i.toNat) :: st) := by
  intro H locs arr h1 h2 h3 h4
  obtain ⟨a1, a2⟩ := jv_in hb.1 hb.2 hN
  have hat : H[s0.heap.size + i.toNat]? = some (arrV (ids 0) n (fun j => .int (Int32.ofInt (g i j)))) := (h1 i _ hs).2
  refine W.iast C.1 C.2.1 hat ((C.2.2.2.K.2 0 _ rfl).1 n _) (fun q => by cases q) (by show ¬ (_ < 0 ∨ (arrV _ _ _).slots.size ≤ _); rw [arrV_size]; exact a1) rfl rfl hd fun H1 e z oq => ?_
  refine k H1 _ arr (h1.put hs (fun j a hj => (jv_up_i hj).symm) ?_ oq) (fun n hn => by rw [z]; exact h2 n hn) (h3.put z oq (Nat.le_add_right _ _)) h4
  show H1[s0.heap.size + i.toNat]? = some (vp_cell _ _)
  rw [e, arrV_store, vp_cell_i]
  congr 2
  funext j
  by_cases hj : j = (Int32.ofInt x).toNatClampNeg
  · subst hj
    simp [updV, a2, jv_up]
  · have : (j : Int) ≠ x := fun h => hj (by omega)
    simp [updV, hj, jv_up, this]
theorem jv_zast (C : jv_C p s m args c cc own s0 b0 D ids) {i x v : Int} {n mm : Nat} (hs : sh i = some (.inl (1, n, mm))) (hN : Nat.blt n 2147483648 = true) (hv : v = 0 ∨ v = 1) (hb : 0 ≤ x ∧ x < n) (hd : decode cc pc = .ok (.bastore, 1)) (k : jv_V p l e R s m args below meth c cells slots Z s0 D ids ex sh (jv_up g i x v) (pc + 1) ls st) : jv_V p l e R s m args below meth c cells slots Z s0 D ids ex sh g pc ls (jv_i v :: jv_i x :: .ref (s0.heap.size + i.toNat) :: st) := by
  intro H locs arr h1 h2 h3 h4
  obtain ⟨a1, a2⟩ := jv_in hb.1 hb.2 hN
  have hat : H[s0.heap.size + i.toNat]? = some (arrV (ids 1) n (fun j => .int (Int32.ofInt (g i j)))) := (h1 i _ hs).2
  refine W.zast C.1 C.2.1 hat ((C.2.2.2.K.2 1 _ rfl).1 n _) (fun q => by cases q) (by show ¬ (_ < 0 ∨ (arrV _ _ _).slots.size ≤ _); rw [arrV_size]; exact a1) rfl rfl hd fun H1 e z oq => ?_
  refine k H1 _ arr (h1.put hs (fun j a hj => (jv_up_i hj).symm) ?_ oq) (fun n hn => by rw [z]; exact h2 n hn) (h3.put z oq (Nat.le_add_right _ _)) h4
  have hnar : narrow .boolean (.int (Int32.ofInt v)) = .int (Int32.ofInt v) := by rcases hv with rfl | rfl <;> rfl
  show H1[s0.heap.size + i.toNat]? = some (vp_cell _ _)
  rw [e, hnar, arrV_store, vp_cell_i]
  congr 2
  funext j
  by_cases hj : j = (Int32.ofInt x).toNatClampNeg
  · subst hj
    simp [updV, a2, jv_up]
  · have : (j : Int) ≠ x := fun h => hj (by omega)
    simp [updV, hj, jv_up, this]
theorem jv_last (C : jv_C p s m args c cc own s0 b0 D ids) {i x v : Int} {n mm : Nat} (hs : sh i = some (.inl (2, n, mm))) (hN : Nat.blt n 2147483648 = true) (hb : 0 ≤ x ∧ x < n) (hd : decode cc pc = .ok (.lastore, 1)) (k : jv_V p l e R s m args below meth c cells slots Z s0 D ids ex sh (jv_up g i x v) (pc + 1) ls st) : jv_V p l e R s m args below meth c cells slots Z s0 D ids ex sh g pc ls (.long (Int64.ofInt v) :: jv_i x :: .ref (s0.heap.size + i.toNat) :: st) := by
  intro H locs arr h1 h2 h3 h4
  obtain ⟨a1, a2⟩ := jv_in hb.1 hb.2 hN
  have hat : H[s0.heap.size + i.toNat]? = some (arrV (ids 2) n (fun j => .long (Int64.ofInt (g i j)))) := (h1 i _ hs).2
  refine W.last C.1 C.2.1 hat ((C.2.2.2.K.2 2 _ rfl).1 n _) (fun q => by cases q) (by show ¬ (_ < 0 ∨ (arrV _ _ _).slots.size ≤ _); rw [arrV_size]; exact a1) rfl rfl hd fun H1 e z oq => ?_
  refine k H1 _ arr (h1.put hs (fun j a hj => (jv_up_i hj).symm) ?_ oq) (fun n hn => by rw [z]; exact h2 n hn) (h3.put z oq (Nat.le_add_right _ _)) h4
  show H1[s0.heap.size + i.toNat]? = some (vp_cell _ _)
  rw [e, arrV_store, vp_cell_l]
  congr 2
  funext j
  by_cases hj : j = (Int32.ofInt x).toNatClampNeg
  · subst hj
    simp [updV, a2, jv_up]
  · have : (j : Int) ≠ x := fun h => hj (by omega)
    simp [updV, hj, jv_up, this]
theorem jv_fs_seti {B : Nat} {g : jv_Mem} {i v : Int} {kf : Nat} {ds : List (Option (Option Int))} (hf : ds[kf]? = some (some none)) : (jv_fs B g i 0 ds).set kf (jv_i v) = jv_fs B (jv_up g i kf v) i 0 ds := by
  apply List.ext_getElem?
  intro j
  have hk : kf < ds.length := (List.getElem?_eq_some_iff.mp hf).1
  rw [List.getElem?_set, jv_fs_len, jv_fs_get, jv_fs_get]
  by_cases hj : kf = j
  · subst hj
    rw [if_pos rfl, if_pos hk, hf]
    simp [jv_fv, jv_up]
  · rw [if_neg hj]
    congr 1
    funext d
    have : ((0 + j : Nat) : Int) ≠ kf := by omega
    rcases d with _ | _ | t
    · rfl
    · simp only [jv_fv, jv_up_k this]
    · rfl
theorem jv_puti (C : jv_C p s m args c cc own s0 b0 D ids) {i v : Int} {idx ci kf : Nat} {ds : List (Option (Option Int))} (F : jv_F own idx ci kf .int false) (hs : sh i = some (.inr (ci, ds))) (hf : ds[kf]? = some (some none)) (hd : decode cc pc = .ok (.putfield idx, 3)) (k : jv_V p l e R s m args below meth c cells slots Z s0 D ids ex sh (jv_up g i (kf : Nat) v) (pc + 3) ls st) : jv_V p l e R s m args below meth c cells slots Z s0 D ids ex sh g pc ls (jv_i v :: .ref (s0.heap.size + i.toNat) :: st) := by
  intro H locs arr h1 h2 h3 h4
  obtain ⟨K, T, N, ty0, f1, f2, f3, f4, f5, f6, f7, f8, -⟩ := F
  have hK := C.2.2.2.K
  have hts := C.2.2.2.hts (a := args)
  have hap := va_apart (own := own) hts f2 ty0 f7 f8 hK f1
  obtain ⟨r, g1, cell, q1, q2, q3, q4⟩ := (h1 i _ hs).2
  have hr : r = (K, T, N) := Option.some.inj (g1.symm.trans f1)
  subst hr
  obtain ⟨hS, hfc, kC, hkC, hkind⟩ := hK.1 ci _ f1
  obtain ⟨cf, kf', fi, f, hi, hsl⟩ := hS kf f3
  have hlay := hts _ (f2 _ (u_in_lay f3))
  unfold u_lay at hlay
  rw [if_neg (by rw [f6]; decide)] at hlay
  have hst := (u_facts hfc hkC (u_lays hts f2 f3) hi).1
  have h6 := u_store hfc hkC hkind hlay hi f5 (v := jv_i v) rfl rfl
  refine W.putK C.1 C.2.1 (f := f) ⟨C.2.2.1, hts _ f4, ⟨_, _, _, hi⟩, hst⟩ (by rw [q2]; exact h6) q1 q3 (by rw [hsl]; exact k2_hasslot (q4 kf f3)) rfl rfl hd fun H' e1 e2 e3 => ?_
  rw [hsl] at e1 ⊢
  refine k H' _ arr (h1.put hs (fun j a hj => (jv_up_i hj).symm) ?_ e3) (fun n hn => by rw [e2]; exact h2 n hn) (h3.put e2 e3 (Nat.le_add_right _ _)) h4
  refine ⟨_, f1, ?_⟩
  show t_OB _ _ _ _ _ (vp_V (jv_fs _ _ _ 0 ds))
  rw [← jv_fs_seti hf]
  refine t_OB.to (V := updV (vp_V (jv_fs s0.heap.size g i 0 ds)) kf (jv_i v)) ⟨_, e1, q2, q3, t_set q4 hap f3 _⟩ (fun j _ => vp_updV_set ?_ _ j)
  rw [jv_fs_len]
  exact (List.getElem?_eq_some_iff.mp hf).1
end JVH
end
section
def jv_Pc (s0 : State) (b0 : Addr) (D : va_G) (ids : Nat → ClassId) (ex : Option Nat) (sh : jv_Sh) (g : jv_Mem) (av : List Value) : Array Value → State → Prop := fun v U => v = av.toArray ∧ jv_G s0 b0 D ids U ∧ jv_H s0.heap.size D ids sh g U.heap ∧ ∀ n, ex = some n → U.heap.size = s0.heap.size + n
def jv_Qc (s0 : State) (D : va_G) (ids : Nat → ClassId) (ex : Option Nat) (sh : jv_Sh) (Q : Option Value → jv_Mem → Prop) : Array Value → State → Outcome → State → Prop := fun _ st o t => (∃ (v : Option Value) (g : jv_Mem), o = .returned v ∧ Q v g ∧ jv_H s0.heap.size D ids sh g t.heap ∧ ∀ n, ex = some n → t.heap.size = s0.heap.size + n) ∧ va_F (fun q => s0.heap.size ≤ q) st t
def jv_Xc (s0 : State) (D : va_G) (ids : Nat → ClassId) (sh : jv_Sh) (X : String → jv_Mem → Prop) : String → State → State → Prop := fun E st t => (∃ g : jv_Mem, X E g ∧ jv_H s0.heap.size D ids sh g t.heap) ∧ va_F (fun q => s0.heap.size ≤ q) st t
abbrev jv_rm (fr lo mc ms : Nat) : Room := { frames := fr, cells := mc, slots := ms, locals := lo }
/-- a method that returns -/
def jv_M (l : Launch) (s0 : State) (b0 : Addr) (D : va_G) (ids : Nat → ClassId) (y : MethodName) (cb : ByteArray) (mL : Nat) (rt : Option FieldType) (fr lo mc ms : Nat) (ex : Option Nat) (sh : jv_Sh) (g : jv_Mem) (av : List Value) (ex' : Option Nat) (sh' : jv_Sh) (Q : Option Value → jv_Mem → Prop) : Prop :=
  Met l y [Cond.code y cb mL rt] (jv_rm fr lo mc ms) (jv_Pc s0 b0 D ids ex sh g av) (jv_Qc s0 D ids ex' sh' Q) mc ms (fun q => s0.heap.size ≤ q)
/-- a method that returns or throws -/
def jv_MX (l : Launch) (s0 : State) (b0 : Addr) (D : va_G) (ids : Nat → ClassId) (y : MethodName) (cb : ByteArray) (mL : Nat) (rt : Option FieldType) (fr lo mc ms : Nat) (sh : jv_Sh) (g : jv_Mem) (av : List Value) (Q : Option Value → jv_Mem → Prop) (X : String → jv_Mem → Prop) : Prop :=
  vx_Met l y [Cond.code y cb mL rt] (jv_rm fr lo mc ms) (jv_Pc s0 b0 D ids none sh g av) (jv_Qc s0 D ids none sh Q) (jv_Xc s0 D ids sh X) mc ms (fun q => s0.heap.size ≤ q)
theorem jv_good {L : List Cond} (h : ∀ w ∈ L, w ∈ jv_tb) : GoodIn jv_tb L := fun w hw => ⟨h w hw, good_of_word (List.mem_filter.mp (h w hw)).2⟩
/-- the words of a call: of an instance's method, of a static one; among nest mates -/
def jv_KV (own : String) (idx : Nat) (y : MethodName) (cb : ByteArray) (mL : Nat) (rt : Option FieldType) (n : Nat) : Prop := Cond.methodLink own idx y ∈ jv_tb ∧ Cond.instanceMethod y ∈ jv_tb ∧ Cond.selects y.cls y y ∈ jv_tb ∧ Cond.initialized y.cls ∈ jv_tb ∧ Cond.code y cb mL rt ∈ jv_tb ∧ (y.cls ≠ "java/lang/invoke/MethodHandle" ∧ y.cls ≠ "java/lang/invoke/VarHandle" ∧ (parseMethodDescriptor y.desc).map (fun d => d.parameters.length) = some n)
def jv_KS (own : String) (idx : Nat) (y : MethodName) (cb : ByteArray) (mL : Nat) (rt : Option FieldType) (n : Nat) : Prop := Cond.methodLink own idx y ∈ jv_tb ∧ Cond.static y ∈ jv_tb ∧ Cond.initialized y.cls ∈ jv_tb ∧ Cond.code y cb mL rt ∈ jv_tb ∧ (y.cls ≠ "java/lang/invoke/MethodHandle" ∧ y.cls ≠ "java/lang/invoke/VarHandle" ∧ (parseMethodDescriptor y.desc).map (fun d => d.parameters.length) = some n)
def jv_KSN (own : String) (idx : Nat) (y : MethodName) (host : String) (cb : ByteArray) (mL : Nat) (rt : Option FieldType) (n : Nat) : Prop := Cond.methodLinkNest own idx y host ∈ lw_tbl ∧ Cond.static y ∈ jv_tb ∧ Cond.initialized y.cls ∈ jv_tb ∧ Cond.code y cb mL rt ∈ jv_tb ∧ (y.cls ≠ "java/lang/invoke/MethodHandle" ∧ y.cls ≠ "java/lang/invoke/VarHandle" ∧ (parseMethodDescriptor y.desc).map (fun d => d.parameters.length) = some n)
theorem jv_Pc.blind {s0 : State} {b0 : Addr} {D : va_G} {ids : Nat → ClassId} {ex : Option Nat} {sh : jv_Sh} {g : jv_Mem} {av : List Value} : FrameBlind (jv_Pc s0 b0 D ids ex sh g av) := fun _ _ _ _ h => h
section JVC
variable {p : Program} {l : Launch} {e : Env} {R : Room} {s : State} {m : MethodId} {args : Array Value} {below : List Frame} {meth : Method} {c : Code} {cells slots : Nat} {Z : State → Prop} {s0 : State} {b0 : Addr} {D : va_G} {ids : Nat → ClassId} {ex ex' : Option Nat} {sh sh' : jv_Sh} {g : jv_Mem} {pc : Nat} {ls ls' : List (Option Value)} {st st0 : List Value} {cc : ByteArray} {own : String}
variable {y : MethodName} {cb : ByteArray} {mL : Nat} {rt : Option FieldType} {fr lo mc ms n idx : Nat} {Q : Option Value → jv_Mem → Prop} {X : String → jv_Mem → Prop} {av : List Value}
theorem jv_G.pre (C : jv_C p s m args c cc own s0 b0 D ids) {H : Heap} {locs : List Loc} (h1 : jv_H s0.heap.size D ids sh g H) (h2 : ∀ n, ex = some n → H.size = s0.heap.size + n) (h3 : va_S (fun q => s0.heap.size ≤ q) s.heap H locs) (U : State) (hU : U.heap = H) (hW : s.WarmedH U.vm) : jv_Pc s0 b0 D ids ex sh g av av.toArray U := by
  obtain ⟨-, -, -, hZ, hw, hsz, hk⟩ := C
  refine ⟨rfl, ⟨hZ, State.WarmedH.trans hw hW, ?_, fun q hq => ?_⟩, by rw [hU]; exact h1, fun n hn => by rw [hU]; exact h2 n hn⟩
  · rw [hU]; exact Nat.le_trans hsz h3.1
  · rw [hU, h3.2.1 q (Nat.lt_of_lt_of_le hq hsz) (Nat.not_le.mpr hq)]
    exact hk q hq
theorem jv_S.back {H H1 : Heap} {locs L : List Loc} {t st₀ : State} (h3 : va_S (fun q => s0.heap.size ≤ q) s.heap H locs) (h0 : st₀.heap = H) (e1 : H1 = t.heap) (hF : va_F (fun q => s0.heap.size ≤ q) st₀ t) (hL : ∀ q ∈ L, s0.heap.size ≤ q.base) : va_S (fun q => s0.heap.size ≤ q) s.heap H1 (locs ++ L) := by
  obtain ⟨hz, hk⟩ := hF
  rw [h0] at hz hk
  refine ⟨Nat.le_trans h3.1 (by rw [e1]; exact hz), fun q h1 h2 => by rw [e1, hk q (Nat.lt_of_lt_of_le h1 h3.1) h2]; exact h3.2.1 q h1 h2, fun q hq => ?_⟩
  rcases List.mem_append.mp hq with h | h
  · exact h3.2.2 q h
  · exact hL q h
theorem jv_back {H : Heap} {locs : List Loc} {arr : Array Slot} {a : Array Value} (hr : va_Run p l e R s m args below meth c H locs cells slots mc ms (F0 m pc arr st0) st (jv_Qc s0 D ids ex' sh' Q a) (fun q => s0.heap.size ≤ q)) (h3 : va_S (fun q => s0.heap.size ≤ q) s.heap H locs) (h4 : jv_L arr c.maxLocals ls)
    (k : ∀ v g', Q v g' → jv_V p l e R s m args below meth c (cells + mc) (slots + ms) Z s0 D ids ex' sh' g' (pc + 3) ls (v.toList ++ st)) : W p l e R s m args below meth c H locs cells slots Z (F0 m pc arr st0) := by
  intro T hT X
  obtain ⟨v, st₀, t, T', L, h0, X', hL, e1, e2, ⟨⟨v', g', hv, hp, hb, hz⟩, hF⟩, stp⟩ := hr T hT X
  cases hv
  obtain ⟨t2, a1, b1⟩ := k v g' hp T'.heap (locs ++ L) arr (by rw [e1]; exact hb) (fun n hn => by rw [e1]; exact hz n hn) (jv_S.back h3 h0 e1 hF hL) h4 T' rfl X'
  exact ⟨t2, stp t2 a1, b1⟩
/-- q of the class E thrown over this frame -/
def jv_VX (p : Program) (l : Launch) (e : Env) (R : Room) (s : State) (m : MethodId) (args : Array Value) (below : List Frame) (meth : Method) (c : Code) (cells slots : Nat) (Z : State → Prop) (s0 : State) (D : va_G) (ids : Nat → ClassId) (sh : jv_Sh) (g : jv_Mem) (pc : Nat) (ls : List (Option Value)) (st : List Value) (E : String) : Prop :=
  ∀ (H : Heap) (locs : List Loc) (arr : Array Slot) (q : Addr) (ce : Cell), jv_H s0.heap.size D ids sh g H → va_S (fun q => s0.heap.size ≤ q) s.heap H locs → jv_L arr c.maxLocals ls → H[q]? = some ce → ce.vm = .none → s.vm.findClass E = some ce.cls → vx_W p l e R s m args below meth c H locs cells slots Z (F0 m pc arr st) q
theorem jv_backX {H : Heap} {locs : List Loc} {arr : Array Slot} {a : Array Value} (hr : vx_Run p l e R s m args below meth c H locs cells slots mc ms (F0 m pc arr st0) st (jv_Qc s0 D ids none sh Q a) (jv_Xc s0 D ids sh X) (fun q => s0.heap.size ≤ q)) (h3 : va_S (fun q => s0.heap.size ≤ q) s.heap H locs) (h4 : jv_L arr c.maxLocals ls)
    (k : ∀ v g', Q v g' → jv_V p l e R s m args below meth c (cells + mc) (slots + ms) Z s0 D ids none sh g' (pc + 3) ls (v.toList ++ st)) (kx : ∀ E g', X E g' → jv_VX p l e R s m args below meth c (cells + mc) (slots + ms) Z s0 D ids sh g' pc ls st E) : W p l e R s m args below meth c H locs cells slots Z (F0 m pc arr st0) := by
  intro T hT X
  rcases hr T hT X with ⟨v, st₀, t, T', L, h0, X', hL, e1, e2, ⟨⟨v', g', hv, hp, hb, hz⟩, hF⟩, stp⟩ | ⟨q, st₀, t, T', L, E, ce, h0, X', hL, e1, e2, ⟨⟨g', hp, hb⟩, hF⟩, hce, hcv, hcl, stp⟩
  · cases hv
    obtain ⟨t2, a1, b1⟩ := k v g' hp T'.heap (locs ++ L) arr (by rw [e1]; exact hb) (fun n hn => by cases hn) (jv_S.back h3 h0 e1 hF hL) h4 T' rfl X'
    exact ⟨t2, stp t2 a1, b1⟩
  · obtain ⟨t2, a1, b1⟩ := kx E g' hp T'.heap (locs ++ L) arr q ce (by rw [e1]; exact hb) (jv_S.back h3 h0 e1 hF hL) h4 (by rw [e1]; exact hce) hcv hcl T' rfl X'
    exact ⟨t2, stp.trans a1, b1⟩
theorem jv_recv (C : jv_C p s m args c cc own s0 b0 D ids) {i : Int} {ci : Nat} {ds : List (Option (Option Int))} {K : String} {H : Heap} (hs : sh i = some (.inr (ci, ds))) (hK : (vwCl[ci]?).map (fun q => q.1) = some K) (h1 : jv_H s0.heap.size D ids sh g H) : ∃ cellB : Cell, H[s0.heap.size + i.toNat]? = some cellB ∧ cellB.vm.isStatics = false ∧ s.vm.findClass K = some cellB.cls := by
  cases hc : vwCl[ci]? with
  | none => rw [hc] at hK; cases hK
  | some q =>
    rw [hc] at hK
    have hq : q.1 = K := Option.some.inj hK
    subst hq
    exact va_recv C.2.2.2.K (va_P.one (h1 i _ hs).2) (q0 := 0) hc rfl
theorem jv_fix (C : jv_C p s m args c cc own s0 b0 D ids) : CallFix p m c cc c.maxLocals s args jv_tb own := ⟨C.1, C.2.1, rfl, C.2.2.1, C.2.2.2.hts⟩
theorem jv_cw (C : jv_C p s m args c cc own s0 b0 D ids) (hK : jv_KV own idx y cb mL rt n) (hR : Nat.ble (fr + 1) R.frames = true ∧ Nat.ble (8 + (mL + 11) + lo) R.locals = true) : CallW R s args own y.cls idx y cb mL rt [Cond.code y cb mL rt] (jv_rm fr lo mc ms) mc ms n := by
  obtain ⟨k1, k2, k3, k4, k5, k6⟩ := hK
  have hts := C.2.2.2.hts (a := args)
  exact ⟨callB_of n hts (jv_good (fun w hw => by rw [List.mem_singleton.mp hw]; exact k5)) rfl rfl rfl (hts _ k4) (hts _ k1) k6 ⟨Nat.le_of_ble_eq_true hR.1, Nat.le_of_ble_eq_true hR.2⟩, hts _ k2, hts _ k3⟩
theorem jv_cs (C : jv_C p s m args c cc own s0 b0 D ids) (hK : jv_KS own idx y cb mL rt n) (hR : Nat.ble (fr + 1) R.frames = true ∧ Nat.ble (8 + (mL + 11) + lo) R.locals = true) : CallB R s args own idx y cb mL rt [Cond.code y cb mL rt] (jv_rm fr lo mc ms) mc ms n ∧ (Cond.static y).before args s = true := by
  obtain ⟨k1, k2, k4, k5, k6⟩ := hK
  have hts := C.2.2.2.hts (a := args)
  exact ⟨callB_of n hts (jv_good (fun w hw => by rw [List.mem_singleton.mp hw]; exact k5)) rfl rfl rfl (hts _ k4) (hts _ k1) k6 ⟨Nat.le_of_ble_eq_true hR.1, Nat.le_of_ble_eq_true hR.2⟩, hts _ k2⟩
/-- a call of an instance's method that returns -/
theorem jv_callV (C : jv_C p s m args c cc own s0 b0 D ids) {i : Int} {ci : Nat} {ds : List (Option (Option Int))} {As : List Value} (M : jv_M l s0 b0 D ids y cb mL rt fr lo mc ms ex sh g (.ref (s0.heap.size + i.toNat) :: As) ex' sh' Q) (hK : jv_KV own idx y cb mL rt n) (hs : sh i = some (.inr (ci, ds))) (hcn : (vwCl[ci]?).map (fun q => q.1) = some y.cls) (hn : As.length = n) (hR : Nat.ble (fr + 1) R.frames = true ∧ Nat.ble (8 + (mL + 11) + lo) R.locals = true) (hst : st0 = As.reverse ++ .ref (s0.heap.size + i.toNat) :: st) (hroom : Nat.ble (st.map fun v => v.category).sum 8 = true) (hf : Nat.ble (cells + mc) R.cells = true ∧ Nat.ble (slots + ms) R.slots = true) (hd : decode cc pc = .ok (.invokevirtual idx, 3))
    (k : ∀ v g', Q v g' → jv_V p l e R s m args below meth c (cells + mc) (slots + ms) Z s0 D ids ex' sh' g' (pc + 3) ls (v.toList ++ st)) : jv_V p l e R s m args below meth c cells slots Z s0 D ids ex sh g pc ls st0 := by
  intro H locs arr h1 h2 h3 h4
  exact jv_back (va_runV (jv_fix C) M (jv_cw C hK hR) ⟨jv_Pc.blind, jv_recv C hs hcn h1, fun U hU hW => jv_G.pre C h1 h2 h3 U hU hW⟩ rfl hn h4.1.1 hst (lv_room (Nat.le_of_ble_eq_true hroom)) hd ⟨Nat.le_of_ble_eq_true hf.1, Nat.le_of_ble_eq_true hf.2⟩) h3 h4 k
theorem jv_callS (C : jv_C p s m args c cc own s0 b0 D ids) {As : List Value} (M : jv_M l s0 b0 D ids y cb mL rt fr lo mc ms ex sh g As ex' sh' Q) (hK : jv_KS own idx y cb mL rt n) (hn : As.length = n) (hR : Nat.ble (fr + 1) R.frames = true ∧ Nat.ble (8 + (mL + 11) + lo) R.locals = true) (hst : st0 = As.reverse ++ st) (hroom : Nat.ble (st.map fun v => v.category).sum 8 = true) (hf : Nat.ble (cells + mc) R.cells = true ∧ Nat.ble (slots + ms) R.slots = true) (hd : decode cc pc = .ok (.invokestatic idx, 3))
    (k : ∀ v g', Q v g' → jv_V p l e R s m args below meth c (cells + mc) (slots + ms) Z s0 D ids ex' sh' g' (pc + 3) ls (v.toList ++ st)) : jv_V p l e R s m args below meth c cells slots Z s0 D ids ex sh g pc ls st0 := by
  intro H locs arr h1 h2 h3 h4
  exact jv_back (va_runS (jv_fix C) M (jv_cs C hK hR) ⟨jv_Pc.blind, fun U hU hW => jv_G.pre C h1 h2 h3 U hU hW⟩ rfl hn h4.1.1 hst (lv_room (Nat.le_of_ble_eq_true hroom)) hd ⟨Nat.le_of_ble_eq_true hf.1, Nat.le_of_ble_eq_true hf.2⟩) h3 h4 k
theorem jv_callSN (C : jv_C p s m args c cc own s0 b0 D ids) {host : String} {As : List Value} (M : jv_M l s0 b0 D ids y cb mL rt fr lo mc ms ex sh g As ex' sh' Q) (hK : jv_KSN own idx y host cb mL rt n) (hn : As.length = n) (hR : Nat.ble (fr + 1) R.frames = true ∧ Nat.ble (8 + (mL + 11) + lo) R.locals = true) (hst : st0 = As.reverse ++ st) (hroom : Nat.ble (st.map fun v => v.category).sum 8 = true) (hf : Nat.ble (cells + mc) R.cells = true ∧ Nat.ble (slots + ms) R.slots = true) (hd : decode cc pc = .ok (.invokestatic idx, 3))
    (k : ∀ v g', Q v g' → jv_V p l e R s m args below meth c (cells + mc) (slots + ms) Z s0 D ids ex' sh' g' (pc + 3) ls (v.toList ++ st)) : jv_V p l e R s m args below meth c cells slots Z s0 D ids ex sh g pc ls st0 := by
  intro H locs arr h1 h2 h3 h4
  obtain ⟨k1, k2, k4, k5, k6⟩ := hK
  have hts := C.2.2.2.hts (a := args)
  have hl : va_Nw (.methodLinkNest own idx y host) s := va_Nw.warmM C.2.2.2.2.1 (va_Nw.of rfl (C.2.2.2.1.1 _ k1))
  exact jv_back (va_runSN (jv_fix C) M ⟨va_cnB n hts (jv_good (fun w hw => by rw [List.mem_singleton.mp hw]; exact k5)) rfl rfl rfl hl (hts _ k4) k6 ⟨Nat.le_of_ble_eq_true hR.1, Nat.le_of_ble_eq_true hR.2⟩, hts _ k2, trivial⟩ ⟨jv_Pc.blind, fun U hU hW => jv_G.pre C h1 h2 h3 U hU hW⟩ rfl hn h4.1.1 hst (lv_room (Nat.le_of_ble_eq_true hroom)) hd ⟨Nat.le_of_ble_eq_true hf.1, Nat.le_of_ble_eq_true hf.2⟩) h3 h4 k
/-- calls of methods that return or throw -/
theorem jv_callVX (C : jv_C p s m args c cc own s0 b0 D ids) {i : Int} {ci : Nat} {ds : List (Option (Option Int))} {As : List Value} (M : jv_MX l s0 b0 D ids y cb mL rt fr lo mc ms sh g (.ref (s0.heap.size + i.toNat) :: As) Q X) (hK : jv_KV own idx y cb mL rt n) (hs : sh i = some (.inr (ci, ds))) (hcn : (vwCl[ci]?).map (fun q => q.1) = some y.cls) (hn : As.length = n) (hR : Nat.ble (fr + 1) R.frames = true ∧ Nat.ble (8 + (mL + 11) + lo) R.locals = true) (hst : st0 = As.reverse ++ .ref (s0.heap.size + i.toNat) :: st) (hroom : Nat.ble (st.map fun v => v.category).sum 8 = true) (hf : Nat.ble (cells + mc) R.cells = true ∧ Nat.ble (slots + ms) R.slots = true) (hd : decode cc pc = .ok (.invokevirtual idx, 3))
    (k : ∀ v g', Q v g' → jv_V p l e R s m args below meth c (cells + mc) (slots + ms) Z s0 D ids none sh g' (pc + 3) ls (v.toList ++ st)) (kx : ∀ E g', X E g' → jv_VX p l e R s m args below meth c (cells + mc) (slots + ms) Z s0 D ids sh g' pc ls st E) : jv_V p l e R s m args below meth c cells slots Z s0 D ids none sh g pc ls st0 := by
  intro H locs arr h1 h2 h3 h4
  exact jv_backX (vx_runV (jv_fix C) M (jv_cw C hK hR) ⟨jv_Pc.blind, jv_recv C hs hcn h1, fun U hU hW => jv_G.pre C h1 h2 h3 U hU hW⟩ rfl hn h4.1.1 hst (lv_room (Nat.le_of_ble_eq_true hroom)) hd ⟨Nat.le_of_ble_eq_true hf.1, Nat.le_of_ble_eq_true hf.2⟩) h3 h4 k kx
theorem jv_callSX (C : jv_C p s m args c cc own s0 b0 D ids) {As : List Value} (M : jv_MX l s0 b0 D ids y cb mL rt fr lo mc ms sh g As Q X) (hK : jv_KS own idx y cb mL rt n) (hn : As.length = n) (hR : Nat.ble (fr + 1) R.frames = true ∧ Nat.ble (8 + (mL + 11) + lo) R.locals = true) (hst : st0 = As.reverse ++ st) (hroom : Nat.ble (st.map fun v => v.category).sum 8 = true) (hf : Nat.ble (cells + mc) R.cells = true ∧ Nat.ble (slots + ms) R.slots = true) (hd : decode cc pc = .ok (.invokestatic idx, 3))
    (k : ∀ v g', Q v g' → jv_V p l e R s m args below meth c (cells + mc) (slots + ms) Z s0 D ids none sh g' (pc + 3) ls (v.toList ++ st)) (kx : ∀ E g', X E g' → jv_VX p l e R s m args below meth c (cells + mc) (slots + ms) Z s0 D ids sh g' pc ls st E) : jv_V p l e R s m args below meth c cells slots Z s0 D ids none sh g pc ls st0 := by
  intro H locs arr h1 h2 h3 h4
  exact jv_backX (vx_runS (jv_fix C) M (jv_cs C hK hR) ⟨jv_Pc.blind, fun U hU hW => jv_G.pre C h1 h2 h3 U hU hW⟩ rfl hn h4.1.1 hst (lv_room (Nat.le_of_ble_eq_true hroom)) hd ⟨Nat.le_of_ble_eq_true hf.1, Nat.le_of_ble_eq_true hf.2⟩) h3 h4 k kx
theorem jv_mmax (C : jv_C p s m args c cc own s0 b0 D ids) {x z : Int} (hx : jv_r x) (hz : jv_r z) (hK : Cond.methodLink own idx Lib.Math.max.name ∈ jv_tb) (hK2 : Cond.static Lib.Math.max.name ∈ jv_tb) (hK3 : Cond.initialized "java/lang/Math" ∈ jv_tb) (hK4 : Cond.code Lib.Math.max.name Lib.Math.max.code 2 (some .int) ∈ jv_tb) (hR : Nat.ble 1 R.frames = true ∧ Nat.ble ((st.map fun v => v.category).sum + 13) R.locals = true) (hc : Nat.ble cells R.cells = true ∧ Nat.ble slots R.slots = true) (hd : decode cc pc = .ok (.invokestatic idx, 3)) (k : jv_V p l e R s m args below meth c cells slots Z s0 D ids ex sh g (pc + 3) ls (jv_i (if x < z then z else x) :: st)) : jv_V p l e R s m args below meth c cells slots Z s0 D ids ex sh g pc ls (jv_i z :: jv_i x :: st) := by
  intro H locs arr h1 h2 h3 h4
  have hts := C.2.2.2.hts (a := args)
  refine va_mmax C.1 C.2.1 h4.1.1.symm C.2.2.1 (hts _ hK) (hts _ hK2) (hts _ hK3) (hts _ hK4) (Nat.le_of_ble_eq_true hR.1) (Nat.le_of_ble_eq_true hR.2) (Nat.le_of_ble_eq_true hc.1) (Nat.le_of_ble_eq_true hc.2) hd ?_
  have h := k H locs arr h1 h2 h3 h4
  have e : (if Int32.ofInt x < Int32.ofInt z then Int32.ofInt z else Int32.ofInt x) = Int32.ofInt (if x < z then z else x) := by
    by_cases h : x < z
    · rw [if_pos h, if_pos ((jv_rlt hx hz).mpr h)]
    · rw [if_neg h, if_neg (fun h' => h ((jv_rlt hx hz).mp h'))]
  rw [e]; exact h
theorem jv_mmin (C : jv_C p s m args c cc own s0 b0 D ids) {x z : Int} (hx : jv_r x) (hz : jv_r z) (hK : Cond.methodLink own idx Lib.Math.min.name ∈ jv_tb) (hK2 : Cond.static Lib.Math.min.name ∈ jv_tb) (hK3 : Cond.initialized "java/lang/Math" ∈ jv_tb) (hK4 : Cond.code Lib.Math.min.name Lib.Math.min.code 2 (some .int) ∈ jv_tb) (hR : Nat.ble 1 R.frames = true ∧ Nat.ble ((st.map fun v => v.category).sum + 13) R.locals = true) (hc : Nat.ble cells R.cells = true ∧ Nat.ble slots R.slots = true) (hd : decode cc pc = .ok (.invokestatic idx, 3)) (k : jv_V p l e R s m args below meth c cells slots Z s0 D ids ex sh g (pc + 3) ls (jv_i (if z < x then z else x) :: st)) : jv_V p l e R s m args below meth c cells slots Z s0 D ids ex sh g pc ls (jv_i z :: jv_i x :: st) := by
  intro H locs arr h1 h2 h3 h4
  have hts := C.2.2.2.hts (a := args)
  refine va_mmin C.1 C.2.1 h4.1.1.symm C.2.2.1 (hts _ hK) (hts _ hK2) (hts _ hK3) (hts _ hK4) (Nat.le_of_ble_eq_true hR.1) (Nat.le_of_ble_eq_true hR.2) (Nat.le_of_ble_eq_true hc.1) (Nat.le_of_ble_eq_true hc.2) hd ?_
  have h := k H locs arr h1 h2 h3 h4
  have e : (if Int32.ofInt z < Int32.ofInt x then Int32.ofInt z else Int32.ofInt x) = Int32.ofInt (if z < x then z else x) := by
    by_cases h : z < x
    · rw [if_pos h, if_pos ((jv_rlt hz hx).mpr h)]
    · rw [if_neg h, if_neg (fun h' => h ((jv_rlt hz hx).mp h'))]
  rw [e]; exact h
end JVC
end
section
section JVE
variable {p : Program} {l : Launch} {e : Env} {R : Room} {s : State} {m : MethodId} {args : Array Value} {below : List Frame} {meth : Method} {c : Code} {cells slots : Nat} {Z : State → Prop} {s0 : State} {b0 : Addr} {D : va_G} {ids : Nat → ClassId} {ex ex' : Option Nat} {sh sh' : jv_Sh} {g : jv_Mem} {pc : Nat} {ls ls' : List (Option Value)} {st st0 : List Value} {cc : ByteArray} {own : String}
variable {y : MethodName} {cb : ByteArray} {mL : Nat} {rt : Option FieldType} {fr lo mc ms n idx : Nat} {Q : Option Value → jv_Mem → Prop} {X : String → jv_Mem → Prop} {av : List Value}
abbrev jv_ZM (below : List Frame) (s0 : State) (D : va_G) (ids : Nat → ClassId) (ex : Option Nat) (sh : jv_Sh) (Q : Option Value → jv_Mem → Prop) (args : Array Value) (s : State) (mc ms : Nat) : State → Prop := MQ below (jv_Qc s0 D ids ex sh Q) args s mc ms (fun q => s0.heap.size ≤ q)
abbrev jv_ZX (below : List Frame) (s0 : State) (D : va_G) (ids : Nat → ClassId) (sh : jv_Sh) (Q : Option Value → jv_Mem → Prop) (X : String → jv_Mem → Prop) (args : Array Value) (s : State) (mc ms : Nat) : State → Prop := vx_MQ below (jv_Qc s0 D ids none sh Q) (jv_Xc s0 D ids sh X) args s mc ms (fun q => s0.heap.size ≤ q)
theorem jv_endQ {v : Option Value} (hq : Q v g) {H : Heap} {locs : List Loc} (h1 : jv_H s0.heap.size D ids sh g H) (h2 : ∀ n, ex = some n → H.size = s0.heap.size + n) (h3 : va_S (fun q => s0.heap.size ≤ q) s.heap H locs) (t : State) (ht : t.heap = H) : jv_Qc s0 D ids ex sh Q args s (.returned v) t :=
  ⟨⟨v, g, rfl, hq, by rw [ht]; exact h1, fun n hn => by rw [ht]; exact h2 n hn⟩, h3.F ht⟩
theorem jv_iret (C : jv_C p s m args c cc own s0 b0 D ids) (hr : meth.sig.returnType = some .int) (hlocks : meth.locks = false) {x : Int} (hq : Q (some (jv_i x)) g) (hd : decode cc pc = .ok (.ireturn, 1)) (hc : Nat.ble cells mc = true ∧ Nat.ble slots ms = true) : jv_V p l e R s m args below meth c cells slots (jv_ZM below s0 D ids ex sh Q args s mc ms) s0 D ids ex sh g pc ls [jv_i x] :=
  fun _ _ _ h1 h2 h3 _ => W.widen (Nat.le_of_ble_eq_true hc.1) (Nat.le_of_ble_eq_true hc.2) (W.iret C.1 C.2.1 hr (fun t ht _ => jv_endQ hq h1 h2 h3 t ht) h3.2.2 hd hlocks)
theorem jv_zret (C : jv_C p s m args c cc own s0 b0 D ids) {ty : FieldType} (hr : meth.sig.returnType = some ty) (hlocks : meth.locks = false) {x : Int} (hn : narrow ty (jv_i x) = jv_i x) (hq : Q (some (jv_i x)) g) (hd : decode cc pc = .ok (.ireturn, 1)) (hc : Nat.ble cells mc = true ∧ Nat.ble slots ms = true) : jv_V p l e R s m args below meth c cells slots (jv_ZM below s0 D ids ex sh Q args s mc ms) s0 D ids ex sh g pc ls [jv_i x] :=
  fun _ _ _ h1 h2 h3 _ => W.widen (Nat.le_of_ble_eq_true hc.1) (Nat.le_of_ble_eq_true hc.2) (W.zret C.1 C.2.1 hr hn (fun t ht _ => jv_endQ hq h1 h2 h3 t ht) h3.2.2 hd hlocks)
theorem jv_vret (C : jv_C p s m args c cc own s0 b0 D ids) (hr : meth.sig.returnType = none) (hlocks : meth.locks = false) (hq : Q none g) (hd : decode cc pc = .ok (.return_, 1)) (hc : Nat.ble cells mc = true ∧ Nat.ble slots ms = true) : jv_V p l e R s m args below meth c cells slots (jv_ZM below s0 D ids ex sh Q args s mc ms) s0 D ids ex sh g pc ls [] :=
  fun _ _ _ h1 h2 h3 _ => W.widen (Nat.le_of_ble_eq_true hc.1) (Nat.le_of_ble_eq_true hc.2) (W.vret C.1 C.2.1 hr (fun t ht _ => jv_endQ hq h1 h2 h3 t ht) h3.2.2 hd hlocks)
theorem jv_aret (C : jv_C p s m args c cc own s0 b0 D ids) {K : String} (hr : meth.sig.returnType = some (.object K)) (hlocks : meth.locks = false) {a : Addr} (hq : Q (some (.ref a)) g) (hd : decode cc pc = .ok (.areturn, 1)) (hc : Nat.ble cells mc = true ∧ Nat.ble slots ms = true) : jv_V p l e R s m args below meth c cells slots (jv_ZM below s0 D ids ex sh Q args s mc ms) s0 D ids ex sh g pc ls [.ref a] :=
  fun _ _ _ h1 h2 h3 _ => W.widen (Nat.le_of_ble_eq_true hc.1) (Nat.le_of_ble_eq_true hc.2) (W.aret C.1 C.2.1 hr (Or.inl ⟨K, rfl⟩) (Or.inr ⟨a, rfl⟩) (fun t ht _ => jv_endQ hq h1 h2 h3 t ht) h3.2.2 hd hlocks)
theorem jv_xret (k : jv_V p l e R s m args below meth c cells slots (jv_ZM below s0 D ids none sh' Q args s mc ms) s0 D ids ex sh g pc ls st) : jv_V p l e R s m args below meth c cells slots (jv_ZX below s0 D ids sh' Q X args s mc ms) s0 D ids ex sh g pc ls st :=
  fun H locs arr h1 h2 h3 h4 => vx_ret (k H locs arr h1 h2 h3 h4)
/-- what is thrown here goes on to the caller -/
theorem jv_xout (ht : ∀ x ∈ c.exceptionTable.toList, False) (hlocks : meth.locks = false) {E : String} (hx : X E g) (hc : Nat.ble cells mc = true ∧ Nat.ble slots ms = true) : jv_VX p l e R s m args below meth c cells slots (jv_ZX below s0 D ids sh Q X args s mc ms) s0 D ids sh g pc ls st E :=
  fun _ _ _ _ _ h1 h3 _ hq hv hcl => vx_out (fun x hx => (ht x hx).elim) hlocks hq hv hcl (fun t ht' _ => ⟨⟨g, hx, by rw [ht']; exact h1⟩, h3.F ht'⟩) h3.2.2 (Nat.le_of_ble_eq_true hc.1) (Nat.le_of_ble_eq_true hc.2)
theorem jv_M.of (hy : plainName y.cls = true) (hl : Nat.ble (lg_sl av).length mL = true) (hcat : ∀ v ∈ av, v.category = 1)
    (body : ∀ (p : Program) (e : Env) (s : State) (m : MethodId) (args : Array Value) (below : List Frame) (meth : Method) (c : Code), jv_C p s m args c cb y.cls s0 b0 D ids → mL = c.maxLocals → meth.sig.returnType = rt → meth.locks = false → meth.name = y.name → jv_V p l e (jv_rm fr lo mc ms) s m args below meth c 0 0 (jv_ZM below s0 D ids ex' sh' Q args s mc ms) s0 D ids ex sh g 0 (av.map some ++ List.replicate (mL - av.length) none) []) : jv_M l s0 b0 D ids y cb mL rt fr lo mc ms ex sh g av ex' sh' Q := by
  refine Met.ofW (cc := cb) (maxL := mL) (ret := rt) hy rfl ?_
  intro p e s m args below meth c s₁ B hml hv
  obtain ⟨rfl, hG, hH, hz⟩ := hv
  have hown : s.vm.findClass y.cls = some m.cls := findClass_of_methodNamed B.named
  have hin : meth.name = y.name := (name_of_methodNamed B.named B.method).1
  have hl' := Nat.le_of_ble_eq_true hl
  rw [lg_entry_eq]
  exact body p e s m _ below meth c ⟨B.exec, B.bytes, hown, hG⟩ hml.symm B.returns B.notSynchronized hin s.heap [] _ hH hz va_S.rf (by rw [hml]; exact jv_L.entry av hl' hcat)
theorem jv_MX.of (hy : plainName y.cls = true) (hl : Nat.ble (lg_sl av).length mL = true) (hcat : ∀ v ∈ av, v.category = 1)
    (body : ∀ (p : Program) (e : Env) (s : State) (m : MethodId) (args : Array Value) (below : List Frame) (meth : Method) (c : Code), jv_C p s m args c cb y.cls s0 b0 D ids → mL = c.maxLocals → meth.sig.returnType = rt → meth.locks = false → (∀ x ∈ c.exceptionTable.toList, False) → jv_V p l e (jv_rm fr lo mc ms) s m args below meth c 0 0 (jv_ZX below s0 D ids sh Q X args s mc ms) s0 D ids none sh g 0 (av.map some ++ List.replicate (mL - av.length) none) []) : jv_MX l s0 b0 D ids y cb mL rt fr lo mc ms sh g av Q X := by
  refine vx_ofW (cc := cb) (maxL := mL) (ret := rt) hy rfl ?_
  intro p e s m args below meth c s₁ B hml htab hv
  obtain ⟨rfl, hG, hH, hz⟩ := hv
  have hown : s.vm.findClass y.cls = some m.cls := findClass_of_methodNamed B.named
  have hl' := Nat.le_of_ble_eq_true hl
  rw [lg_entry_eq]
  exact body p e s m _ below meth c ⟨B.exec, B.bytes, hown, hG⟩ hml.symm B.returns B.notSynchronized htab s.heap [] _ hH hz va_S.rf (by rw [hml]; exact jv_L.entry av hl' hcat)
end JVE
/-- loops: by an invariant and a number that falls -/
def jv_lp1 {A : Type} (body : (A → Prop) → A → Prop) (a : A) : Prop := ∃ I : Nat → A → Prop, (∃ n, I n a) ∧ ∀ n a, I n a → body (fun a' => ∃ n', n' < n ∧ I n' a') a
theorem jv_lp1.use {A : Type} {body : (A → Prop) → A → Prop} {a : A} (h : jv_lp1 body a) (W : A → Prop) (step : ∀ (K : A → Prop), (∀ a', K a' → W a') → ∀ a, body K a → W a) : W a := by
  obtain ⟨I, ⟨n, h0⟩, hs⟩ := h
  have key : ∀ n a, I n a → W a := by
    intro n
    induction n using Nat.strongRecOn with
    | ind n ih => exact fun a ha => step _ (fun a' h' => by obtain ⟨n', h1, h2⟩ := h'; exact ih n' h1 a' h2) a (hs n a ha)
  exact key n a h0
end
